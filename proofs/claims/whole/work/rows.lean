section
-- ===== PART A: goes FIRST, ahead of the names: the tables' words, and 'selects' of the private methods out of them =====
/-- a private method of a class that the tables say can be made, by its rows of tables_1 -/
def lw_okq (q : MethodName × Nat) : Prop := (q.1.cls ≠ "java/lang/invoke/MethodHandle" ∧ q.1.cls ≠ "java/lang/invoke/VarHandle") ∧ Cond.instantiable q.1.cls q.2 ∈ tables_1 ∧ Cond.privateMethod q.1 ∈ tables_1 ∧ Cond.instanceMethod q.1 ∈ tables_1
theorem lw_p0 : lw_okq (⟨"TwoEndQueues$HeapLayout", "down", "(I)V"⟩, 4) := ⟨⟨by decide +kernel, by decide +kernel⟩, List.mem_of_getElem? (i := 77) (by decide +kernel), List.mem_of_getElem? (i := 257) (by decide +kernel), List.mem_of_getElem? (i := 258) (by decide +kernel)⟩
theorem lw_p1 : lw_okq (⟨"TwoEndQueues$IntervalLayout", "sinkLow", "(I)V"⟩, 3) := ⟨⟨by decide +kernel, by decide +kernel⟩, List.mem_of_getElem? (i := 34) (by decide +kernel), List.mem_of_getElem? (i := 274) (by decide +kernel), List.mem_of_getElem? (i := 275) (by decide +kernel)⟩
theorem lw_p2 : lw_okq (⟨"TwoEndQueues$IntervalLayout", "order", "(I)V"⟩, 3) := ⟨⟨by decide +kernel, by decide +kernel⟩, List.mem_of_getElem? (i := 34) (by decide +kernel), List.mem_of_getElem? (i := 278) (by decide +kernel), List.mem_of_getElem? (i := 279) (by decide +kernel)⟩
theorem lw_p3 : lw_okq (⟨"TwoEndQueues$IntervalLayout", "sinkHigh", "(I)V"⟩, 3) := ⟨⟨by decide +kernel, by decide +kernel⟩, List.mem_of_getElem? (i := 34) (by decide +kernel), List.mem_of_getElem? (i := 294) (by decide +kernel), List.mem_of_getElem? (i := 295) (by decide +kernel)⟩
theorem lw_p4 : lw_okq (⟨"TwoEndQueues$IntervalLayout", "top", "(I)I"⟩, 3) := ⟨⟨by decide +kernel, by decide +kernel⟩, List.mem_of_getElem? (i := 34) (by decide +kernel), List.mem_of_getElem? (i := 298) (by decide +kernel), List.mem_of_getElem? (i := 299) (by decide +kernel)⟩
theorem lw_p5 : lw_okq (⟨"TwoEndQueues$LevelLayout", "sink", "(I)V"⟩, 3) := ⟨⟨by decide +kernel, by decide +kernel⟩, List.mem_of_getElem? (i := 67) (by decide +kernel), List.mem_of_getElem? (i := 305) (by decide +kernel), List.mem_of_getElem? (i := 306) (by decide +kernel)⟩
theorem lw_p6 : lw_okq (⟨"TwoEndQueues$LevelLayout", "foremostBelow", "(IZ)I"⟩, 3) := ⟨⟨by decide +kernel, by decide +kernel⟩, List.mem_of_getElem? (i := 67) (by decide +kernel), List.mem_of_getElem? (i := 315) (by decide +kernel), List.mem_of_getElem? (i := 316) (by decide +kernel)⟩
theorem lw_p7 : lw_okq (⟨"TwoEndQueues$Script", "current", "()C"⟩, 7) := ⟨⟨by decide +kernel, by decide +kernel⟩, List.mem_of_getElem? (i := 125) (by decide +kernel), List.mem_of_getElem? (i := 427) (by decide +kernel), List.mem_of_getElem? (i := 428) (by decide +kernel)⟩
theorem lw_p8 : lw_okq (⟨"TwoEndQueues$Script", "readArguments", "()Z"⟩, 7) := ⟨⟨by decide +kernel, by decide +kernel⟩, List.mem_of_getElem? (i := 125) (by decide +kernel), List.mem_of_getElem? (i := 434) (by decide +kernel), List.mem_of_getElem? (i := 435) (by decide +kernel)⟩
theorem lw_p9 : lw_okq (⟨"TwoEndQueues$Script", "readKey", "()Z"⟩, 7) := ⟨⟨by decide +kernel, by decide +kernel⟩, List.mem_of_getElem? (i := 125) (by decide +kernel), List.mem_of_getElem? (i := 438) (by decide +kernel), List.mem_of_getElem? (i := 439) (by decide +kernel)⟩
theorem lw_p10 : lw_okq (⟨"TwoEndQueues$Script", "readSign", "(C)Z"⟩, 7) := ⟨⟨by decide +kernel, by decide +kernel⟩, List.mem_of_getElem? (i := 125) (by decide +kernel), List.mem_of_getElem? (i := 442) (by decide +kernel), List.mem_of_getElem? (i := 443) (by decide +kernel)⟩
theorem lw_p11 : lw_okq (⟨"TwoEndQueues$Script", "readNumber", "(I)Z"⟩, 7) := ⟨⟨by decide +kernel, by decide +kernel⟩, List.mem_of_getElem? (i := 125) (by decide +kernel), List.mem_of_getElem? (i := 446) (by decide +kernel), List.mem_of_getElem? (i := 447) (by decide +kernel)⟩
theorem lw_p12 : lw_okq (⟨"TwoEndQueues$Script", "readHandle", "()Z"⟩, 7) := ⟨⟨by decide +kernel, by decide +kernel⟩, List.mem_of_getElem? (i := 125) (by decide +kernel), List.mem_of_getElem? (i := 450) (by decide +kernel), List.mem_of_getElem? (i := 451) (by decide +kernel)⟩
theorem lw_p13 : lw_okq (⟨"java/lang/Throwable", "fillInStackTrace", "(I)Ljava/lang/Throwable;"⟩, 6) := ⟨⟨by decide +kernel, by decide +kernel⟩, List.mem_of_getElem? (i := 538) (by decide +kernel), List.mem_of_getElem? (i := 536) (by decide +kernel), List.mem_of_getElem? (i := 537) (by decide +kernel)⟩
theorem lw_p14 : lw_okq (⟨"TwoEndQueues$Queues", "lowestFreeHandle", "()I"⟩, 4) := ⟨⟨by decide +kernel, by decide +kernel⟩, List.mem_of_getElem? (i := 28) (by decide +kernel), List.mem_of_getElem? (i := 588) (by decide +kernel), List.mem_of_getElem? (i := 589) (by decide +kernel)⟩
theorem lw_p15 : lw_okq (⟨"TwoEndQueues$IntervalLayout", "riseHigh", "(II)V"⟩, 3) := ⟨⟨by decide +kernel, by decide +kernel⟩, List.mem_of_getElem? (i := 34) (by decide +kernel), List.mem_of_getElem? (i := 609) (by decide +kernel), List.mem_of_getElem? (i := 610) (by decide +kernel)⟩
def lw_privs_1 : List (MethodName × Nat) := [(⟨"TwoEndQueues$HeapLayout", "down", "(I)V"⟩, 4), (⟨"TwoEndQueues$IntervalLayout", "sinkLow", "(I)V"⟩, 3), (⟨"TwoEndQueues$IntervalLayout", "order", "(I)V"⟩, 3), (⟨"TwoEndQueues$IntervalLayout", "sinkHigh", "(I)V"⟩, 3), (⟨"TwoEndQueues$IntervalLayout", "top", "(I)I"⟩, 3), (⟨"TwoEndQueues$LevelLayout", "sink", "(I)V"⟩, 3), (⟨"TwoEndQueues$LevelLayout", "foremostBelow", "(IZ)I"⟩, 3), (⟨"TwoEndQueues$Script", "current", "()C"⟩, 7), (⟨"TwoEndQueues$Script", "readArguments", "()Z"⟩, 7), (⟨"TwoEndQueues$Script", "readKey", "()Z"⟩, 7), (⟨"TwoEndQueues$Script", "readSign", "(C)Z"⟩, 7), (⟨"TwoEndQueues$Script", "readNumber", "(I)Z"⟩, 7), (⟨"TwoEndQueues$Script", "readHandle", "()Z"⟩, 7), (⟨"java/lang/Throwable", "fillInStackTrace", "(I)Ljava/lang/Throwable;"⟩, 6), (⟨"TwoEndQueues$Queues", "lowestFreeHandle", "()I"⟩, 4), (⟨"TwoEndQueues$IntervalLayout", "riseHigh", "(II)V"⟩, 3)]
theorem lw_r1 : ∀ q ∈ lw_privs_1, lw_okq q := List.forall_mem_cons.mpr ⟨lw_p0, List.forall_mem_cons.mpr ⟨lw_p1, List.forall_mem_cons.mpr ⟨lw_p2, List.forall_mem_cons.mpr ⟨lw_p3, List.forall_mem_cons.mpr ⟨lw_p4, List.forall_mem_cons.mpr ⟨lw_p5, List.forall_mem_cons.mpr ⟨lw_p6, List.forall_mem_cons.mpr ⟨lw_p7, List.forall_mem_cons.mpr ⟨lw_p8, List.forall_mem_cons.mpr ⟨lw_p9, List.forall_mem_cons.mpr ⟨lw_p10, List.forall_mem_cons.mpr ⟨lw_p11, List.forall_mem_cons.mpr ⟨lw_p12, List.forall_mem_cons.mpr ⟨lw_p13, List.forall_mem_cons.mpr ⟨lw_p14, List.forall_mem_cons.mpr ⟨lw_p15, fun _ h => absurd h List.not_mem_nil⟩⟩⟩⟩⟩⟩⟩⟩⟩⟩⟩⟩⟩⟩⟩⟩
theorem lw_p16 : lw_okq (⟨"TwoEndQueues$IntervalLayout", "riseLow", "(I)V"⟩, 3) := ⟨⟨by decide +kernel, by decide +kernel⟩, List.mem_of_getElem? (i := 34) (by decide +kernel), List.mem_of_getElem? (i := 613) (by decide +kernel), List.mem_of_getElem? (i := 614) (by decide +kernel)⟩
theorem lw_p17 : lw_okq (⟨"TwoEndQueues$LevelLayout", "rise", "(IZ)V"⟩, 3) := ⟨⟨by decide +kernel, by decide +kernel⟩, List.mem_of_getElem? (i := 67) (by decide +kernel), List.mem_of_getElem? (i := 620) (by decide +kernel), List.mem_of_getElem? (i := 621) (by decide +kernel)⟩
theorem lw_p18 : lw_okq (⟨"TwoEndQueues", "requireItems", "()V"⟩, 4) := ⟨⟨by decide +kernel, by decide +kernel⟩, List.mem_of_getElem? (i := 20) (by decide +kernel), List.mem_of_getElem? (i := 631) (by decide +kernel), List.mem_of_getElem? (i := 632) (by decide +kernel)⟩
theorem lw_p19 : lw_okq (⟨"TwoEndQueues$Queues", "isPossible", "(III)Z"⟩, 4) := ⟨⟨by decide +kernel, by decide +kernel⟩, List.mem_of_getElem? (i := 28) (by decide +kernel), List.mem_of_getElem? (i := 645) (by decide +kernel), List.mem_of_getElem? (i := 646) (by decide +kernel)⟩
theorem lw_p20 : lw_okq (⟨"TwoEndQueues", "requireItem", "(I)V"⟩, 4) := ⟨⟨by decide +kernel, by decide +kernel⟩, List.mem_of_getElem? (i := 20) (by decide +kernel), List.mem_of_getElem? (i := 728) (by decide +kernel), List.mem_of_getElem? (i := 729) (by decide +kernel)⟩
theorem lw_p21 : lw_okq (⟨"TwoEndQueues", "requirePosition", "(I)V"⟩, 4) := ⟨⟨by decide +kernel, by decide +kernel⟩, List.mem_of_getElem? (i := 20) (by decide +kernel), List.mem_of_getElem? (i := 836) (by decide +kernel), List.mem_of_getElem? (i := 837) (by decide +kernel)⟩
theorem lw_p22 : lw_okq (⟨"TwoEndQueuesModel", "refused", "(I)Z"⟩, 11) := ⟨⟨by decide +kernel, by decide +kernel⟩, List.mem_of_getElem? (i := 939) (by decide +kernel), List.mem_of_getElem? (i := 987) (by decide +kernel), List.mem_of_getElem? (i := 988) (by decide +kernel)⟩
theorem lw_p23 : lw_okq (⟨"TwoEndQueuesModel", "many", "()I"⟩, 11) := ⟨⟨by decide +kernel, by decide +kernel⟩, List.mem_of_getElem? (i := 939) (by decide +kernel), List.mem_of_getElem? (i := 1001) (by decide +kernel), List.mem_of_getElem? (i := 1002) (by decide +kernel)⟩
theorem lw_p24 : lw_okq (⟨"TwoEndQueuesModel", "saves", "()V"⟩, 11) := ⟨⟨by decide +kernel, by decide +kernel⟩, List.mem_of_getElem? (i := 939) (by decide +kernel), List.mem_of_getElem? (i := 1005) (by decide +kernel), List.mem_of_getElem? (i := 1006) (by decide +kernel)⟩
theorem lw_p25 : lw_okq (⟨"TwoEndQueuesModel", "inserts", "(II)I"⟩, 11) := ⟨⟨by decide +kernel, by decide +kernel⟩, List.mem_of_getElem? (i := 939) (by decide +kernel), List.mem_of_getElem? (i := 1009) (by decide +kernel), List.mem_of_getElem? (i := 1010) (by decide +kernel)⟩
theorem lw_p26 : lw_okq (⟨"TwoEndQueuesModel", "freeHandle", "()I"⟩, 11) := ⟨⟨by decide +kernel, by decide +kernel⟩, List.mem_of_getElem? (i := 939) (by decide +kernel), List.mem_of_getElem? (i := 1013) (by decide +kernel), List.mem_of_getElem? (i := 1014) (by decide +kernel)⟩
theorem lw_p27 : lw_okq (⟨"TwoEndQueuesModel", "enters", "(II)V"⟩, 11) := ⟨⟨by decide +kernel, by decide +kernel⟩, List.mem_of_getElem? (i := 939) (by decide +kernel), List.mem_of_getElem? (i := 1017) (by decide +kernel), List.mem_of_getElem? (i := 1018) (by decide +kernel)⟩
theorem lw_p28 : lw_okq (⟨"TwoEndQueuesModel", "lays", "(III)V"⟩, 11) := ⟨⟨by decide +kernel, by decide +kernel⟩, List.mem_of_getElem? (i := 939) (by decide +kernel), List.mem_of_getElem? (i := 1021) (by decide +kernel), List.mem_of_getElem? (i := 1022) (by decide +kernel)⟩
theorem lw_p29 : lw_okq (⟨"TwoEndQueuesModel", "comesFirst", "(I)V"⟩, 11) := ⟨⟨by decide +kernel, by decide +kernel⟩, List.mem_of_getElem? (i := 939) (by decide +kernel), List.mem_of_getElem? (i := 1025) (by decide +kernel), List.mem_of_getElem? (i := 1026) (by decide +kernel)⟩
theorem lw_p30 : lw_okq (⟨"TwoEndQueuesModel", "less", "(III)Z"⟩, 11) := ⟨⟨by decide +kernel, by decide +kernel⟩, List.mem_of_getElem? (i := 939) (by decide +kernel), List.mem_of_getElem? (i := 1029) (by decide +kernel), List.mem_of_getElem? (i := 1030) (by decide +kernel)⟩
theorem lw_p31 : lw_okq (⟨"TwoEndQueuesModel", "item", "(II)I"⟩, 11) := ⟨⟨by decide +kernel, by decide +kernel⟩, List.mem_of_getElem? (i := 939) (by decide +kernel), List.mem_of_getElem? (i := 1033) (by decide +kernel), List.mem_of_getElem? (i := 1034) (by decide +kernel)⟩
def lw_privs_2 : List (MethodName × Nat) := [(⟨"TwoEndQueues$IntervalLayout", "riseLow", "(I)V"⟩, 3), (⟨"TwoEndQueues$LevelLayout", "rise", "(IZ)V"⟩, 3), (⟨"TwoEndQueues", "requireItems", "()V"⟩, 4), (⟨"TwoEndQueues$Queues", "isPossible", "(III)Z"⟩, 4), (⟨"TwoEndQueues", "requireItem", "(I)V"⟩, 4), (⟨"TwoEndQueues", "requirePosition", "(I)V"⟩, 4), (⟨"TwoEndQueuesModel", "refused", "(I)Z"⟩, 11), (⟨"TwoEndQueuesModel", "many", "()I"⟩, 11), (⟨"TwoEndQueuesModel", "saves", "()V"⟩, 11), (⟨"TwoEndQueuesModel", "inserts", "(II)I"⟩, 11), (⟨"TwoEndQueuesModel", "freeHandle", "()I"⟩, 11), (⟨"TwoEndQueuesModel", "enters", "(II)V"⟩, 11), (⟨"TwoEndQueuesModel", "lays", "(III)V"⟩, 11), (⟨"TwoEndQueuesModel", "comesFirst", "(I)V"⟩, 11), (⟨"TwoEndQueuesModel", "less", "(III)Z"⟩, 11), (⟨"TwoEndQueuesModel", "item", "(II)I"⟩, 11)]
theorem lw_r2 : ∀ q ∈ lw_privs_2, lw_okq q := List.forall_mem_cons.mpr ⟨lw_p16, List.forall_mem_cons.mpr ⟨lw_p17, List.forall_mem_cons.mpr ⟨lw_p18, List.forall_mem_cons.mpr ⟨lw_p19, List.forall_mem_cons.mpr ⟨lw_p20, List.forall_mem_cons.mpr ⟨lw_p21, List.forall_mem_cons.mpr ⟨lw_p22, List.forall_mem_cons.mpr ⟨lw_p23, List.forall_mem_cons.mpr ⟨lw_p24, List.forall_mem_cons.mpr ⟨lw_p25, List.forall_mem_cons.mpr ⟨lw_p26, List.forall_mem_cons.mpr ⟨lw_p27, List.forall_mem_cons.mpr ⟨lw_p28, List.forall_mem_cons.mpr ⟨lw_p29, List.forall_mem_cons.mpr ⟨lw_p30, List.forall_mem_cons.mpr ⟨lw_p31, fun _ h => absurd h List.not_mem_nil⟩⟩⟩⟩⟩⟩⟩⟩⟩⟩⟩⟩⟩⟩⟩⟩
theorem lw_p32 : lw_okq (⟨"TwoEndQueuesModel", "isLess", "(II)Z"⟩, 11) := ⟨⟨by decide +kernel, by decide +kernel⟩, List.mem_of_getElem? (i := 939) (by decide +kernel), List.mem_of_getElem? (i := 1037) (by decide +kernel), List.mem_of_getElem? (i := 1038) (by decide +kernel)⟩
theorem lw_p33 : lw_okq (⟨"TwoEndQueuesModel", "exchange", "(III)V"⟩, 11) := ⟨⟨by decide +kernel, by decide +kernel⟩, List.mem_of_getElem? (i := 939) (by decide +kernel), List.mem_of_getElem? (i := 1041) (by decide +kernel), List.mem_of_getElem? (i := 1042) (by decide +kernel)⟩
theorem lw_p34 : lw_okq (⟨"TwoEndQueuesModel", "risesLow", "(I)V"⟩, 11) := ⟨⟨by decide +kernel, by decide +kernel⟩, List.mem_of_getElem? (i := 939) (by decide +kernel), List.mem_of_getElem? (i := 1045) (by decide +kernel), List.mem_of_getElem? (i := 1046) (by decide +kernel)⟩
theorem lw_p35 : lw_okq (⟨"TwoEndQueuesModel", "risesHigh", "(II)V"⟩, 11) := ⟨⟨by decide +kernel, by decide +kernel⟩, List.mem_of_getElem? (i := 939) (by decide +kernel), List.mem_of_getElem? (i := 1049) (by decide +kernel), List.mem_of_getElem? (i := 1050) (by decide +kernel)⟩
theorem lw_p36 : lw_okq (⟨"TwoEndQueuesModel", "enters", "(I)V"⟩, 11) := ⟨⟨by decide +kernel, by decide +kernel⟩, List.mem_of_getElem? (i := 939) (by decide +kernel), List.mem_of_getElem? (i := 1053) (by decide +kernel), List.mem_of_getElem? (i := 1054) (by decide +kernel)⟩
theorem lw_p37 : lw_okq (⟨"TwoEndQueuesModel", "leads", "(ZII)Z"⟩, 11) := ⟨⟨by decide +kernel, by decide +kernel⟩, List.mem_of_getElem? (i := 939) (by decide +kernel), List.mem_of_getElem? (i := 1063) (by decide +kernel), List.mem_of_getElem? (i := 1064) (by decide +kernel)⟩
theorem lw_p38 : lw_okq (⟨"TwoEndQueuesModel", "rises", "(I)V"⟩, 11) := ⟨⟨by decide +kernel, by decide +kernel⟩, List.mem_of_getElem? (i := 939) (by decide +kernel), List.mem_of_getElem? (i := 1067) (by decide +kernel), List.mem_of_getElem? (i := 1068) (by decide +kernel)⟩
theorem lw_p39 : lw_okq (⟨"TwoEndQueuesModel", "up", "(II)V"⟩, 11) := ⟨⟨by decide +kernel, by decide +kernel⟩, List.mem_of_getElem? (i := 939) (by decide +kernel), List.mem_of_getElem? (i := 1071) (by decide +kernel), List.mem_of_getElem? (i := 1072) (by decide +kernel)⟩
theorem lw_p40 : lw_okq (⟨"TwoEndQueuesModel", "isAhead", "(III)Z"⟩, 11) := ⟨⟨by decide +kernel, by decide +kernel⟩, List.mem_of_getElem? (i := 939) (by decide +kernel), List.mem_of_getElem? (i := 1075) (by decide +kernel), List.mem_of_getElem? (i := 1076) (by decide +kernel)⟩
theorem lw_p41 : lw_okq (⟨"TwoEndQueuesModel", "leastOf", "(I)I"⟩, 11) := ⟨⟨by decide +kernel, by decide +kernel⟩, List.mem_of_getElem? (i := 939) (by decide +kernel), List.mem_of_getElem? (i := 1083) (by decide +kernel), List.mem_of_getElem? (i := 1084) (by decide +kernel)⟩
theorem lw_p42 : lw_okq (⟨"TwoEndQueuesModel", "goes", "(II)V"⟩, 11) := ⟨⟨by decide +kernel, by decide +kernel⟩, List.mem_of_getElem? (i := 939) (by decide +kernel), List.mem_of_getElem? (i := 1087) (by decide +kernel), List.mem_of_getElem? (i := 1088) (by decide +kernel)⟩
theorem lw_p43 : lw_okq (⟨"TwoEndQueuesModel", "placeOf", "(II)I"⟩, 11) := ⟨⟨by decide +kernel, by decide +kernel⟩, List.mem_of_getElem? (i := 939) (by decide +kernel), List.mem_of_getElem? (i := 1091) (by decide +kernel), List.mem_of_getElem? (i := 1092) (by decide +kernel)⟩
theorem lw_p44 : lw_okq (⟨"TwoEndQueuesModel", "closes", "(III)I"⟩, 11) := ⟨⟨by decide +kernel, by decide +kernel⟩, List.mem_of_getElem? (i := 939) (by decide +kernel), List.mem_of_getElem? (i := 1095) (by decide +kernel), List.mem_of_getElem? (i := 1096) (by decide +kernel)⟩
theorem lw_p45 : lw_okq (⟨"TwoEndQueuesModel", "moves", "(III)V"⟩, 11) := ⟨⟨by decide +kernel, by decide +kernel⟩, List.mem_of_getElem? (i := 939) (by decide +kernel), List.mem_of_getElem? (i := 1099) (by decide +kernel), List.mem_of_getElem? (i := 1100) (by decide +kernel)⟩
theorem lw_p46 : lw_okq (⟨"TwoEndQueuesModel", "settles", "(II)V"⟩, 11) := ⟨⟨by decide +kernel, by decide +kernel⟩, List.mem_of_getElem? (i := 939) (by decide +kernel), List.mem_of_getElem? (i := 1103) (by decide +kernel), List.mem_of_getElem? (i := 1104) (by decide +kernel)⟩
theorem lw_p47 : lw_okq (⟨"TwoEndQueuesModel", "orders", "(II)V"⟩, 11) := ⟨⟨by decide +kernel, by decide +kernel⟩, List.mem_of_getElem? (i := 939) (by decide +kernel), List.mem_of_getElem? (i := 1107) (by decide +kernel), List.mem_of_getElem? (i := 1108) (by decide +kernel)⟩
def lw_privs_3 : List (MethodName × Nat) := [(⟨"TwoEndQueuesModel", "isLess", "(II)Z"⟩, 11), (⟨"TwoEndQueuesModel", "exchange", "(III)V"⟩, 11), (⟨"TwoEndQueuesModel", "risesLow", "(I)V"⟩, 11), (⟨"TwoEndQueuesModel", "risesHigh", "(II)V"⟩, 11), (⟨"TwoEndQueuesModel", "enters", "(I)V"⟩, 11), (⟨"TwoEndQueuesModel", "leads", "(ZII)Z"⟩, 11), (⟨"TwoEndQueuesModel", "rises", "(I)V"⟩, 11), (⟨"TwoEndQueuesModel", "up", "(II)V"⟩, 11), (⟨"TwoEndQueuesModel", "isAhead", "(III)Z"⟩, 11), (⟨"TwoEndQueuesModel", "leastOf", "(I)I"⟩, 11), (⟨"TwoEndQueuesModel", "goes", "(II)V"⟩, 11), (⟨"TwoEndQueuesModel", "placeOf", "(II)I"⟩, 11), (⟨"TwoEndQueuesModel", "closes", "(III)I"⟩, 11), (⟨"TwoEndQueuesModel", "moves", "(III)V"⟩, 11), (⟨"TwoEndQueuesModel", "settles", "(II)V"⟩, 11), (⟨"TwoEndQueuesModel", "orders", "(II)V"⟩, 11)]
theorem lw_r3 : ∀ q ∈ lw_privs_3, lw_okq q := List.forall_mem_cons.mpr ⟨lw_p32, List.forall_mem_cons.mpr ⟨lw_p33, List.forall_mem_cons.mpr ⟨lw_p34, List.forall_mem_cons.mpr ⟨lw_p35, List.forall_mem_cons.mpr ⟨lw_p36, List.forall_mem_cons.mpr ⟨lw_p37, List.forall_mem_cons.mpr ⟨lw_p38, List.forall_mem_cons.mpr ⟨lw_p39, List.forall_mem_cons.mpr ⟨lw_p40, List.forall_mem_cons.mpr ⟨lw_p41, List.forall_mem_cons.mpr ⟨lw_p42, List.forall_mem_cons.mpr ⟨lw_p43, List.forall_mem_cons.mpr ⟨lw_p44, List.forall_mem_cons.mpr ⟨lw_p45, List.forall_mem_cons.mpr ⟨lw_p46, List.forall_mem_cons.mpr ⟨lw_p47, fun _ h => absurd h List.not_mem_nil⟩⟩⟩⟩⟩⟩⟩⟩⟩⟩⟩⟩⟩⟩⟩⟩
theorem lw_p48 : lw_okq (⟨"TwoEndQueuesModel", "topOf", "(II)I"⟩, 11) := ⟨⟨by decide +kernel, by decide +kernel⟩, List.mem_of_getElem? (i := 939) (by decide +kernel), List.mem_of_getElem? (i := 1111) (by decide +kernel), List.mem_of_getElem? (i := 1112) (by decide +kernel)⟩
theorem lw_p49 : lw_okq (⟨"TwoEndQueuesModel", "sinksLow", "(II)V"⟩, 11) := ⟨⟨by decide +kernel, by decide +kernel⟩, List.mem_of_getElem? (i := 939) (by decide +kernel), List.mem_of_getElem? (i := 1115) (by decide +kernel), List.mem_of_getElem? (i := 1116) (by decide +kernel)⟩
theorem lw_p50 : lw_okq (⟨"TwoEndQueuesModel", "sinksHigh", "(II)V"⟩, 11) := ⟨⟨by decide +kernel, by decide +kernel⟩, List.mem_of_getElem? (i := 939) (by decide +kernel), List.mem_of_getElem? (i := 1119) (by decide +kernel), List.mem_of_getElem? (i := 1120) (by decide +kernel)⟩
theorem lw_p51 : lw_okq (⟨"TwoEndQueuesModel", "sinks", "(II)V"⟩, 11) := ⟨⟨by decide +kernel, by decide +kernel⟩, List.mem_of_getElem? (i := 939) (by decide +kernel), List.mem_of_getElem? (i := 1123) (by decide +kernel), List.mem_of_getElem? (i := 1124) (by decide +kernel)⟩
theorem lw_p52 : lw_okq (⟨"TwoEndQueuesModel", "down", "(III)V"⟩, 11) := ⟨⟨by decide +kernel, by decide +kernel⟩, List.mem_of_getElem? (i := 939) (by decide +kernel), List.mem_of_getElem? (i := 1127) (by decide +kernel), List.mem_of_getElem? (i := 1128) (by decide +kernel)⟩
theorem lw_p53 : lw_okq (⟨"TwoEndQueuesModel", "takesGreatest", "(I)I"⟩, 11) := ⟨⟨by decide +kernel, by decide +kernel⟩, List.mem_of_getElem? (i := 939) (by decide +kernel), List.mem_of_getElem? (i := 1135) (by decide +kernel), List.mem_of_getElem? (i := 1136) (by decide +kernel)⟩
theorem lw_p54 : lw_okq (⟨"TwoEndQueuesModel", "greatestOf", "(I)I"⟩, 11) := ⟨⟨by decide +kernel, by decide +kernel⟩, List.mem_of_getElem? (i := 939) (by decide +kernel), List.mem_of_getElem? (i := 1139) (by decide +kernel), List.mem_of_getElem? (i := 1140) (by decide +kernel)⟩
theorem lw_p55 : lw_okq (⟨"TwoEndQueuesModel", "isItem", "(I)Z"⟩, 11) := ⟨⟨by decide +kernel, by decide +kernel⟩, List.mem_of_getElem? (i := 939) (by decide +kernel), List.mem_of_getElem? (i := 1147) (by decide +kernel), List.mem_of_getElem? (i := 1148) (by decide +kernel)⟩
theorem lw_p56 : lw_okq (⟨"TwoEndQueuesModel", "changes", "(II)V"⟩, 11) := ⟨⟨by decide +kernel, by decide +kernel⟩, List.mem_of_getElem? (i := 939) (by decide +kernel), List.mem_of_getElem? (i := 1155) (by decide +kernel), List.mem_of_getElem? (i := 1156) (by decide +kernel)⟩
theorem lw_p57 : lw_okq (⟨"TwoEndQueuesModel", "counts", "()I"⟩, 11) := ⟨⟨by decide +kernel, by decide +kernel⟩, List.mem_of_getElem? (i := 939) (by decide +kernel), List.mem_of_getElem? (i := 1163) (by decide +kernel), List.mem_of_getElem? (i := 1164) (by decide +kernel)⟩
theorem lw_p58 : lw_okq (⟨"TwoEndQueuesModel", "builds", "(I)V"⟩, 11) := ⟨⟨by decide +kernel, by decide +kernel⟩, List.mem_of_getElem? (i := 939) (by decide +kernel), List.mem_of_getElem? (i := 1167) (by decide +kernel), List.mem_of_getElem? (i := 1168) (by decide +kernel)⟩
theorem lw_p59 : lw_okq (⟨"TwoEndQueuesModel", "laysAll", "(I)V"⟩, 11) := ⟨⟨by decide +kernel, by decide +kernel⟩, List.mem_of_getElem? (i := 939) (by decide +kernel), List.mem_of_getElem? (i := 1171) (by decide +kernel), List.mem_of_getElem? (i := 1172) (by decide +kernel)⟩
theorem lw_p60 : lw_okq (⟨"TwoEndQueuesModel", "buildsAt", "(III)V"⟩, 11) := ⟨⟨by decide +kernel, by decide +kernel⟩, List.mem_of_getElem? (i := 939) (by decide +kernel), List.mem_of_getElem? (i := 1175) (by decide +kernel), List.mem_of_getElem? (i := 1176) (by decide +kernel)⟩
theorem lw_p61 : lw_okq (⟨"TwoEndQueuesModel", "handleSet", "()I"⟩, 11) := ⟨⟨by decide +kernel, by decide +kernel⟩, List.mem_of_getElem? (i := 939) (by decide +kernel), List.mem_of_getElem? (i := 1191) (by decide +kernel), List.mem_of_getElem? (i := 1192) (by decide +kernel)⟩
theorem lw_p62 : lw_okq (⟨"TwoEndQueuesModel", "rankOf", "(I)I"⟩, 11) := ⟨⟨by decide +kernel, by decide +kernel⟩, List.mem_of_getElem? (i := 939) (by decide +kernel), List.mem_of_getElem? (i := 1220) (by decide +kernel), List.mem_of_getElem? (i := 1221) (by decide +kernel)⟩
theorem lw_p63 : lw_okq (⟨"TwoEndQueuesModel", "wrongIn", "(I)I"⟩, 11) := ⟨⟨by decide +kernel, by decide +kernel⟩, List.mem_of_getElem? (i := 939) (by decide +kernel), List.mem_of_getElem? (i := 1247) (by decide +kernel), List.mem_of_getElem? (i := 1248) (by decide +kernel)⟩
def lw_privs_4 : List (MethodName × Nat) := [(⟨"TwoEndQueuesModel", "topOf", "(II)I"⟩, 11), (⟨"TwoEndQueuesModel", "sinksLow", "(II)V"⟩, 11), (⟨"TwoEndQueuesModel", "sinksHigh", "(II)V"⟩, 11), (⟨"TwoEndQueuesModel", "sinks", "(II)V"⟩, 11), (⟨"TwoEndQueuesModel", "down", "(III)V"⟩, 11), (⟨"TwoEndQueuesModel", "takesGreatest", "(I)I"⟩, 11), (⟨"TwoEndQueuesModel", "greatestOf", "(I)I"⟩, 11), (⟨"TwoEndQueuesModel", "isItem", "(I)Z"⟩, 11), (⟨"TwoEndQueuesModel", "changes", "(II)V"⟩, 11), (⟨"TwoEndQueuesModel", "counts", "()I"⟩, 11), (⟨"TwoEndQueuesModel", "builds", "(I)V"⟩, 11), (⟨"TwoEndQueuesModel", "laysAll", "(I)V"⟩, 11), (⟨"TwoEndQueuesModel", "buildsAt", "(III)V"⟩, 11), (⟨"TwoEndQueuesModel", "handleSet", "()I"⟩, 11), (⟨"TwoEndQueuesModel", "rankOf", "(I)I"⟩, 11), (⟨"TwoEndQueuesModel", "wrongIn", "(I)I"⟩, 11)]
theorem lw_r4 : ∀ q ∈ lw_privs_4, lw_okq q := List.forall_mem_cons.mpr ⟨lw_p48, List.forall_mem_cons.mpr ⟨lw_p49, List.forall_mem_cons.mpr ⟨lw_p50, List.forall_mem_cons.mpr ⟨lw_p51, List.forall_mem_cons.mpr ⟨lw_p52, List.forall_mem_cons.mpr ⟨lw_p53, List.forall_mem_cons.mpr ⟨lw_p54, List.forall_mem_cons.mpr ⟨lw_p55, List.forall_mem_cons.mpr ⟨lw_p56, List.forall_mem_cons.mpr ⟨lw_p57, List.forall_mem_cons.mpr ⟨lw_p58, List.forall_mem_cons.mpr ⟨lw_p59, List.forall_mem_cons.mpr ⟨lw_p60, List.forall_mem_cons.mpr ⟨lw_p61, List.forall_mem_cons.mpr ⟨lw_p62, List.forall_mem_cons.mpr ⟨lw_p63, fun _ h => absurd h List.not_mem_nil⟩⟩⟩⟩⟩⟩⟩⟩⟩⟩⟩⟩⟩⟩⟩⟩
theorem lw_p64 : lw_okq (⟨"TwoEndQueuesModel", "wrongNodes", "()I"⟩, 11) := ⟨⟨by decide +kernel, by decide +kernel⟩, List.mem_of_getElem? (i := 939) (by decide +kernel), List.mem_of_getElem? (i := 1251) (by decide +kernel), List.mem_of_getElem? (i := 1252) (by decide +kernel)⟩
theorem lw_p65 : lw_okq (⟨"TwoEndQueuesModel", "wrong", "(III)I"⟩, 11) := ⟨⟨by decide +kernel, by decide +kernel⟩, List.mem_of_getElem? (i := 939) (by decide +kernel), List.mem_of_getElem? (i := 1255) (by decide +kernel), List.mem_of_getElem? (i := 1256) (by decide +kernel)⟩
theorem lw_p66 : lw_okq (⟨"TwoEndQueuesModel", "wrongLevels", "()I"⟩, 11) := ⟨⟨by decide +kernel, by decide +kernel⟩, List.mem_of_getElem? (i := 939) (by decide +kernel), List.mem_of_getElem? (i := 1259) (by decide +kernel), List.mem_of_getElem? (i := 1260) (by decide +kernel)⟩
theorem lw_p67 : lw_okq (⟨"TwoEndQueuesModel", "above", "(II)I"⟩, 11) := ⟨⟨by decide +kernel, by decide +kernel⟩, List.mem_of_getElem? (i := 939) (by decide +kernel), List.mem_of_getElem? (i := 1276) (by decide +kernel), List.mem_of_getElem? (i := 1277) (by decide +kernel)⟩
theorem lw_p68 : lw_okq (⟨"TwoEndQueuesModel", "canDo", "(II)Z"⟩, 11) := ⟨⟨by decide +kernel, by decide +kernel⟩, List.mem_of_getElem? (i := 939) (by decide +kernel), List.mem_of_getElem? (i := 1292) (by decide +kernel), List.mem_of_getElem? (i := 1293) (by decide +kernel)⟩
theorem lw_p69 : lw_okq (⟨"TwoEndQueuesModel", "keeps", "()V"⟩, 11) := ⟨⟨by decide +kernel, by decide +kernel⟩, List.mem_of_getElem? (i := 939) (by decide +kernel), List.mem_of_getElem? (i := 1296) (by decide +kernel), List.mem_of_getElem? (i := 1297) (by decide +kernel)⟩
theorem lw_p70 : lw_okq (⟨"TwoEndQueuesModel", "does", "(III)V"⟩, 11) := ⟨⟨by decide +kernel, by decide +kernel⟩, List.mem_of_getElem? (i := 939) (by decide +kernel), List.mem_of_getElem? (i := 1300) (by decide +kernel), List.mem_of_getElem? (i := 1301) (by decide +kernel)⟩
theorem lw_p71 : lw_okq (⟨"TwoEndQueuesModel", "returns", "()V"⟩, 11) := ⟨⟨by decide +kernel, by decide +kernel⟩, List.mem_of_getElem? (i := 939) (by decide +kernel), List.mem_of_getElem? (i := 1304) (by decide +kernel), List.mem_of_getElem? (i := 1305) (by decide +kernel)⟩
theorem lw_p72 : lw_okq (⟨"TwoEndQueuesModel", "reads", "(Z)I"⟩, 11) := ⟨⟨by decide +kernel, by decide +kernel⟩, List.mem_of_getElem? (i := 939) (by decide +kernel), List.mem_of_getElem? (i := 1328) (by decide +kernel), List.mem_of_getElem? (i := 1329) (by decide +kernel)⟩
theorem lw_p73 : lw_okq (⟨"TwoEndQueuesModel", "next", "()I"⟩, 11) := ⟨⟨by decide +kernel, by decide +kernel⟩, List.mem_of_getElem? (i := 939) (by decide +kernel), List.mem_of_getElem? (i := 1332) (by decide +kernel), List.mem_of_getElem? (i := 1333) (by decide +kernel)⟩
theorem lw_p74 : lw_okq (⟨"TwoEndQueuesModel", "fails", "()V"⟩, 11) := ⟨⟨by decide +kernel, by decide +kernel⟩, List.mem_of_getElem? (i := 939) (by decide +kernel), List.mem_of_getElem? (i := 1336) (by decide +kernel), List.mem_of_getElem? (i := 1337) (by decide +kernel)⟩
theorem lw_p75 : lw_okq (⟨"TwoEndQueuesModel", "number", "(IZ)I"⟩, 11) := ⟨⟨by decide +kernel, by decide +kernel⟩, List.mem_of_getElem? (i := 939) (by decide +kernel), List.mem_of_getElem? (i := 1340) (by decide +kernel), List.mem_of_getElem? (i := 1341) (by decide +kernel)⟩
theorem lw_p76 : lw_okq (⟨"TwoEndQueuesModel", "takes", "(I)V"⟩, 11) := ⟨⟨by decide +kernel, by decide +kernel⟩, List.mem_of_getElem? (i := 939) (by decide +kernel), List.mem_of_getElem? (i := 1344) (by decide +kernel), List.mem_of_getElem? (i := 1345) (by decide +kernel)⟩
theorem lw_p77 : lw_okq (⟨"TwoEndQueuesModel", "isDone", "(III)Z"⟩, 11) := ⟨⟨by decide +kernel, by decide +kernel⟩, List.mem_of_getElem? (i := 939) (by decide +kernel), List.mem_of_getElem? (i := 1348) (by decide +kernel), List.mem_of_getElem? (i := 1349) (by decide +kernel)⟩
theorem lw_p78 : lw_okq (⟨"TwoEndQueuesModel", "mix", "(J)V"⟩, 11) := ⟨⟨by decide +kernel, by decide +kernel⟩, List.mem_of_getElem? (i := 939) (by decide +kernel), List.mem_of_getElem? (i := 1361) (by decide +kernel), List.mem_of_getElem? (i := 1362) (by decide +kernel)⟩
def lw_privs_5 : List (MethodName × Nat) := [(⟨"TwoEndQueuesModel", "wrongNodes", "()I"⟩, 11), (⟨"TwoEndQueuesModel", "wrong", "(III)I"⟩, 11), (⟨"TwoEndQueuesModel", "wrongLevels", "()I"⟩, 11), (⟨"TwoEndQueuesModel", "above", "(II)I"⟩, 11), (⟨"TwoEndQueuesModel", "canDo", "(II)Z"⟩, 11), (⟨"TwoEndQueuesModel", "keeps", "()V"⟩, 11), (⟨"TwoEndQueuesModel", "does", "(III)V"⟩, 11), (⟨"TwoEndQueuesModel", "returns", "()V"⟩, 11), (⟨"TwoEndQueuesModel", "reads", "(Z)I"⟩, 11), (⟨"TwoEndQueuesModel", "next", "()I"⟩, 11), (⟨"TwoEndQueuesModel", "fails", "()V"⟩, 11), (⟨"TwoEndQueuesModel", "number", "(IZ)I"⟩, 11), (⟨"TwoEndQueuesModel", "takes", "(I)V"⟩, 11), (⟨"TwoEndQueuesModel", "isDone", "(III)Z"⟩, 11), (⟨"TwoEndQueuesModel", "mix", "(J)V"⟩, 11)]
theorem lw_r5 : ∀ q ∈ lw_privs_5, lw_okq q := List.forall_mem_cons.mpr ⟨lw_p64, List.forall_mem_cons.mpr ⟨lw_p65, List.forall_mem_cons.mpr ⟨lw_p66, List.forall_mem_cons.mpr ⟨lw_p67, List.forall_mem_cons.mpr ⟨lw_p68, List.forall_mem_cons.mpr ⟨lw_p69, List.forall_mem_cons.mpr ⟨lw_p70, List.forall_mem_cons.mpr ⟨lw_p71, List.forall_mem_cons.mpr ⟨lw_p72, List.forall_mem_cons.mpr ⟨lw_p73, List.forall_mem_cons.mpr ⟨lw_p74, List.forall_mem_cons.mpr ⟨lw_p75, List.forall_mem_cons.mpr ⟨lw_p76, List.forall_mem_cons.mpr ⟨lw_p77, List.forall_mem_cons.mpr ⟨lw_p78, fun _ h => absurd h List.not_mem_nil⟩⟩⟩⟩⟩⟩⟩⟩⟩⟩⟩⟩⟩⟩⟩
def lw_privs : List (MethodName × Nat) := lw_privs_1 ++ (lw_privs_2 ++ (lw_privs_3 ++ (lw_privs_4 ++ (lw_privs_5))))
def lw_tbl : List Cond := k2_sels lw_privs ++ tables_1
theorem lw_privs_ok : ∀ q ∈ lw_privs, lw_okq q := by
  show ∀ q ∈ lw_privs_1 ++ (lw_privs_2 ++ (lw_privs_3 ++ (lw_privs_4 ++ (lw_privs_5)))), lw_okq q
  exact List.forall_mem_append.mpr ⟨lw_r1, List.forall_mem_append.mpr ⟨lw_r2, List.forall_mem_append.mpr ⟨lw_r3, List.forall_mem_append.mpr ⟨lw_r4, lw_r5⟩⟩⟩⟩
-- ===== end of PART A; then your names; then what follows =====
end
section
/-! ===== BEGIN words of one list among another's, by their places ===== -/
theorem goodIn_r {big : List Cond} (ws : List Cond) (ps : List Nat) (hp : ws = ps.filterMap (fun i => big[i]?)) (h : ws.all goodWord = true) : GoodIn big ws := by
  intro w hw
  have h1 := List.all_eq_true.mp h w hw
  rw [hp] at hw
  obtain ⟨i, -, hi⟩ := List.mem_filterMap.mp hw
  have hm : w ∈ big := by first | exact List.mem_of_getElem? hi | exact List.getElem?_mem hi
  exact ⟨hm, good_of_word h1⟩
theorem goodIn_app {big a b : List Cond} (ha : GoodIn big a) (hb : GoodIn big b) : GoodIn big (a ++ b) := fun w h => (List.mem_append.mp h).elim (ha w) (hb w)
theorem goodIn_ca {big a b : List Cond} {c : Cond} (ha : GoodIn big (c :: a)) (hb : GoodIn big b) : GoodIn big (c :: (a ++ b)) := fun w h => (List.mem_cons.mp h).elim (fun e => ha w (List.mem_cons.mpr (Or.inl e))) (fun h => (List.mem_append.mp h).elim (fun h => ha w (List.mem_cons.mpr (Or.inr h))) (hb w))
theorem goodIn_sub {big ws : List Cond} (hm : ∀ w ∈ ws, w ∈ big) (h : ws.all goodWord = true) : GoodIn big ws := fun w hw => ⟨hm w hw, good_of_word (List.all_eq_true.mp h w hw)⟩
/-! ===== END ===== -/
/-! ===== BEGIN exceptions that leave a method, and their catching by the caller (launches without stack traces) ===== -/
section VXA
/-! The laws vx_back, vx_callV, vx_callS, vx_callSW, vx_throw0, vx_throwS follow proofs of the library, with one case more: JvmDerived/Free/Laws.lean (Back.of_free), Shelf42/LK1.lean (callV, callS), Shelf/KitTraced.lean (throwNew0V, throwNewS). -/
/-- where a method has thrown q: the class by its name, the cell, what was written, the world -/
def vx_T (XC : String → State → State → Prop) (st : State) (q : Addr) (t : State) (mc ms : Nat) (free : Addr → Prop) : Prop :=
  ∃ (E : String) (ce : Cell) (L : List Loc), XC E st t ∧ t.heap[q]? = some ce ∧ ce.vm = .none ∧ st.vm.findClass E = some ce.cls ∧ st.WarmedH t.vm ∧ st.sameButNew ({ t with vm := st.vm } : State) L mc ms ∧ ∀ z ∈ L, free z.base
def vx_Q (Qc : Array Value → State → Outcome → State → Prop) (XC : String → State → State → Prop) (mc ms : Nat) (free : Addr → Prop) : Array Value → State → Outcome → State → Prop := fun a st o t =>
  (Qc a st o t ∧ ∃ L, FrameEnd st o t L mc ms ∧ ∀ q ∈ L, free q.base) ∨ ∃ q, o = .threw q ∧ vx_T XC st q t mc ms free
/-- a callee that returns or throws -/
def vx_Met (l : Launch) (y : MethodName) (ws : List Cond) (rm : Room) (Pc : Array Value → State → Prop) (Qc : Array Value → State → Outcome → State → Prop) (XC : String → State → State → Prop) (mc ms : Nat) (free : Addr → Prop) : Prop :=
  MetFree l y (headSpec ws rm) Pc (fun _ _ _ _ _ => True) (vx_Q Qc XC mc ms free)
def vx_Post (XC : String → State → State → Prop) (mc ms : Nat) (free : Addr → Prop) : Pt → Array Value → Addr → Pt → Prop := fun A a q B =>
  ∃ (g : JFrame) (mk : MethodId) (t : State) (L : List Loc) (E : String) (ce : Cell), B.U.heap = t.heap ∧ B.U.vm = t.vm ∧ XC E (A.U.calling g mk a) t ∧ t.heap[q]? = some ce ∧ ce.vm = .none ∧ A.U.vm.findClass E = some ce.cls ∧ B.locs = A.locs ++ L ∧ (∀ z ∈ L, free z.base) ∧ B.cells = A.cells + mc ∧ B.slots = A.slots + ms
def vx_Back (l : Launch) (R : Room) (p : Program) (e : Env) (below : List Frame) (s : State) (sargs : Array Value) (y : MethodName) (len W9 : Nat)
    (Pre : Pt → Array Value → Prop) (Post : Pt → Array Value → Option Value → Pt → Prop) (PostX : Pt → Array Value → Addr → Pt → Prop) : Prop :=
  ∀ (m : MethodId) (meth : Method) (c : Code) (A : Pt) (g : JFrame) (ig : Instr) (mk : MethodId) (a : Array Value),
    Stand p l e R s m sargs below meth c A.U A.locs A.cells A.slots → g.method = m → g.locals.size = c.maxLocals → decode c.code g.pc = .ok (ig, len) →
    2 * g.monitorRoom + (g.stack.map fun v => v.category).sum ≤ W9 → A.U.methodNamed? y = some mk → Pre A a →
    (∃ (v : Option Value) (B : Pt), Stand p l e R s m sargs below meth c B.U B.locs B.cells B.slots ∧ Post A a v B ∧
      Steps p.tables e below (doInvoke e (A.U.setTop g) [] mk a).1 (B.U.setTop { g with pc := g.pc + len, stack := v.toList ++ g.stack })) ∨
    (∃ (q : Addr) (B : Pt), Stand p l e R s m sargs below meth c B.U B.locs B.cells B.slots ∧ PostX A a q B ∧
      Steps p.tables e below (doInvoke e (A.U.setTop g) [] mk a).1 ((B.U.setTop g).pushFrame (.throwing q)))
section Payer
variable {l : Launch} {R : Room} {p : Program} {e : Env} {below : List Frame} {s : State} {sargs : Array Value} {y : MethodName} {len W9 : Nat}
theorem vx_back {ws : List Cond} {rm : Room} {Pc : Array Value → State → Prop} {Qc : Array Value → State → Outcome → State → Prop} {XC : String → State → State → Prop} {mc ms : Nat} {free : Addr → Prop} {bytes : ByteArray} {maxL : Nat} {ret : Option FieldType}
    (hM : vx_Met l y ws rm Pc Qc XC mc ms free) (hblind : FrameBlind Pc) (hrc : rm.cells = mc) (hrs : rm.slots = ms)
    (hframes : rm.frames + 1 ≤ R.frames) (hlocals : W9 + (maxL + 11) + rm.locals ≤ R.locals)
    (hws : ∀ w ∈ ws, ∀ a' U, s.WarmedH U.vm → w.before a' U = true) (hcode : Cond.code y bytes maxL ret ∈ ws) (hinit : ∀ a' U, s.WarmedH U.vm → (Cond.initialized y.cls).before a' U = true) :
    vx_Back l R p e below s sargs y len W9 (PreOf R mc ms Pc) (PostOf Qc mc ms free) (vx_Post XC mc ms free) := by
  intro m meth c A g ig mk a X hg hsize hdg hW hn hp
  have h1 : (headSpec ws rm).pre.before a A.U = true := atoms_intro fun w hw => hws w hw _ _ X.warmed
  have h2 : (Cond.code y bytes maxL ret).before a A.U = true := hws _ hcode _ _ X.warmed
  have h3 : (Cond.initialized y.cls).before a A.U = true := hinit _ _ X.warmed
  have h4 : A.cells + (headSpec ws rm).room.cells ≤ R.cells := by rw [show (headSpec ws rm).room.cells = mc from hrc]; exact hp.1
  have h5 : A.slots + (headSpec ws rm).room.slots ≤ R.slots := by rw [show (headSpec ws rm).room.slots = ms from hrs]; exact hp.2.1
  have hPc : Pc a (A.U.calling g mk a) := hblind _ _ _ _ hp.2.2
  obtain ⟨U, Ls, c0, s0⟩ := A
  dsimp only [Pt.U, Pt.locs, Pt.cells, Pt.slots] at h1 h2 h3 h4 h5 X hn hPc ⊢
  obtain ⟨methY, cY, hmY, hcY, -, hlY, -, -, -, -⟩ := Cond.code_spec hn h2
  obtain ⟨kY, hkY, -⟩ := className_of_methodNamed hn
  have hinitY : kY.init = .initialized := Cond.initialized_spec (findClass_of_methodNamed hn) hkY h3
  have h : At U g.method c below := by rw [hg]; exact X.here
  have hlocals9 : W9 + (maxL + 11) + (headSpec ws rm).room.locals ≤ R.locals := hlocals
  have happ : (headSpec ws rm).appliesLoose y e.platform (U.calling g mk a) = true :=
    Spec.appliesLoose_calling (g := g) h hdg hn hkY hinitY
      (X.room_calling (g := g) (R' := (headSpec ws rm).room) hsize hmY hcY hframes (by rw [hlY]; omega) h4 h5) h1
  obtain ⟨mid, hmid⟩ := h.above
  have hfr : (U.setTop g).frames = (.java g :: mid) ++ below := by rw [State.frames_setTop' g h.top, hmid]; rfl
  obtain ⟨o, s₂, hsteps, -, hend, hq⟩ := Steps.callFree hM p X.admits X.cas X.clock (acts := []) hfr happ hPc trivial
  have hq' : vx_Q Qc XC mc ms free a (U.calling g mk a) o s₂ := hq
  rw [State.frames_setTop' g h.top] at hend
  obtain ⟨g₀, hg0⟩ := Option.isSome_iff_exists.mp h.top
  obtain ⟨r, hr⟩ := State.topJava?_eq_some.mp hg0
  have hr' : (({ U with heap := s₂.heap, slotsUsed := s₂.slotsUsed } : State).setVm s₂.vm).frames = .java g₀ :: r := hr
  rcases hq' with ⟨hqc, L, hfe, hL⟩ | ⟨q, rfl, E, ce, L, hx, hce, hcv, hcl, hW₂, hsm, hL⟩
  · obtain ⟨⟨v, rfl⟩, hW₂, e2, q2, q3, q4, q5, q6⟩ := id hfe
    have e3 : s₂ = ({ (U.calling g mk a).setFrames s₂.frames with heap := s₂.heap, slotsUsed := s₂.slotsUsed } : State).setVm s₂.vm := by
      have : s₂ = ({ s₂ with vm := (U.calling g mk a).vm } : State).setVm s₂.vm := rfl
      rw [e2] at this
      exact this
    obtain ⟨c₂, i₂, len₂, hc₂, hd₂, hf₂⟩ := hend
    have hW' : U.WarmedH s₂.vm := hW₂
    have hcc : c₂ = c := by
      have h1 : s₂.code? g.method = U.code? g.method := by
        rw [State.code?_eq, State.code?_eq, hW'.alike.method?]
      exact Option.some.inj (hc₂.symm.trans (h1.trans h.code))
    subst hcc
    have hlen : len₂ = len := by rw [hdg] at hd₂; cases hd₂; rfl
    subst hlen
    have hs₂ : s₂ = (({ U with heap := s₂.heap, slotsUsed := s₂.slotsUsed } : State).setVm s₂.vm).setTop { g with pc := g.pc + len₂, stack := v.toList ++ g.stack } := by
      refine e3.trans ?_
      rw [hf₂, State.calling_eq h.top, State.setFrames_setFrames, State.setTop_of_frames _ hr', hr]
      rfl
    have hsame : U.sameButNew ({ U with heap := s₂.heap, slotsUsed := s₂.slotsUsed } : State) L mc ms := by
      refine ⟨?_, q2, q3, q4, q5, q6⟩
      obtain ⟨t, ht, -⟩ := State.frames_cons hr
      show ({ U with heap := s₂.heap, slotsUsed := s₂.slotsUsed } : State) = { U.setFrames U.frames with heap := s₂.heap, slotsUsed := s₂.slotsUsed }
      rw [State.setFrames_self ht]
    subst hg
    refine Or.inl ⟨v, ⟨(({ U with heap := s₂.heap, slotsUsed := s₂.slotsUsed } : State).setVm s₂.vm), Ls ++ L, c0 + mc, s0 + ms⟩,
      ⟨X.admits, X.cas, X.clock, X.frames, X.room, X.hears, X.method, X.code, (X.here.setHeapUsed s₂.heap s₂.slotsUsed).setVm hW'.alike, X.tail, State.WarmedH.trans X.warmed hW', X.limits, X.bytes, X.same.trans (hsame.setVm s.vm)⟩,
      ⟨g, mk, s₂, L, rfl, rfl, hqc, rfl, hL, rfl, rfl⟩, ?_⟩
    show Steps p.tables e below _ ((({ U with heap := s₂.heap, slotsUsed := s₂.slotsUsed } : State).setVm s₂.vm).setTop { g with pc := g.pc + len₂, stack := v.toList ++ g.stack })
    rw [← hs₂]
    exact hsteps
  · obtain ⟨e2, q2, q3, q4, q5, q6⟩ := id hsm
    have e3 : s₂ = ({ (U.calling g mk a).setFrames s₂.frames with heap := s₂.heap, slotsUsed := s₂.slotsUsed } : State).setVm s₂.vm := by
      have : s₂ = ({ s₂ with vm := (U.calling g mk a).vm } : State).setVm s₂.vm := rfl
      rw [e2] at this
      exact this
    have hf₂ : s₂.frames = .throwing q :: .java g :: U.frames.tail := hend
    have hW' : U.WarmedH s₂.vm := hW₂
    have hs₂ : s₂ = ((({ U with heap := s₂.heap, slotsUsed := s₂.slotsUsed } : State).setVm s₂.vm).setTop g).pushFrame (.throwing q) := by
      refine e3.trans ?_
      rw [hf₂, State.calling_eq h.top, State.setFrames_setFrames, State.pushFrame, State.frames_setTop _ hr', State.setTop_of_frames _ hr', State.setFrames_setFrames, hr]
      rfl
    have hsame : U.sameButNew ({ U with heap := s₂.heap, slotsUsed := s₂.slotsUsed } : State) L mc ms := by
      refine ⟨?_, q2, q3, q4, q5, q6⟩
      obtain ⟨t, ht, -⟩ := State.frames_cons hr
      show ({ U with heap := s₂.heap, slotsUsed := s₂.slotsUsed } : State) = { U.setFrames U.frames with heap := s₂.heap, slotsUsed := s₂.slotsUsed }
      rw [State.setFrames_self ht]
    subst hg
    refine Or.inr ⟨q, ⟨(({ U with heap := s₂.heap, slotsUsed := s₂.slotsUsed } : State).setVm s₂.vm), Ls ++ L, c0 + mc, s0 + ms⟩,
      ⟨X.admits, X.cas, X.clock, X.frames, X.room, X.hears, X.method, X.code, (X.here.setHeapUsed s₂.heap s₂.slotsUsed).setVm hW'.alike, X.tail, State.WarmedH.trans X.warmed hW', X.limits, X.bytes, X.same.trans (hsame.setVm s.vm)⟩,
      ⟨g, mk, s₂, L, E, ce, rfl, rfl, hx, hce, hcv, hcl, rfl, hL, rfl, rfl⟩, ?_⟩
    show Steps p.tables e below _ (((({ U with heap := s₂.heap, slotsUsed := s₂.slotsUsed } : State).setVm s₂.vm).setTop g).pushFrame (.throwing q))
    rw [← hs₂]
    exact hsteps
end Payer
section Calls
variable {p : Program} {l : Launch} {e : Env} {R : Room} {s : State} {m : MethodId} {args : Array Value} {below : List Frame} {meth : Method} {c : Code} {T : State} {locs : List Loc} {cells slots : Nat}
theorem vx_callV (X : Stand p l e R s m args below meth c T locs cells slots) (hexec : p.tables.exec = Jvm.exec) {own C : String} {index : Nat} {y : MethodName} {bytes : ByteArray} {maxL : Nat} {ret : Option FieldType}
    (hown : s.vm.findClass own = some m.cls) (hlink : (Cond.methodLink own index y).before args s = true) (hinst : (Cond.instanceMethod y).before args s = true) (hsel : (Cond.selects C y y).before args s = true)
    (hcode : (Cond.code y bytes maxL ret).before args s = true) (hy : y.cls ≠ "java/lang/invoke/MethodHandle" ∧ y.cls ≠ "java/lang/invoke/VarHandle")
    {W9 : Nat} {Pre : Pt → Array Value → Prop} {Post : Pt → Array Value → Option Value → Pt → Prop} {PostX : Pt → Array Value → Addr → Pt → Prop} (hK : vx_Back l R p e below s args y 3 W9 Pre Post PostX)
    {b : Addr} {cellB : Cell} (hcell : T.heap[b]? = some cellB) (hobj : cellB.vm.isStatics = false) (hcls : s.vm.findClass C = some cellB.cls)
    {g : JFrame} (hg : g.method = m) (hsize : g.locals.size = c.maxLocals) {argsL rest : List Value} (hlen : ∀ sig, parseMethodDescriptor y.desc = some sig → argsL.length = sig.parameters.length)
    (hstack : g.stack = argsL.reverse ++ .ref b :: rest) (hW : 2 * g.monitorRoom + (rest.map fun v => v.category).sum ≤ W9) (hdg : decode c.code g.pc = .ok (.invokevirtual index, 3))
    (hpre : ∀ vm₁, s.WarmedH vm₁ → Pre ⟨T.setVm vm₁, locs, cells, slots⟩ (Value.ref b :: argsL).toArray) :
    (∃ (v : Option Value) (vm₁ : Vm) (B : Pt), s.WarmedH vm₁ ∧ Stand p l e R s m args below meth c B.U B.locs B.cells B.slots ∧ Post ⟨T.setVm vm₁, locs, cells, slots⟩ (Value.ref b :: argsL).toArray v B ∧
      ∀ target, Steps p.tables e below (B.U.setTop { g with pc := g.pc + 3, stack := v.toList ++ rest }) target → Steps p.tables e below (T.setTop g) target) ∨
    (∃ (q : Addr) (vm₁ : Vm) (B : Pt), s.WarmedH vm₁ ∧ Stand p l e R s m args below meth c B.U B.locs B.cells B.slots ∧ PostX ⟨T.setVm vm₁, locs, cells, slots⟩ (Value.ref b :: argsL).toArray q B ∧
      Steps p.tables e below (T.setTop g) ((B.U.setTop { g with stack := rest }).pushFrame (.throwing q))) := by
  obtain ⟨mk, methM, hnamed, hmethM, hstM, habM⟩ := Cond.instanceMethod_spec hinst
  obtain ⟨methM', cM, hmethM', -, -, -, -, -, -, hsigM⟩ := Cond.code_spec hnamed hcode
  cases hmethM.symm.trans hmethM'
  obtain ⟨c2, r2, m2, q1, q2, q3, q4, kP, hkP, hkPi⟩ := Cond.selects_spec hsel
  cases hcls.symm.trans q1
  cases (State.methodFound?_of_named hnamed hy).symm.trans q2
  cases hnamed.symm.trans q3
  have hselP : selectMethod e.platform s.vm cellB.cls mk = .method mk := by rw [Launch.admits_selectMethod X.admits]; exact q4
  obtain ⟨vm₁, X₁, hstep₁⟩ := X.invokevirtual hexec hown hlink hnamed hmethM hstM hkP hkPi hy (a := b) (cell := cellB) hcell
    (fun z h => by rw [h] at hobj; cases hobj) hselP hmethM habM hkP hkPi (g := g) hg (argsL := argsL) (rest := rest) (hlen _ hsigM) hstack hdg
  rcases hK m meth c ⟨T.setVm vm₁, locs, cells, slots⟩ { g with stack := rest } (.invokevirtual index) mk (Value.ref b :: argsL).toArray X₁ hg hsize hdg hW (X₁.named hnamed) (hpre vm₁ X₁.warmed) with ⟨v, B, X', hpost, hsteps⟩ | ⟨q, B, X', hpost, hsteps⟩
  · exact Or.inl ⟨v, vm₁, B, X₁.warmed, X', hpost, fun target h => hstep₁ _ fun acts => by rw [doInvoke_state]; exact hsteps.trans h⟩
  · exact Or.inr ⟨q, vm₁, B, X₁.warmed, X', hpost, hstep₁ _ fun acts => by rw [doInvoke_state]; exact hsteps⟩
theorem vx_callS (X : Stand p l e R s m args below meth c T locs cells slots) (hexec : p.tables.exec = Jvm.exec) {own : String} {index : Nat} {y : MethodName} {bytes : ByteArray} {maxL : Nat} {ret : Option FieldType}
    (hown : s.vm.findClass own = some m.cls) (hlink : (Cond.methodLink own index y).before args s = true) (hstat : (Cond.static y).before args s = true) (hinit : (Cond.initialized y.cls).before args s = true)
    (hcode : (Cond.code y bytes maxL ret).before args s = true) (hy : y.cls ≠ "java/lang/invoke/MethodHandle" ∧ y.cls ≠ "java/lang/invoke/VarHandle")
    {W9 : Nat} {Pre : Pt → Array Value → Prop} {Post : Pt → Array Value → Option Value → Pt → Prop} {PostX : Pt → Array Value → Addr → Pt → Prop} (hK : vx_Back l R p e below s args y 3 W9 Pre Post PostX)
    {g : JFrame} (hg : g.method = m) (hsize : g.locals.size = c.maxLocals) {argsL rest : List Value} (hlen : ∀ sig, parseMethodDescriptor y.desc = some sig → argsL.length = sig.parameters.length)
    (hstack : g.stack = argsL.reverse ++ rest) (hW : 2 * g.monitorRoom + (rest.map fun v => v.category).sum ≤ W9) (hdg : decode c.code g.pc = .ok (.invokestatic index, 3))
    (hpre : ∀ vm₁, s.WarmedH vm₁ → Pre ⟨T.setVm vm₁, locs, cells, slots⟩ argsL.toArray) :
    (∃ (v : Option Value) (vm₁ : Vm) (B : Pt), s.WarmedH vm₁ ∧ Stand p l e R s m args below meth c B.U B.locs B.cells B.slots ∧ Post ⟨T.setVm vm₁, locs, cells, slots⟩ argsL.toArray v B ∧
      ∀ target, Steps p.tables e below (B.U.setTop { g with pc := g.pc + 3, stack := v.toList ++ rest }) target → Steps p.tables e below (T.setTop g) target) ∨
    (∃ (q : Addr) (vm₁ : Vm) (B : Pt), s.WarmedH vm₁ ∧ Stand p l e R s m args below meth c B.U B.locs B.cells B.slots ∧ PostX ⟨T.setVm vm₁, locs, cells, slots⟩ argsL.toArray q B ∧
      Steps p.tables e below (T.setTop g) ((B.U.setTop { g with stack := rest }).pushFrame (.throwing q))) := by
  obtain ⟨mk, hnamed⟩ := Cond.code_named hcode
  obtain ⟨methM, cM, hmethM, -, -, -, -, -, -, hsigM⟩ := Cond.code_spec hnamed hcode
  have hstatic : methM.isStatic = true := Cond.static_spec hnamed hmethM hstat
  obtain ⟨kP, hkP, -⟩ := className_of_methodNamed hnamed
  have hinitP : kP.init = .initialized := Cond.initialized_spec (findClass_of_methodNamed hnamed) hkP hinit
  obtain ⟨vm₁, X₁, hstep₁⟩ := X.invokestatic hexec hown hlink hnamed hmethM hstatic hkP hinitP hy (g := g) hg (argsL := argsL) (rest := rest) (hlen _ hsigM) hstack hdg
  rcases hK m meth c ⟨T.setVm vm₁, locs, cells, slots⟩ { g with stack := rest } (.invokestatic index) mk argsL.toArray X₁ hg hsize hdg hW (X₁.named hnamed) (hpre vm₁ X₁.warmed) with ⟨v, B, X', hpost, hsteps⟩ | ⟨q, B, X', hpost, hsteps⟩
  · exact Or.inl ⟨v, vm₁, B, X₁.warmed, X', hpost, fun target h => hstep₁ _ fun acts => by rw [doInvoke_state]; exact hsteps.trans h⟩
  · exact Or.inr ⟨q, vm₁, B, X₁.warmed, X', hpost, hstep₁ _ fun acts => by rw [doInvoke_state]; exact hsteps⟩
end Calls
theorem vx_cls {s : State} {T : State} {vm₁ : Vm} {E : String} {k : ClassId} (hW : s.WarmedH vm₁) (h : (T.setVm vm₁).vm.findClass E = some k) : s.vm.findClass E = some k := by
  have h1 : vm₁.findClass E = some k := h
  rw [hW.alike.findClass] at h1
  exact h1
/-- the method's frame g, with q thrown over it -/
def vx_W (p : Program) (l : Launch) (e : Env) (R : Room) (s : State) (m : MethodId) (args : Array Value) (below : List Frame) (meth : Method) (c : Code) (H : Heap) (locs : List Loc) (cells slots : Nat) (Q : State → Prop) (g : JFrame) (q : Addr) : Prop :=
  ∀ T : State, T.heap = H → Stand p l e R s m args below meth c T locs cells slots → ∃ t, Steps p.tables e below ((T.setTop g).pushFrame (.throwing q)) t ∧ Q t
def vx_Run (p : Program) (l : Launch) (e : Env) (R : Room) (s : State) (m : MethodId) (args : Array Value) (below : List Frame) (meth : Method) (c : Code) (H : Heap) (locs : List Loc) (cells slots mc ms : Nat) (g : JFrame) (rest : List Value) (Qa : State → Outcome → State → Prop) (XC : String → State → State → Prop) (free : Addr → Prop) : Prop :=
  ∀ T : State, T.heap = H → Stand p l e R s m args below meth c T locs cells slots →
    (∃ (v : Option Value) (st₀ t T' : State) (L : List Loc), st₀.heap = H ∧ Stand p l e R s m args below meth c T' (locs ++ L) (cells + mc) (slots + ms) ∧ (∀ q ∈ L, free q.base) ∧ T'.heap = t.heap ∧ T'.vm = t.vm ∧ Qa st₀ (.returned v) t ∧
      Goes p e below T g T' { g with pc := g.pc + 3, stack := v.toList ++ rest }) ∨
    (∃ (q : Addr) (st₀ t T' : State) (L : List Loc) (E : String) (ce : Cell), st₀.heap = H ∧ Stand p l e R s m args below meth c T' (locs ++ L) (cells + mc) (slots + ms) ∧ (∀ z ∈ L, free z.base) ∧ T'.heap = t.heap ∧ T'.vm = t.vm ∧ XC E st₀ t ∧ t.heap[q]? = some ce ∧ ce.vm = .none ∧ s.vm.findClass E = some ce.cls ∧
      Steps p.tables e below (T.setTop g) ((T'.setTop { g with stack := rest }).pushFrame (.throwing q)))
def vx_X {S : Type} (px : S → Prop) (B : String → S → State → Prop) (A : Nat → Prop) : String → State → State → Prop := fun E st t => ∃ u : S, px u ∧ B E u t ∧ va_F A st t
section Runs
variable {p : Program} {l : Launch} {e : Env} {R : Room} {s : State} {m : MethodId} {args : Array Value} {below : List Frame} {meth : Method} {c : Code} {H : Heap} {locs : List Loc} {cells slots : Nat}
variable {y : MethodName} {bytes cc : ByteArray} {maxL nL mc ms n index : Nat} {ret : Option FieldType} {ws : List Cond} {rm : Room} {Pc : Array Value → State → Prop} {Qc : Array Value → State → Outcome → State → Prop} {XC : String → State → State → Prop} {free : Addr → Prop} {Ts : List Cond} {own C : String} {b : Addr} {As rest : List Value} {g : JFrame}
theorem vx_callBack (cb : CallB R s args own index y bytes maxL ret ws rm mc ms n) (hM : vx_Met l y ws rm Pc Qc XC mc ms free) (hbl : FrameBlind Pc) : vx_Back l R p e below s args y 3 8 (PreOf R mc ms Pc) (PostOf Qc mc ms free) (vx_Post XC mc ms free) := by
  obtain ⟨hrc, hrs, hfr, hlo, hws, hcw, -, hini, -⟩ := cb
  exact vx_back (bytes := bytes) (maxL := maxL) (ret := ret) hM hbl hrc hrs hfr hlo hws hcw (fun a' U hW => word_at hW (Or.inl (by first | rfl | simp [Cond.onTables, Cond.keeps, Cond.steady])) hini)
theorem vx_runV (S : CallFix p m c cc nL s args Ts own) (hM : vx_Met l y ws rm Pc Qc XC mc ms free) (cw : CallW R s args own C index y bytes maxL ret ws rm mc ms n) (hp : PreV s H C b Pc As)
    (hg : g.method = m) (hn : As.length = n) (hsize : g.locals.size = nL) (hstack : g.stack = As.reverse ++ .ref b :: rest) (hW : 2 * g.monitorRoom + (rest.map fun v => v.category).sum ≤ 8) (hdg : decode cc g.pc = .ok (.invokevirtual index, 3)) (hf : cells + mc ≤ R.cells ∧ slots + ms ≤ R.slots) :
    vx_Run p l e R s m args below meth c H locs cells slots mc ms g rest (Qc (Value.ref b :: As).toArray) XC free := by
  have hK : vx_Back l R p e below s args y 3 8 (PreOf R mc ms Pc) (PostOf Qc mc ms free) (vx_Post XC mc ms free) := vx_callBack cw.1 hM hp.1
  obtain ⟨⟨-, -, -, -, -, -, hcode, -, hy, hlen, hl⟩, hin, hse⟩ := cw
  obtain ⟨hx, hb, hml, ho, -⟩ := S
  obtain ⟨-, ⟨cellB, hcB, hoB, hclB⟩, hPc⟩ := hp
  intro T hT X
  rcases vx_callV X hx (C := C) (bytes := bytes) (maxL := maxL) (ret := ret) ho hl hin hse hcode hy hK (by rw [hT]; exact hcB) hoB hclB hg (hsize.trans hml.symm) (argsL := As) (rest := rest) (fun sig h => hn.trans (hlen sig h)) hstack hW (by rw [hb]; exact hdg)
    (fun vm₁ hW₁ => ⟨hf.1, hf.2, hPc (T.setVm vm₁) hT hW₁⟩) with ⟨v, vm₁, ⟨U', l2, c2, s2⟩, hW₁, X', ⟨g', mk, t, L, e1, e2, hq, h1, hL, h2, h3⟩, st⟩ | ⟨q, vm₁, ⟨U', l2, c2, s2⟩, hW₁, X', ⟨g', mk, t, L, E, ce, e1, e2, hq, hce, hcv, hcl, h1, hL, h2, h3⟩, st⟩
  · dsimp only [Pt.U, Pt.locs, Pt.cells, Pt.slots] at X' e1 e2 h1 h2 h3 st
    subst h1; subst h2; subst h3
    exact Or.inl ⟨v, (T.setVm vm₁).calling g' mk (Value.ref b :: As).toArray, t, U', L, hT, X', hL, e1, e2, hq, st⟩
  · dsimp only [Pt.U, Pt.locs, Pt.cells, Pt.slots] at X' e1 e2 h1 h2 h3 st hcl
    subst h1; subst h2; subst h3
    exact Or.inr ⟨q, (T.setVm vm₁).calling g' mk (Value.ref b :: As).toArray, t, U', L, E, ce, hT, X', hL, e1, e2, hq, hce, hcv, vx_cls hW₁ hcl, st⟩
theorem vx_runS (S : CallFix p m c cc nL s args Ts own) (hM : vx_Met l y ws rm Pc Qc XC mc ms free) (cw : CallB R s args own index y bytes maxL ret ws rm mc ms n ∧ (Cond.static y).before args s = true) (hp : PreS s H Pc As)
    (hg : g.method = m) (hn : As.length = n) (hsize : g.locals.size = nL) (hstack : g.stack = As.reverse ++ rest) (hW : 2 * g.monitorRoom + (rest.map fun v => v.category).sum ≤ 8) (hdg : decode cc g.pc = .ok (.invokestatic index, 3)) (hf : cells + mc ≤ R.cells ∧ slots + ms ≤ R.slots) :
    vx_Run p l e R s m args below meth c H locs cells slots mc ms g rest (Qc As.toArray) XC free := by
  have hK : vx_Back l R p e below s args y 3 8 (PreOf R mc ms Pc) (PostOf Qc mc ms free) (vx_Post XC mc ms free) := vx_callBack cw.1 hM hp.1
  obtain ⟨⟨-, -, -, -, -, -, hcode, hini, hy, hlen, hl⟩, hstt⟩ := cw
  obtain ⟨hx, hb, hml, ho, -⟩ := S
  intro T hT X
  rcases vx_callS X hx (bytes := bytes) (maxL := maxL) (ret := ret) ho hl hstt hini hcode hy hK hg (hsize.trans hml.symm) (argsL := As) (rest := rest) (fun sig h => hn.trans (hlen sig h)) hstack hW (by rw [hb]; exact hdg)
    (fun vm₁ hW₁ => ⟨hf.1, hf.2, hp.2 (T.setVm vm₁) hT hW₁⟩) with ⟨v, vm₁, ⟨U', l2, c2, s2⟩, hW₁, X', ⟨g', mk, t, L, e1, e2, hq, h1, hL, h2, h3⟩, st⟩ | ⟨q, vm₁, ⟨U', l2, c2, s2⟩, hW₁, X', ⟨g', mk, t, L, E, ce, e1, e2, hq, hce, hcv, hcl, h1, hL, h2, h3⟩, st⟩
  · dsimp only [Pt.U, Pt.locs, Pt.cells, Pt.slots] at X' e1 e2 h1 h2 h3 st
    subst h1; subst h2; subst h3
    exact Or.inl ⟨v, (T.setVm vm₁).calling g' mk As.toArray, t, U', L, hT, X', hL, e1, e2, hq, st⟩
  · dsimp only [Pt.U, Pt.locs, Pt.cells, Pt.slots] at X' e1 e2 h1 h2 h3 st hcl
    subst h1; subst h2; subst h3
    exact Or.inr ⟨q, (T.setVm vm₁).calling g' mk As.toArray, t, U', L, E, ce, hT, X', hL, e1, e2, hq, hce, hcv, vx_cls hW₁ hcl, st⟩
end Runs
section Rows
variable {p : Program} {l : Launch} {e : Env} {R : Room} {s : State} {m : MethodId} {args : Array Value} {below : List Frame} {meth : Method} {c : Code} {H : Heap} {locs : List Loc} {cells slots : Nat} {Q : State → Prop}
variable {mc ms : Nat} {free : Addr → Prop} {A0 A1 : Nat → Prop} {H0 : Heap} {a : Array Value} {pc : Nat} {ls : Array Slot} {st0 rest : List Value}
theorem vx_keep {st₀ t T' : State} {L : List Loc} (h0 : st₀.heap = H) (e1 : T'.heap = t.heap) (hS : va_S A0 H0 H locs) (hA : ∀ q, q < H.size → A1 q → A0 q) (hf : ∀ q, free q → A0 q) (hL : ∀ q ∈ L, free q.base) (hF : va_F A1 st₀ t) :
    H.size ≤ T'.heap.size ∧ (∀ q : Nat, q < H.size → ¬ A1 q → T'.heap[q]? = H[q]?) ∧ va_S A0 H0 T'.heap (locs ++ L) := by
  obtain ⟨hz, hk⟩ := hF
  rw [h0] at hz hk
  exact ⟨by rw [e1]; exact hz, fun q h1 h2 => by rw [e1]; exact hk q h1 h2,
    ⟨Nat.le_trans hS.1 (by rw [e1]; exact hz), fun q h1 h2 => by rw [e1, hk q (Nat.lt_of_lt_of_le h1 hS.1) (fun z => h2 (hA q (Nat.lt_of_lt_of_le h1 hS.1) z))]; exact hS.2.1 q h1 h2, fun q hq => by
      rcases List.mem_append.mp hq with h | h
      · exact hS.2.2 q h
      · exact hf _ (hL q h)⟩⟩
theorem vx_calli {S SX : Type} {post : Int32 → S → Prop} {px : SX → Prop} {B : S → State → Prop} {BX : String → SX → State → Prop} {AX : Nat → Prop} (hr : vx_Run p l e R s m args below meth c H locs cells slots mc ms (F0 m pc ls st0) rest (va_Qi post B A1 a) (vx_X px BX AX) free) (hS : va_S A0 H0 H locs) (hA : ∀ q, q < H.size → A1 q → A0 q) (hf : ∀ q, free q → A0 q) (hAX : ∀ q, q < H.size → AX q → A0 q)
    (kx : ∀ (E : String) (ce : Cell) (q9 : Addr) (u : SX) (t : State) (H1 : Heap) (locs1 : List Loc), t.heap = H1 → s.vm.Alike t.vm → px u → BX E u t → H.size ≤ H1.size → (∀ q : Nat, q < H.size → ¬ AX q → H1[q]? = H[q]?) → va_S A0 H0 H1 locs1 → H1[q9]? = some ce → ce.vm = .none → s.vm.findClass E = some ce.cls → vx_W p l e R s m args below meth c H1 locs1 (cells + mc) (slots + ms) Q (F0 m pc ls rest) q9)
    (kk : ∀ (r : Int32) (u : S) (t : State) (H1 : Heap) (locs1 : List Loc), t.heap = H1 → s.vm.Alike t.vm → post r u → B u t → H.size ≤ H1.size → (∀ q : Nat, q < H.size → ¬ A1 q → H1[q]? = H[q]?) → va_S A0 H0 H1 locs1 → W p l e R s m args below meth c H1 locs1 (cells + mc) (slots + ms) Q (F0 m (pc + 3) ls (.int r :: rest))) : W p l e R s m args below meth c H locs cells slots Q (F0 m pc ls st0) := by
  intro T hT X
  rcases hr T hT X with ⟨v, st₀, t, T', L, h0, X', hL, e1, e2, ⟨⟨r, u, hv, hp, hb⟩, hF⟩, st⟩ | ⟨q, st₀, t, T', L, E, ce, h0, X', hL, e1, e2, ⟨u, hp, hb, hF⟩, hce, hcv, hcl, st⟩
  · cases hv
    obtain ⟨k1, k2, k3⟩ := vx_keep h0 e1 hS hA hf hL hF
    obtain ⟨t2, a1, b1⟩ := kk r u t T'.heap (locs ++ L) e1.symm (by rw [← e2]; exact X'.warmed.alike) hp hb k1 k2 k3 T' rfl X'
    exact ⟨t2, st t2 a1, b1⟩
  · obtain ⟨k1, k2, k3⟩ := vx_keep h0 e1 hS hAX hf hL hF
    obtain ⟨t2, a1, b1⟩ := kx E ce q u t T'.heap (locs ++ L) e1.symm (by rw [← e2]; exact X'.warmed.alike) hp hb k1 k2 k3 (by rw [e1]; exact hce) hcv hcl T' rfl X'
    exact ⟨t2, st.trans a1, b1⟩
theorem vx_calll {S SX : Type} {post : Int64 → S → Prop} {px : SX → Prop} {B : S → State → Prop} {BX : String → SX → State → Prop} {AX : Nat → Prop} (hr : vx_Run p l e R s m args below meth c H locs cells slots mc ms (F0 m pc ls st0) rest (va_Ql post B A1 a) (vx_X px BX AX) free) (hS : va_S A0 H0 H locs) (hA : ∀ q, q < H.size → A1 q → A0 q) (hf : ∀ q, free q → A0 q) (hAX : ∀ q, q < H.size → AX q → A0 q)
    (kx : ∀ (E : String) (ce : Cell) (q9 : Addr) (u : SX) (t : State) (H1 : Heap) (locs1 : List Loc), t.heap = H1 → s.vm.Alike t.vm → px u → BX E u t → H.size ≤ H1.size → (∀ q : Nat, q < H.size → ¬ AX q → H1[q]? = H[q]?) → va_S A0 H0 H1 locs1 → H1[q9]? = some ce → ce.vm = .none → s.vm.findClass E = some ce.cls → vx_W p l e R s m args below meth c H1 locs1 (cells + mc) (slots + ms) Q (F0 m pc ls rest) q9)
    (kk : ∀ (r : Int64) (u : S) (t : State) (H1 : Heap) (locs1 : List Loc), t.heap = H1 → s.vm.Alike t.vm → post r u → B u t → H.size ≤ H1.size → (∀ q : Nat, q < H.size → ¬ A1 q → H1[q]? = H[q]?) → va_S A0 H0 H1 locs1 → W p l e R s m args below meth c H1 locs1 (cells + mc) (slots + ms) Q (F0 m (pc + 3) ls (.long r :: rest))) : W p l e R s m args below meth c H locs cells slots Q (F0 m pc ls st0) := by
  intro T hT X
  rcases hr T hT X with ⟨v, st₀, t, T', L, h0, X', hL, e1, e2, ⟨⟨r, u, hv, hp, hb⟩, hF⟩, st⟩ | ⟨q, st₀, t, T', L, E, ce, h0, X', hL, e1, e2, ⟨u, hp, hb, hF⟩, hce, hcv, hcl, st⟩
  · cases hv
    obtain ⟨k1, k2, k3⟩ := vx_keep h0 e1 hS hA hf hL hF
    obtain ⟨t2, a1, b1⟩ := kk r u t T'.heap (locs ++ L) e1.symm (by rw [← e2]; exact X'.warmed.alike) hp hb k1 k2 k3 T' rfl X'
    exact ⟨t2, st t2 a1, b1⟩
  · obtain ⟨k1, k2, k3⟩ := vx_keep h0 e1 hS hAX hf hL hF
    obtain ⟨t2, a1, b1⟩ := kx E ce q u t T'.heap (locs ++ L) e1.symm (by rw [← e2]; exact X'.warmed.alike) hp hb k1 k2 k3 (by rw [e1]; exact hce) hcv hcl T' rfl X'
    exact ⟨t2, st.trans a1, b1⟩
theorem vx_callf {S SX : Type} {post : UInt32 → S → Prop} {px : SX → Prop} {B : S → State → Prop} {BX : String → SX → State → Prop} {AX : Nat → Prop} (hr : vx_Run p l e R s m args below meth c H locs cells slots mc ms (F0 m pc ls st0) rest (va_Qf post B A1 a) (vx_X px BX AX) free) (hS : va_S A0 H0 H locs) (hA : ∀ q, q < H.size → A1 q → A0 q) (hf : ∀ q, free q → A0 q) (hAX : ∀ q, q < H.size → AX q → A0 q)
    (kx : ∀ (E : String) (ce : Cell) (q9 : Addr) (u : SX) (t : State) (H1 : Heap) (locs1 : List Loc), t.heap = H1 → s.vm.Alike t.vm → px u → BX E u t → H.size ≤ H1.size → (∀ q : Nat, q < H.size → ¬ AX q → H1[q]? = H[q]?) → va_S A0 H0 H1 locs1 → H1[q9]? = some ce → ce.vm = .none → s.vm.findClass E = some ce.cls → vx_W p l e R s m args below meth c H1 locs1 (cells + mc) (slots + ms) Q (F0 m pc ls rest) q9)
    (kk : ∀ (r : UInt32) (u : S) (t : State) (H1 : Heap) (locs1 : List Loc), t.heap = H1 → s.vm.Alike t.vm → post r u → B u t → H.size ≤ H1.size → (∀ q : Nat, q < H.size → ¬ A1 q → H1[q]? = H[q]?) → va_S A0 H0 H1 locs1 → W p l e R s m args below meth c H1 locs1 (cells + mc) (slots + ms) Q (F0 m (pc + 3) ls (.float r :: rest))) : W p l e R s m args below meth c H locs cells slots Q (F0 m pc ls st0) := by
  intro T hT X
  rcases hr T hT X with ⟨v, st₀, t, T', L, h0, X', hL, e1, e2, ⟨⟨r, u, hv, hp, hb⟩, hF⟩, st⟩ | ⟨q, st₀, t, T', L, E, ce, h0, X', hL, e1, e2, ⟨u, hp, hb, hF⟩, hce, hcv, hcl, st⟩
  · cases hv
    obtain ⟨k1, k2, k3⟩ := vx_keep h0 e1 hS hA hf hL hF
    obtain ⟨t2, a1, b1⟩ := kk r u t T'.heap (locs ++ L) e1.symm (by rw [← e2]; exact X'.warmed.alike) hp hb k1 k2 k3 T' rfl X'
    exact ⟨t2, st t2 a1, b1⟩
  · obtain ⟨k1, k2, k3⟩ := vx_keep h0 e1 hS hAX hf hL hF
    obtain ⟨t2, a1, b1⟩ := kx E ce q u t T'.heap (locs ++ L) e1.symm (by rw [← e2]; exact X'.warmed.alike) hp hb k1 k2 k3 (by rw [e1]; exact hce) hcv hcl T' rfl X'
    exact ⟨t2, st.trans a1, b1⟩
theorem vx_calld {S SX : Type} {post : UInt64 → S → Prop} {px : SX → Prop} {B : S → State → Prop} {BX : String → SX → State → Prop} {AX : Nat → Prop} (hr : vx_Run p l e R s m args below meth c H locs cells slots mc ms (F0 m pc ls st0) rest (va_Qd post B A1 a) (vx_X px BX AX) free) (hS : va_S A0 H0 H locs) (hA : ∀ q, q < H.size → A1 q → A0 q) (hf : ∀ q, free q → A0 q) (hAX : ∀ q, q < H.size → AX q → A0 q)
    (kx : ∀ (E : String) (ce : Cell) (q9 : Addr) (u : SX) (t : State) (H1 : Heap) (locs1 : List Loc), t.heap = H1 → s.vm.Alike t.vm → px u → BX E u t → H.size ≤ H1.size → (∀ q : Nat, q < H.size → ¬ AX q → H1[q]? = H[q]?) → va_S A0 H0 H1 locs1 → H1[q9]? = some ce → ce.vm = .none → s.vm.findClass E = some ce.cls → vx_W p l e R s m args below meth c H1 locs1 (cells + mc) (slots + ms) Q (F0 m pc ls rest) q9)
    (kk : ∀ (r : UInt64) (u : S) (t : State) (H1 : Heap) (locs1 : List Loc), t.heap = H1 → s.vm.Alike t.vm → post r u → B u t → H.size ≤ H1.size → (∀ q : Nat, q < H.size → ¬ A1 q → H1[q]? = H[q]?) → va_S A0 H0 H1 locs1 → W p l e R s m args below meth c H1 locs1 (cells + mc) (slots + ms) Q (F0 m (pc + 3) ls (.double r :: rest))) : W p l e R s m args below meth c H locs cells slots Q (F0 m pc ls st0) := by
  intro T hT X
  rcases hr T hT X with ⟨v, st₀, t, T', L, h0, X', hL, e1, e2, ⟨⟨r, u, hv, hp, hb⟩, hF⟩, st⟩ | ⟨q, st₀, t, T', L, E, ce, h0, X', hL, e1, e2, ⟨u, hp, hb, hF⟩, hce, hcv, hcl, st⟩
  · cases hv
    obtain ⟨k1, k2, k3⟩ := vx_keep h0 e1 hS hA hf hL hF
    obtain ⟨t2, a1, b1⟩ := kk r u t T'.heap (locs ++ L) e1.symm (by rw [← e2]; exact X'.warmed.alike) hp hb k1 k2 k3 T' rfl X'
    exact ⟨t2, st t2 a1, b1⟩
  · obtain ⟨k1, k2, k3⟩ := vx_keep h0 e1 hS hAX hf hL hF
    obtain ⟨t2, a1, b1⟩ := kx E ce q u t T'.heap (locs ++ L) e1.symm (by rw [← e2]; exact X'.warmed.alike) hp hb k1 k2 k3 (by rw [e1]; exact hce) hcv hcl T' rfl X'
    exact ⟨t2, st.trans a1, b1⟩
theorem vx_callv {S SX : Type} {post : S → Prop} {px : SX → Prop} {B : S → State → Prop} {BX : String → SX → State → Prop} {AX : Nat → Prop} (hr : vx_Run p l e R s m args below meth c H locs cells slots mc ms (F0 m pc ls st0) rest (va_Qv post B A1 a) (vx_X px BX AX) free) (hS : va_S A0 H0 H locs) (hA : ∀ q, q < H.size → A1 q → A0 q) (hf : ∀ q, free q → A0 q) (hAX : ∀ q, q < H.size → AX q → A0 q)
    (kx : ∀ (E : String) (ce : Cell) (q9 : Addr) (u : SX) (t : State) (H1 : Heap) (locs1 : List Loc), t.heap = H1 → s.vm.Alike t.vm → px u → BX E u t → H.size ≤ H1.size → (∀ q : Nat, q < H.size → ¬ AX q → H1[q]? = H[q]?) → va_S A0 H0 H1 locs1 → H1[q9]? = some ce → ce.vm = .none → s.vm.findClass E = some ce.cls → vx_W p l e R s m args below meth c H1 locs1 (cells + mc) (slots + ms) Q (F0 m pc ls rest) q9)
    (kk : ∀ (u : S) (t : State) (H1 : Heap) (locs1 : List Loc), t.heap = H1 → s.vm.Alike t.vm → post u → B u t → H.size ≤ H1.size → (∀ q : Nat, q < H.size → ¬ A1 q → H1[q]? = H[q]?) → va_S A0 H0 H1 locs1 → W p l e R s m args below meth c H1 locs1 (cells + mc) (slots + ms) Q (F0 m (pc + 3) ls (rest))) : W p l e R s m args below meth c H locs cells slots Q (F0 m pc ls st0) := by
  intro T hT X
  rcases hr T hT X with ⟨v, st₀, t, T', L, h0, X', hL, e1, e2, ⟨⟨u, hv, hp, hb⟩, hF⟩, st⟩ | ⟨q, st₀, t, T', L, E, ce, h0, X', hL, e1, e2, ⟨u, hp, hb, hF⟩, hce, hcv, hcl, st⟩
  · cases hv
    obtain ⟨k1, k2, k3⟩ := vx_keep h0 e1 hS hA hf hL hF
    obtain ⟨t2, a1, b1⟩ := kk u t T'.heap (locs ++ L) e1.symm (by rw [← e2]; exact X'.warmed.alike) hp hb k1 k2 k3 T' rfl X'
    exact ⟨t2, st t2 a1, b1⟩
  · obtain ⟨k1, k2, k3⟩ := vx_keep h0 e1 hS hAX hf hL hF
    obtain ⟨t2, a1, b1⟩ := kx E ce q u t T'.heap (locs ++ L) e1.symm (by rw [← e2]; exact X'.warmed.alike) hp hb k1 k2 k3 (by rw [e1]; exact hce) hcv hcl T' rfl X'
    exact ⟨t2, st.trans a1, b1⟩
/-- caught by the row x of this method's table; the rows ahead don't take it -/
theorem vx_catch {own name : String} {E : String} {ce : Cell} {q : Addr} (hown : s.vm.findClass own = some m.cls) (pre : List ExceptionTableEntry) (x : ExceptionTableEntry) (suf : List ExceptionTableEntry) (hsplit : c.exceptionTable.toList = pre ++ x :: suf)
    (hpass : ∀ z ∈ pre, covers z pc = false ∨ (z.catchType ≠ 0 ∧ ∃ nm : String, (Cond.classLink own z.catchType nm).before args s = true ∧ va_Nc E nm s)) (hx : covers x pc = true) (h0 : x.catchType ≠ 0)
    (hlink : (Cond.classLink own x.catchType name).before args s = true) (hcast : (Cond.castable E name).before args s = true) (hcell : H[q]? = some ce) (hv : ce.vm = .none) (hcl : s.vm.findClass E = some ce.cls)
    (kk : W p l e R s m args below meth c H locs cells slots Q (F0 m x.handlerPc ls [.ref q])) : vx_W p l e R s m args below meth c H locs cells slots Q (F0 m pc ls rest) q := by
  intro T hT X
  have hpl : e.platform.magicAccessors = ({} : Platform).magicAccessors := by rw [X.admits.platform]
  obtain ⟨c3, c4, hc3, hc4, hasg⟩ := Cond.castable_spec hcast
  cases Option.some.inj (hc3.symm.trans hcl)
  obtain ⟨c5, hc5, hcl5⟩ := Cond.classLink_spec hown hlink e.platform hpl
  cases Option.some.inj (hc4.symm.trans hc5)
  obtain ⟨vm', X', st⟩ := X.thenCaughtThrough q (g := F0 m pc ls rest) rfl (Steps.refl _) (by rw [hT]; exact hcell) (by rw [hv]; rfl) (by obtain ⟨k9, h9, -⟩ := Vm.findClass_spec hcl; exact ⟨k9, h9⟩) pre x suf hsplit
    (fun z hz => by
      rcases hpass z hz with h | ⟨hz0, nm, hl1, hn1⟩
      · exact Or.inl h
      · obtain ⟨c6, hc6, hcl6⟩ := Cond.classLink_spec hown hl1 e.platform hpl
        obtain ⟨a8, b8, h1, h2, h3⟩ := hn1
        cases Option.some.inj (h1.symm.trans hcl)
        cases Option.some.inj (h2.symm.trans hc6)
        exact Or.inr ⟨hz0, _, hcl6, h3⟩) hx (Or.inr ⟨h0, c4, hcl5, hasg⟩)
  obtain ⟨t, a1, b1⟩ := kk (T.setVm vm') hT X'
  exact ⟨t, st.trans a1, b1⟩
end Rows
section Ends
variable {p : Program} {l : Launch} {e : Env} {R : Room} {s : State} {m : MethodId} {args : Array Value} {below : List Frame} {meth : Method} {c : Code} {H : Heap} {locs : List Loc} {cells slots : Nat} {Q : State → Prop}
variable {mc ms : Nat} {free : Addr → Prop} {A0 A1 : Nat → Prop} {H0 : Heap} {a : Array Value} {ls : Array Slot} {st0 rest : List Value}
variable {Qc : Array Value → State → Outcome → State → Prop} {XC : String → State → State → Prop}
/-- what a body that may throw owes at its end -/
def vx_MQ (below : List Frame) (Qc : Array Value → State → Outcome → State → Prop) (XC : String → State → State → Prop) (a : Array Value) (s : State) (mc ms : Nat) (free : Addr → Prop) : State → Prop := fun t =>
  ∃ o, t.status = .running ∧ Ended t below o ∧ vx_Q Qc XC mc ms free a s o t
theorem vx_ret {g : JFrame} {mc ms : Nat} (k : W p l e R s m args below meth c H locs cells slots (MQ below Qc args s mc ms free) g) : W p l e R s m args below meth c H locs cells slots (vx_MQ below Qc XC args s mc ms free) g := by
  intro T hT X
  obtain ⟨t, a1, o, b1, b2, b3, b4⟩ := k T hT X
  exact ⟨t, a1, o, b1, b2, Or.inl ⟨b3, b4⟩⟩
/-- not caught here: it goes on to the caller -/
theorem vx_widen {g : JFrame} {q : Addr} {k n : Nat} (h1 : cells ≤ k) (h2 : slots ≤ n) (kk : vx_W p l e R s m args below meth c H locs k n Q g q) : vx_W p l e R s m args below meth c H locs cells slots Q g q := fun T hT X => kk T hT (stand_widen X h1 h2)
theorem vx_out {pc : Nat} {E : String} {ce : Cell} {q : Addr} {mc ms : Nat} (hout : ∀ x ∈ c.exceptionTable.toList, covers x pc = false) (hlocks : meth.locks = false) (hcell : H[q]? = some ce) (hv : ce.vm = .none) (hcl : s.vm.findClass E = some ce.cls)
    (hx : ∀ t : State, t.heap = H → s.vm.Alike t.vm → XC E s t) (hf : ∀ z ∈ locs, free z.base) (hc : cells ≤ mc) (hs : slots ≤ ms) :
    vx_W p l e R s m args below meth c H locs cells slots (vx_MQ below Qc XC args s mc ms free) (F0 m pc ls rest) q := by
  intro T hT X
  obtain ⟨st1, hrun, hend, hW, hsm⟩ := X.leaveThrown q (g := F0 m pc ls rest) rfl rfl rfl hout hlocks
  have hcell9 : (T.setFrames (.throwing q :: below)).heap[q]? = some ce := by
    show T.heap[q]? = some ce
    rw [hT]; exact hcell
  exact ⟨_, st1, .threw q, hrun, hend, Or.inr ⟨q, rfl, E, ce, locs, hx _ hT hW.alike, hcell9, hv, hcl, hW, hsm.mono hc hs, hf⟩⟩
theorem vx_frame {U : State} {k n : Nat} (h : s.sameButNew ({ U with vm := s.vm } : State) locs k n) : s.heap.size ≤ U.heap.size ∧ ∀ q : Nat, q < s.heap.size → (∀ z ∈ locs, z.base ≠ q) → U.heap[q]? = s.heap[q]? := by
  obtain ⟨-, h2, -, -, -, h6⟩ := h
  refine ⟨h2, fun q hq hz => ?_⟩
  obtain ⟨c9, e1, e2, e3, e4⟩ := h6 q _ (Array.getElem?_eq_getElem hq)
  have hs : c9.slots = (s.heap[q]).slots := Array.ext_getElem? fun i => e4 i fun hm => hz _ hm rfl
  have h9 : c9 = s.heap[q] := by
    rw [hs] at e2
    exact e2
  have e5 : U.heap[q]? = some c9 := e1
  rw [e5, h9, Array.getElem?_eq_getElem hq]
/-- the words of a throw but the four that speak of the heap -/
def vx_no (w : Cond) : Bool := decide (w ≠ .isRef (.static Bundle.tN "UNASSIGNED_STACK" Bundle.steD)) && decide (w ≠ .isRef (.static Bundle.tN "SUPPRESSED_SENTINEL" Bundle.listD)) && decide (w ≠ .laysStatic Bundle.tN "UNASSIGNED_STACK" Bundle.steD) && decide (w ≠ .laysStatic Bundle.tN "SUPPRESSED_SENTINEL" Bundle.listD)
def vx_at0 (own : String) (ic : Nat) (X : String) (names : List String) : List Cond := (Bundle.ownAtoms0 own ic X names).filter vx_no
def vx_atS (own : String) (ic : Nat) (X : String) (names : List String) : List Cond := (Bundle.ownAtoms own ic X names).filter vx_no
/-- a word that the tables alone decide, or a good one -/
def vx_ot (w : Cond) : Bool := w.onTables || goodWord w
theorem vx_ot_at {args a' : Array Value} {s U : State} {w : Cond} (hW : s.WarmedH U.vm) (hvm : s.vm = U.vm) (hg : vx_ot w = true) (h : w.before args s = true) : w.before a' U = true := by
  simp only [vx_ot, Bool.or_eq_true] at hg
  rcases hg with hg | hg
  · exact va_tabs hg hvm h
  · exact word_at hW (good_of_word hg) h
/-- a list's words: the good ones out of the method's own list, the others by premises of their own -/
theorem vx_hat {args : Array Value} {s : State} {L B : List Cond} (h1 : ∀ w ∈ L.filter goodWord, w.before args s = true) (h2 : ∀ w ∈ L.filter (fun w => !goodWord w), w ∈ B) (h3 : ∀ w ∈ B, w.before args s = true) : ∀ w ∈ L, w.before args s = true := by
  intro w hw
  by_cases g : goodWord w = true
  · exact h1 w (List.mem_filter.mpr ⟨hw, g⟩)
  · refine h3 w (h2 w (List.mem_filter.mpr ⟨hw, ?_⟩))
    show (!goodWord w) = true
    cases hgw : goodWord w
    · rfl
    · exact absurd hgw g
theorem vx_c {args : Array Value} {s : State} {w : Cond} {B : List Cond} (h : w.before args s = true) (t : ∀ w ∈ B, w.before args s = true) : ∀ w' ∈ w :: B, w'.before args s = true := fun w' h' => (List.mem_cons.mp h').elim (fun e => by rw [e]; exact h) (t w')
theorem vx_n {args : Array Value} {s : State} : ∀ w ∈ ([] : List Cond), w.before args s = true := fun _ h => nomatch h
theorem vx_own {args : Array Value} {s : State} {L : List Cond} (h1 : ∀ w ∈ L.filter vx_no, w.before args s = true)
    (hU : (Cond.isRef (.static Bundle.tN "UNASSIGNED_STACK" Bundle.steD)).before args s = true) (hN : (Cond.isRef (.static Bundle.tN "SUPPRESSED_SENTINEL" Bundle.listD)).before args s = true)
    (lU : (Cond.laysStatic Bundle.tN "UNASSIGNED_STACK" Bundle.steD).before args s = true) (lN : (Cond.laysStatic Bundle.tN "SUPPRESSED_SENTINEL" Bundle.listD).before args s = true) : ∀ w ∈ L, w.before args s = true := by
  intro w hw
  by_cases e1 : w = .isRef (.static Bundle.tN "UNASSIGNED_STACK" Bundle.steD)
  · rw [e1]; exact hU
  · by_cases e2 : w = .isRef (.static Bundle.tN "SUPPRESSED_SENTINEL" Bundle.listD)
    · rw [e2]; exact hN
    · by_cases e3 : w = .laysStatic Bundle.tN "UNASSIGNED_STACK" Bundle.steD
      · rw [e3]; exact lU
      · by_cases e4 : w = .laysStatic Bundle.tN "SUPPRESSED_SENTINEL" Bundle.listD
        · rw [e4]; exact lN
        · exact h1 w (List.mem_filter.mpr ⟨hw, by unfold vx_no; rw [decide_eq_true e1, decide_eq_true e2, decide_eq_true e3, decide_eq_true e4]; rfl⟩)
/-- where a static field lies, its class's statics cell in H -/
def vx_L (C n d : String) (A : Nat → Prop) (U : State) (H : Heap) : Prop := ∃ (c : ClassId) (k : Class) (i : Nat) (f : Field) (a : Nat) (cell : Cell), U.vm.findClass C = some c ∧ U.fieldFound? C n d = some (c, k, i, f) ∧ f.isStatic = true ∧ k.statics = some a ∧ H[a]? = some cell ∧ cell.vm.isStatics = true ∧ cell.cls = c ∧ f.slot < cell.slots.size ∧ k.staticTypes[f.slot]? = some f.type ∧ ¬ A a
theorem vx_L.moved {C n d : String} {A : Nat → Prop} {u U : State} {H : Heap} (hvm : u.vm.Alike U.vm) (h : vx_L C n d A u H) : vx_L C n d A U H := by
  obtain ⟨c, k, i, f, a, cell, h1, h2, h3, h4, h5, h6, h7, h8, h9, h10⟩ := h
  obtain ⟨k', hi', he⟩ := State.fieldFound?_setVm hvm h2
  exact ⟨c, k', i, f, a, cell, by rw [hvm.findClass]; exact h1, hi', h3, by rw [he]; exact h4, h5, h6, h7, h8, by rw [he]; exact h9, h10⟩
theorem vx_L.kept {C n d : String} {A : Nat → Prop} {U : State} {H H1 : Heap} (h : vx_L C n d A U H) (hq : ∀ a : Nat, a < H.size → ¬ A a → H1[a]? = H[a]?) : vx_L C n d A U H1 := by
  obtain ⟨c, k, i, f, a, cell, h1, h2, h3, h4, h5, h6, h7, h8, h9, h10⟩ := h
  exact ⟨c, k, i, f, a, cell, h1, h2, h3, h4, by rw [hq a (Array.getElem?_eq_some_iff.mp h5).1 h10]; exact h5, h6, h7, h8, h9, h10⟩
theorem vx_L.narrow {C n d : String} {A B : Nat → Prop} {U : State} {H : Heap} (h : vx_L C n d A U H) (hAB : ∀ q, B q → A q) : vx_L C n d B U H := by
  obtain ⟨c, k, i, f, a, cell, h1, h2, h3, h4, h5, h6, h7, h8, h9, h10⟩ := h
  exact ⟨c, k, i, f, a, cell, h1, h2, h3, h4, h5, h6, h7, h8, h9, fun z => h10 (hAB _ z)⟩
theorem vx_L.word {C n d : String} {A : Nat → Prop} {s : State} {args : Array Value} (h : vx_L C n d A s s.heap) : (Cond.laysStatic C n d).before args s = true := by
  obtain ⟨c, k, i, f, a, cell, h1, h2, h3, h4, h5, h6, h7, h8, h9, -⟩ := h
  show (Cond.laysStatic C n d).holds args s none s [] = true
  exact Cond.laysStatic_of h1 h2 h3 h4 h5 h6 h7 h8 h9
/-- .. and what it holds: null or some reference -/
def vx_Zq (C n d : String) (A : Nat → Prop) (U : State) (H : Heap) : Prop := va_Zq C n d A U H ∧ vx_L C n d A U H
theorem vx_Zq.moved {C n d : String} {A : Nat → Prop} {u U : State} {H : Heap} (hvm : u.vm.Alike U.vm) (h : vx_Zq C n d A u H) : vx_Zq C n d A U H := ⟨va_Zq.moved hvm h.1, vx_L.moved hvm h.2⟩
theorem vx_Zq.kept {C n d : String} {A : Nat → Prop} {U : State} {H H1 : Heap} (h : vx_Zq C n d A U H) (hq : ∀ a : Nat, a < H.size → ¬ A a → H1[a]? = H[a]?) : vx_Zq C n d A U H1 := ⟨va_Zq.kept h.1 hq, vx_L.kept h.2 hq⟩
theorem vx_Zq.narrow {C n d : String} {A B : Nat → Prop} {U : State} {H : Heap} (h : vx_Zq C n d A U H) (hAB : ∀ q, B q → A q) : vx_Zq C n d B U H := ⟨va_Zq.narrow h.1 hAB, vx_L.narrow h.2 hAB⟩
theorem vx_Zqof {args : Array Value} {s : State} {C n d : String} {A : Nat → Prop} (hl : (Cond.laysStatic C n d).before args s = true) (hini : (Cond.initialized C).before args s = true) (h : (Cond.isRef (.static C n d)).before args s = true) (hA : ∀ a : Nat, a < s.heap.size → ¬ A a) : vx_Zq C n d A s s.heap := by
  refine ⟨va_Zqof hl hini h hA, ?_⟩
  obtain ⟨c, k, i, f, a, cell, h1, h2, h3, h4, h5, h6, h7, h8, h9⟩ := Cond.laysStatic_spec hl
  exact ⟨c, k, i, f, a, cell, h1, h2, h3, h4, h5, h6, h7, h8, h9, hA a (Array.getElem?_eq_some_iff.mp h5).1⟩
theorem vx_isRef {C n d : String} {v : Value} {A : Nat → Prop} {s : State} {args : Array Value} (h : va_Z C n d v A s s.heap) (hv : v.isRef = true) : (Cond.isRef (.static C n d)).before args s = true := by
  obtain ⟨cf, kf, fi, f, a, cell, h1, h2, h3, h4, h5, h6, h7, -⟩ := h
  have he : (Term.static C n d).eval args s none [] s = some v := by
    simp [Term.eval, State.fieldNamed?, h1, h2, h4, h5, h6, h7]
  simp only [Cond.before, Cond.holds, Cond.value, he]
  cases v <;> simp_all [Value.isRef]
theorem vx_isRefq {C n d : String} {A : Nat → Prop} {s : State} {args : Array Value} (h : va_Zq C n d A s s.heap) : (Cond.isRef (.static C n d)).before args s = true := by
  rcases h with h | ⟨t, h⟩
  · exact vx_isRef h rfl
  · exact vx_isRef h rfl
/-- the same frame, seen from here: as if the method were called anew in this heap -/
theorem vx_rebase {T : State} (X : Stand p l e R s m args below meth c T locs cells slots) {R' : Room} (hf : R'.frames ≤ R.frames) (hl : R'.locals ≤ R.locals) (hc : cells + R'.cells ≤ R.cells) (hs : slots + R'.slots ≤ R.slots) :
    Stand p l e R' ((T.setVm s.vm).setFrames (.invoking m args :: below)) m args below meth c T [] 0 0 := by
  have htop : (T.setVm s.vm).topJava?.isSome := X.here.top
  have hF : ((T.setVm s.vm).setFrames (.invoking m args :: below)).frames = .invoking m args :: below := State.frames_setFrames _ (State.cur_lt_of_top htop)
  obtain ⟨g₀, hg0⟩ := Option.isSome_iff_exists.mp htop
  obtain ⟨r, hr⟩ := State.topJava?_eq_some.mp hg0
  have hl9 : e.platform.stackLimits (T.setVm s.vm).me = e.platform.stackLimits s.me := X.limits
  have hb9 : (T.setVm s.vm).me.stackBytes = s.me.stackBytes := X.bytes
  refine ⟨X.admits, X.cas, X.clock, hF, ?_, X.hears, X.method, X.code, X.here, X.tail, X.warmed, ?_, ?_, ?_⟩
  · have h := X.room
    have hU : ((T.setVm s.vm).setFrames (.invoking m args :: below)).localsInUse = s.localsInUse := by
      rw [State.localsInUse_invoking hF (meth := meth) (c := c) X.method X.code, State.localsInUse_invoking X.frames X.method X.code]
    simp only [State.hasRoom, Bool.and_eq_true, decide_eq_true_eq] at h ⊢
    obtain ⟨⟨⟨⟨h1, h2, h3, h4, h5, h6⟩, h7⟩, h8⟩, h9⟩ := h
    rw [X.frames, List.length_cons] at h2 h3
    have q1 := X.heapSize
    have q2 := X.used
    simp only [hF, hU, List.length_cons, State.stackLimits_setFrames, State.stackBytes_setFrames, hl9, hb9]
    refine ⟨⟨⟨⟨by omega, by omega, by omega, by omega, by omega, h6⟩, ?_⟩, ?_⟩, X.book⟩
    · show T.heap.size + R'.cells ≤ e.platform.maxCells
      omega
    · show T.slotsUsed + R'.slots ≤ e.platform.maxSlots
      omega
  · rw [State.stackLimits_setFrames]; rfl
  · rw [State.stackBytes_setFrames]; rfl
  · refine ⟨?_, Nat.le_refl _, Nat.le_refl _, ?_, ?_, fun a c9 h9 => ⟨c9, h9, rfl, rfl, fun _ _ => rfl⟩⟩
    · obtain ⟨t, ht, -⟩ := State.frames_cons hr
      show T.setVm s.vm = { ((T.setVm s.vm).setFrames (.invoking m args :: below)).setFrames (T.setVm s.vm).frames with heap := T.heap, slotsUsed := T.slotsUsed }
      rw [State.setFrames_setFrames, State.setFrames_self ht]
      rfl
    · show T.slotsUsed = T.slotsUsed + ((T.heap.toList.drop T.heap.size).map (·.slots.size)).sum
      rw [List.drop_eq_nil_of_le (Nat.le_of_eq Array.length_toList)]
      rfl
    · show ((T.heap.toList.drop T.heap.size).map (·.slots.size)).sum ≤ 0
      rw [List.drop_eq_nil_of_le (Nat.le_of_eq Array.length_toList)]
      exact Nat.le_refl _
/-- 'throw new E()': new; dup; invokespecial; athrow -/
theorem vx_throw0 {cc : ByteArray} {pc : Nat} (hexec : p.tables.exec = Jvm.exec) (hb : c.code = cc) (hl : l.stackTraces = false) {own cls : String} {names : List String} {ik ic mc ms : Nat} {A : Nat → Prop}
    (hown : s.vm.findClass own = some m.cls) (hcls : Bundle.fit cls = true) (hnames : ∀ n ∈ names, Bundle.fit n = true)
    (hk : (Cond.classLink own ik cls).before args s = true) (hini : (Cond.initialized cls).before args s = true) (hat : ∀ w ∈ vx_at0 own ic cls names, w.before args s = true)
    (hgood : ∀ w ∈ Cond.classLink own ik cls :: Cond.initialized cls :: vx_at0 own ic cls names, vx_ot w = true)
    (hU : vx_Zq Bundle.tN "UNASSIGNED_STACK" Bundle.steD A s s.heap) (hN : vx_Zq Bundle.tN "SUPPRESSED_SENTINEL" Bundle.listD A s s.heap) (hS : va_S A s.heap H locs) (hsize : ls.size = c.maxLocals)
    (d0 : decode cc pc = .ok (.new ik, 3)) (d3 : decode cc (pc + 3) = .ok (.dup, 1)) (d4 : decode cc (pc + 4) = .ok (.invokespecial ic, 3)) (d7 : decode cc (pc + 7) = .ok (.athrow, 1))
    (hout : ∀ x ∈ c.exceptionTable.toList, covers x (pc + 7) = false)
    (hRframes : names.length + 3 < R.frames) (hRlocals : (rest.map fun v => v.category).sum + (13 * (names.length + 1) + 42) ≤ R.locals) (hRcells : cells + 1 ≤ R.cells) (hRslots : slots + 6 ≤ R.slots) (hlocks : meth.locks = false)
    (hx : ∀ t : State, s.vm.Alike t.vm → H.size ≤ t.heap.size → (∀ q : Nat, q < H.size → t.heap[q]? = H[q]?) → XC cls s t)
    (hf : ∀ z ∈ locs, free z.base) (hc : cells + 1 ≤ mc) (hs : slots + 6 ≤ ms) :
    W p l e R s m args below meth c H locs cells slots (vx_MQ below Qc XC args s mc ms free) (F0 m pc ls rest) := by
  intro T hT X
  have htr : e.platform.stackTraces = false := (show e.platform.stackTraces = l.stackTraces by rw [X.admits.platform]).trans hl
  have Y := vx_rebase X (R' := { frames := R.frames, locals := R.locals, cells := 1, slots := 6 }) (Nat.le_refl _) (Nat.le_refl _) hRcells hRslots
  obtain ⟨s', hA⟩ : ∃ z, z = (T.setVm s.vm).setFrames (.invoking m args :: below) := ⟨_, rfl⟩
  rw [← hA] at Y
  have hvm : s'.vm = s.vm := by rw [hA]; rfl
  have hhp : s'.heap = H := by rw [hA]; exact hT
  have hW0 : s.WarmedH s'.vm := by rw [hvm]; exact State.WarmedH.refl s
  have hat' : ∀ w ∈ vx_at0 own ic cls names, w.before args s' = true := fun w hw => vx_ot_at hW0 hvm.symm (hgood w (List.mem_cons_of_mem _ (List.mem_cons_of_mem _ hw))) (hat w hw)
  have hk' : (Cond.classLink own ik cls).before args s' = true := vx_ot_at hW0 hvm.symm (hgood _ List.mem_cons_self) hk
  have hini' : (Cond.initialized cls).before args s' = true := vx_ot_at hW0 hvm.symm (hgood _ (List.mem_cons_of_mem _ List.mem_cons_self)) hini
  have hU' : vx_Zq Bundle.tN "UNASSIGNED_STACK" Bundle.steD A s' s'.heap := by rw [hhp]; exact vx_Zq.moved hW0.alike (hU.kept hS.2.1)
  have hN' : vx_Zq Bundle.tN "SUPPRESSED_SENTINEL" Bundle.listD A s' s'.heap := by rw [hhp]; exact vx_Zq.moved hW0.alike (hN.kept hS.2.1)
  have h : ∀ w ∈ Bundle.ownAtoms0 own ic cls names, w.before args s' = true := vx_own hat' (vx_isRefq hU'.1) (vx_isRefq hN'.1) hU'.2.word hN'.2.word
  have hown' : s'.vm.findClass own = some m.cls := by rw [hvm]; exact hown
  have hins : (Cond.instantiable cls 6).before args s' = true := h _ (by simp [Bundle.ownAtoms0])
  obtain ⟨vm₁, cX, kX, hfX, hkX, -, -, X₁, st1⟩ := Y.newCold hexec (own := own) (C := cls) (index := ik) (n := 6) hown' hk' hins hini'
    (g := F0 m pc ls rest) rfl (by rw [hb]; exact d0) (Nat.le_refl _) (Nat.le_refl _)
  generalize hT1 : (T.setVm vm₁).pushCell { cls := cX, slots := kX.instanceTypes.map defaultValue, vm := .none } = T1 at X₁ st1
  have hcat : (Value.ref T.heap.size).category = 1 := rfl
  have hcellA : T1.heap[T.heap.size]? = some (freshCell cX kX) := by rw [← hT1]; exact State.heap_pushCell_size _ _
  have d3' : decode c.code (pc + 3) = .ok (.dup, 1) := by rw [hb]; exact d3
  obtain ⟨U, hsteps, hrun, hend, hW, hsame, ce, hce, hO⟩ := X₁.ctorThrow0 hexec htr (own := own) (cls := cls) (names := names) (ic := ic) hown' hcls hnames h (fun x hx => nomatch hx) hfX hkX hcellA (by rw [hhp, hT]; exact Nat.le_refl _)
    (g := { method := m, pc := pc + 4, locals := ls, stack := .ref T.heap.size :: .ref T.heap.size :: rest, locked := none }) rfl hsize rfl rfl (rest := rest) rfl
    (by rw [hb]; exact d4) (by rw [hb]; exact d7) hout hRframes (by simp only [List.map_cons, List.sum_cons, hcat]; omega) hlocks
  obtain ⟨f1, f2⟩ := vx_frame hsame
  rw [hhp] at f1 f2
  have hWs : s.WarmedH U.vm := State.WarmedH.trans hW0 hW
  have hcl : s.vm.findClass cls = some ce.cls := by
    have h9 := hO.cls
    rw [hvm] at h9
    exact h9
  have hall : s.sameButNew ({ U with vm := s.vm } : State) locs mc ms := by
    subst hA
    obtain ⟨e1, e2⟩ := hsame
    rw [State.setFrames_setFrames] at e1
    have h2 : (T.setVm s.vm).sameButNew ({ U with vm := s.vm } : State) [] (0 + 1) (0 + 6) := ⟨e1, e2⟩
    have h3 := X.same.trans h2
    rw [List.append_nil] at h3
    exact h3.mono hc hs
  refine ⟨U, ?_, .threw T.heap.size, hrun, hend, Or.inr ⟨T.heap.size, rfl, cls, ce, locs, hx U hWs.alike f1 (fun q hq => f2 q hq (fun z hz => nomatch hz)), hce, hO.vm, hcl, hWs, hall, hf⟩⟩
  refine st1 _ ?_
  show Steps p.tables e below (T1.setTop { method := m, pc := pc + 3, locals := ls, stack := .ref T.heap.size :: rest, locked := none }) _
  jvm_step X₁.here [X₁.here.top, hexec, d3', Value.category]
  exact hsteps
/-- 'throw new E("text")': new; dup; ldc; invokespecial; athrow -/
theorem vx_throwS {cc : ByteArray} {pc : Nat} (hexec : p.tables.exec = Jvm.exec) (hb : c.code = cc) (hl : l.stackTraces = false) {own cls text : String} {names : List String} {ik is ic mc ms sa : Nat} {A : Nat → Prop}
    (hown : s.vm.findClass own = some m.cls) (hcls : Bundle.fit cls = true) (hnames : ∀ n ∈ names, Bundle.fit n = true)
    (hk : (Cond.classLink own ik cls).before args s = true) (hini : (Cond.initialized cls).before args s = true) (hstr : vk_R own is text sa s) (hat : ∀ w ∈ vx_atS own ic cls names, w.before args s = true)
    (hgood : ∀ w ∈ Cond.classLink own ik cls :: Cond.initialized cls :: vx_atS own ic cls names, vx_ot w = true)
    (hU : vx_Zq Bundle.tN "UNASSIGNED_STACK" Bundle.steD A s s.heap) (hN : vx_Zq Bundle.tN "SUPPRESSED_SENTINEL" Bundle.listD A s s.heap) (hS : va_S A s.heap H locs) (hsize : ls.size = c.maxLocals)
    (d0 : decode cc pc = .ok (.new ik, 3)) (d3 : decode cc (pc + 3) = .ok (.dup, 1)) (d4 : decode cc (pc + 4) = .ok (.ldc is, 2)) (d6 : decode cc (pc + 6) = .ok (.invokespecial ic, 3)) (d9 : decode cc (pc + 9) = .ok (.athrow, 1))
    (hout : ∀ x ∈ c.exceptionTable.toList, covers x (pc + 9) = false)
    (hRframes : names.length + 3 < R.frames) (hRlocals : (rest.map fun v => v.category).sum + (13 * (names.length + 1) + 43) ≤ R.locals) (hRcells : cells + 1 ≤ R.cells) (hRslots : slots + 6 ≤ R.slots) (hlocks : meth.locks = false)
    (hx : ∀ t : State, s.vm.Alike t.vm → H.size ≤ t.heap.size → (∀ q : Nat, q < H.size → t.heap[q]? = H[q]?) → XC cls s t)
    (hf : ∀ z ∈ locs, free z.base) (hc : cells + 1 ≤ mc) (hs : slots + 6 ≤ ms) :
    W p l e R s m args below meth c H locs cells slots (vx_MQ below Qc XC args s mc ms free) (F0 m pc ls rest) := by
  intro T hT X
  have htr : e.platform.stackTraces = false := (show e.platform.stackTraces = l.stackTraces by rw [X.admits.platform]).trans hl
  have Y := vx_rebase X (R' := { frames := R.frames, locals := R.locals, cells := 1, slots := 6 }) (Nat.le_refl _) (Nat.le_refl _) hRcells hRslots
  obtain ⟨s', hA⟩ : ∃ z, z = (T.setVm s.vm).setFrames (.invoking m args :: below) := ⟨_, rfl⟩
  rw [← hA] at Y
  have hvm : s'.vm = s.vm := by rw [hA]; rfl
  have hhp : s'.heap = H := by rw [hA]; exact hT
  have hW0 : s.WarmedH s'.vm := by rw [hvm]; exact State.WarmedH.refl s
  have hat' : ∀ w ∈ vx_atS own ic cls names, w.before args s' = true := fun w hw => vx_ot_at hW0 hvm.symm (hgood w (List.mem_cons_of_mem _ (List.mem_cons_of_mem _ hw))) (hat w hw)
  have hk' : (Cond.classLink own ik cls).before args s' = true := vx_ot_at hW0 hvm.symm (hgood _ List.mem_cons_self) hk
  have hini' : (Cond.initialized cls).before args s' = true := vx_ot_at hW0 hvm.symm (hgood _ (List.mem_cons_of_mem _ List.mem_cons_self)) hini
  have hU' : vx_Zq Bundle.tN "UNASSIGNED_STACK" Bundle.steD A s' s'.heap := by rw [hhp]; exact vx_Zq.moved hW0.alike (hU.kept hS.2.1)
  have hN' : vx_Zq Bundle.tN "SUPPRESSED_SENTINEL" Bundle.listD A s' s'.heap := by rw [hhp]; exact vx_Zq.moved hW0.alike (hN.kept hS.2.1)
  have h : ∀ w ∈ Bundle.ownAtoms own ic cls names, w.before args s' = true := vx_own hat' (vx_isRefq hU'.1) (vx_isRefq hN'.1) hU'.2.word hN'.2.word
  have hown' : s'.vm.findClass own = some m.cls := by rw [hvm]; exact hown
  have hins : (Cond.instantiable cls 6).before args s' = true := h _ (by simp [Bundle.ownAtoms])
  obtain ⟨vm₁, cX, kX, hfX, hkX, -, -, X₁, st1⟩ := Y.newCold hexec (own := own) (C := cls) (index := ik) (n := 6) hown' hk' hins hini'
    (g := F0 m pc ls rest) rfl (by rw [hb]; exact d0) (Nat.le_refl _) (Nat.le_refl _)
  generalize hT1 : (T.setVm vm₁).pushCell { cls := cX, slots := kX.instanceTypes.map defaultValue, vm := .none } = T1 at X₁ st1
  have hcat : (Value.ref T.heap.size).category = 1 := rfl
  have hcellA : T1.heap[T.heap.size]? = some (freshCell cX kX) := by rw [← hT1]; exact State.heap_pushCell_size _ _
  have d3' : decode c.code (pc + 3) = .ok (.dup, 1) := by rw [hb]; exact d3
  have d4' : decode c.code (pc + 4) = .ok (.ldc is, 2) := by rw [hb]; exact d4
  have hstr' : vk_R own is text sa s' := vk_R.warm hW0 hstr
  obtain ⟨U, hsteps, hrun, hend, hW, hsame, ce, hce, hO⟩ := X₁.ctorThrowS hexec htr (own := own) (cls := cls) (names := names) (ic := ic) hown' hcls hnames h (fun x hx => nomatch hx) hfX hkX hcellA (by rw [hhp, hT]; exact Nat.le_refl _) (msg := .ref sa) rfl
    (g := { method := m, pc := pc + 6, locals := ls, stack := .ref sa :: .ref T.heap.size :: .ref T.heap.size :: rest, locked := none }) rfl hsize rfl rfl (rest := rest) rfl
    (by rw [hb]; exact d6) (by rw [hb]; exact d9) hout hRframes (by simp only [List.map_cons, List.sum_cons, hcat]; omega) hlocks
  obtain ⟨f1, f2⟩ := vx_frame hsame
  rw [hhp] at f1 f2
  have hWs : s.WarmedH U.vm := State.WarmedH.trans hW0 hW
  have hcl : s.vm.findClass cls = some ce.cls := by
    have h9 := hO.cls
    rw [hvm] at h9
    exact h9
  have hall : s.sameButNew ({ U with vm := s.vm } : State) locs mc ms := by
    subst hA
    obtain ⟨e1, e2⟩ := hsame
    rw [State.setFrames_setFrames] at e1
    have h2 : (T.setVm s.vm).sameButNew ({ U with vm := s.vm } : State) [] (0 + 1) (0 + 6) := ⟨e1, e2⟩
    have h3 := X.same.trans h2
    rw [List.append_nil] at h3
    exact h3.mono hc hs
  refine ⟨U, ?_, .threw T.heap.size, hrun, hend, Or.inr ⟨T.heap.size, rfl, cls, ce, locs, hx U hWs.alike f1 (fun q hq => f2 q hq (fun z hz => nomatch hz)), hce, hO.vm, hcl, hWs, hall, hf⟩⟩
  refine st1 _ ?_
  show Steps p.tables e below (T1.setTop { method := m, pc := pc + 3, locals := ls, stack := .ref T.heap.size :: rest, locked := none }) _
  jvm_step X₁.here [X₁.here.top, hexec, d3', Value.category]
  exact X₁.ldcString hexec (own := own) (text := text) (index := is) (a := sa) hown' hstr'.1 hstr'.2
    (g := { method := m, pc := pc + 4, locals := ls, stack := .ref T.heap.size :: .ref T.heap.size :: rest, locked := none }) rfl d4' _ hsteps
/-- 'throw new E("text")', the text by a wide index -/
theorem vx_throwSW {cc : ByteArray} {pc : Nat} (hexec : p.tables.exec = Jvm.exec) (hb : c.code = cc) (hl : l.stackTraces = false) {own cls text : String} {names : List String} {ik is ic mc ms sa : Nat} {A : Nat → Prop}
    (hown : s.vm.findClass own = some m.cls) (hcls : Bundle.fit cls = true) (hnames : ∀ n ∈ names, Bundle.fit n = true)
    (hk : (Cond.classLink own ik cls).before args s = true) (hini : (Cond.initialized cls).before args s = true) (hstr : vk_R own is text sa s) (hat : ∀ w ∈ vx_atS own ic cls names, w.before args s = true)
    (hgood : ∀ w ∈ Cond.classLink own ik cls :: Cond.initialized cls :: vx_atS own ic cls names, vx_ot w = true)
    (hU : vx_Zq Bundle.tN "UNASSIGNED_STACK" Bundle.steD A s s.heap) (hN : vx_Zq Bundle.tN "SUPPRESSED_SENTINEL" Bundle.listD A s s.heap) (hS : va_S A s.heap H locs) (hsize : ls.size = c.maxLocals)
    (d0 : decode cc pc = .ok (.new ik, 3)) (d3 : decode cc (pc + 3) = .ok (.dup, 1)) (d4 : decode cc (pc + 4) = .ok (.ldc_w is, 3)) (d7 : decode cc (pc + 7) = .ok (.invokespecial ic, 3)) (d10 : decode cc (pc + 10) = .ok (.athrow, 1))
    (hout : ∀ x ∈ c.exceptionTable.toList, covers x (pc + 10) = false)
    (hRframes : names.length + 3 < R.frames) (hRlocals : (rest.map fun v => v.category).sum + (13 * (names.length + 1) + 43) ≤ R.locals) (hRcells : cells + 1 ≤ R.cells) (hRslots : slots + 6 ≤ R.slots) (hlocks : meth.locks = false)
    (hx : ∀ t : State, s.vm.Alike t.vm → H.size ≤ t.heap.size → (∀ q : Nat, q < H.size → t.heap[q]? = H[q]?) → XC cls s t)
    (hf : ∀ z ∈ locs, free z.base) (hc : cells + 1 ≤ mc) (hs : slots + 6 ≤ ms) :
    W p l e R s m args below meth c H locs cells slots (vx_MQ below Qc XC args s mc ms free) (F0 m pc ls rest) := by
  intro T hT X
  have htr : e.platform.stackTraces = false := (show e.platform.stackTraces = l.stackTraces by rw [X.admits.platform]).trans hl
  have Y := vx_rebase X (R' := { frames := R.frames, locals := R.locals, cells := 1, slots := 6 }) (Nat.le_refl _) (Nat.le_refl _) hRcells hRslots
  obtain ⟨s', hA⟩ : ∃ z, z = (T.setVm s.vm).setFrames (.invoking m args :: below) := ⟨_, rfl⟩
  rw [← hA] at Y
  have hvm : s'.vm = s.vm := by rw [hA]; rfl
  have hhp : s'.heap = H := by rw [hA]; exact hT
  have hW0 : s.WarmedH s'.vm := by rw [hvm]; exact State.WarmedH.refl s
  have hat' : ∀ w ∈ vx_atS own ic cls names, w.before args s' = true := fun w hw => vx_ot_at hW0 hvm.symm (hgood w (List.mem_cons_of_mem _ (List.mem_cons_of_mem _ hw))) (hat w hw)
  have hk' : (Cond.classLink own ik cls).before args s' = true := vx_ot_at hW0 hvm.symm (hgood _ List.mem_cons_self) hk
  have hini' : (Cond.initialized cls).before args s' = true := vx_ot_at hW0 hvm.symm (hgood _ (List.mem_cons_of_mem _ List.mem_cons_self)) hini
  have hU' : vx_Zq Bundle.tN "UNASSIGNED_STACK" Bundle.steD A s' s'.heap := by rw [hhp]; exact vx_Zq.moved hW0.alike (hU.kept hS.2.1)
  have hN' : vx_Zq Bundle.tN "SUPPRESSED_SENTINEL" Bundle.listD A s' s'.heap := by rw [hhp]; exact vx_Zq.moved hW0.alike (hN.kept hS.2.1)
  have h : ∀ w ∈ Bundle.ownAtoms own ic cls names, w.before args s' = true := vx_own hat' (vx_isRefq hU'.1) (vx_isRefq hN'.1) hU'.2.word hN'.2.word
  have hown' : s'.vm.findClass own = some m.cls := by rw [hvm]; exact hown
  have hins : (Cond.instantiable cls 6).before args s' = true := h _ (by simp [Bundle.ownAtoms])
  obtain ⟨vm₁, cX, kX, hfX, hkX, -, -, X₁, st1⟩ := Y.newCold hexec (own := own) (C := cls) (index := ik) (n := 6) hown' hk' hins hini'
    (g := F0 m pc ls rest) rfl (by rw [hb]; exact d0) (Nat.le_refl _) (Nat.le_refl _)
  generalize hT1 : (T.setVm vm₁).pushCell { cls := cX, slots := kX.instanceTypes.map defaultValue, vm := .none } = T1 at X₁ st1
  have hcat : (Value.ref T.heap.size).category = 1 := rfl
  have hcellA : T1.heap[T.heap.size]? = some (freshCell cX kX) := by rw [← hT1]; exact State.heap_pushCell_size _ _
  have d3' : decode c.code (pc + 3) = .ok (.dup, 1) := by rw [hb]; exact d3
  have d4' : decode c.code (pc + 4) = .ok (.ldc_w is, 3) := by rw [hb]; exact d4
  have hstr' : vk_R own is text sa s' := vk_R.warm hW0 hstr
  obtain ⟨U, hsteps, hrun, hend, hW, hsame, ce, hce, hO⟩ := X₁.ctorThrowS hexec htr (own := own) (cls := cls) (names := names) (ic := ic) hown' hcls hnames h (fun x hx => nomatch hx) hfX hkX hcellA (by rw [hhp, hT]; exact Nat.le_refl _) (msg := .ref sa) rfl
    (g := { method := m, pc := pc + 7, locals := ls, stack := .ref sa :: .ref T.heap.size :: .ref T.heap.size :: rest, locked := none }) rfl hsize rfl rfl (rest := rest) rfl
    (by rw [hb]; exact d7) (by rw [hb]; exact d10) hout hRframes (by simp only [List.map_cons, List.sum_cons, hcat]; omega) hlocks
  obtain ⟨f1, f2⟩ := vx_frame hsame
  rw [hhp] at f1 f2
  have hWs : s.WarmedH U.vm := State.WarmedH.trans hW0 hW
  have hcl : s.vm.findClass cls = some ce.cls := by
    have h9 := hO.cls
    rw [hvm] at h9
    exact h9
  have hall : s.sameButNew ({ U with vm := s.vm } : State) locs mc ms := by
    subst hA
    obtain ⟨e1, e2⟩ := hsame
    rw [State.setFrames_setFrames] at e1
    have h2 : (T.setVm s.vm).sameButNew ({ U with vm := s.vm } : State) [] (0 + 1) (0 + 6) := ⟨e1, e2⟩
    have h3 := X.same.trans h2
    rw [List.append_nil] at h3
    exact h3.mono hc hs
  refine ⟨U, ?_, .threw T.heap.size, hrun, hend, Or.inr ⟨T.heap.size, rfl, cls, ce, locs, hx U hWs.alike f1 (fun q hq => f2 q hq (fun z hz => nomatch hz)), hce, hO.vm, hcl, hWs, hall, hf⟩⟩
  refine st1 _ ?_
  show Steps p.tables e below (T1.setTop { method := m, pc := pc + 3, locals := ls, stack := .ref T.heap.size :: rest, locked := none }) _
  jvm_step X₁.here [X₁.here.top, hexec, d3', Value.category]
  exact X₁.ldcStringW hexec (own := own) (text := text) (index := is) (a := sa) hown' hstr'.1 hstr'.2
    (g := { method := m, pc := pc + 4, locals := ls, stack := .ref T.heap.size :: .ref T.heap.size :: rest, locked := none }) rfl d4' _ hsteps
end Ends
section Bodies
variable {l : Launch}
theorem vx_ofW {y : MethodName} {ws ws' : List Cond} {rm : Room} {Pc : Array Value → State → Prop} {Qc : Array Value → State → Outcome → State → Prop} {XC : String → State → State → Prop} {mc ms : Nat} {free : Addr → Prop} {cc : ByteArray} {maxL : Nat} {ret : Option FieldType}
    (hy : plainName y.cls = true) (hw : ws = Cond.code y cc maxL ret :: ws')
    (body : ∀ p e s m args below meth c s₁, BodyLoose p l y (headSpec ws rm) cc maxL ret e s m args below meth c s₁ → c.maxLocals = maxL → (∀ x ∈ c.exceptionTable.toList, False) → Pc args s →
      W p l e (headSpec ws rm).room s m args below meth c s.heap [] 0 0 (vx_MQ below Qc XC args s mc ms free) (entryFrame m args maxL)) : vx_Met l y ws rm Pc Qc XC mc ms free := by
  refine MetFree.of_bodyS (code := cc) (maxLocals := maxL) (ret := ret) hy ?_ ?_
  · intro args s m h hn
    obtain ⟨meth, c, h1, h2, h3, h4, h5, h6, -, -⟩ := Cond.code_spec hn (atoms_spec (ws := ws) h _ (by rw [hw]; exact List.mem_cons_self))
    exact ⟨meth, c, h1, h2, h3, h4, h5, h6⟩
  · intro p e s m args below meth c s₁ B hml hP _
    have hh0 : s₁.heap = s.heap := by rw [B.state]; rfl
    have ht : ∀ x ∈ c.exceptionTable.toList, False := by
      obtain ⟨meth9, c9, h1, h2, -, -, -, -, h7, -⟩ := Cond.code_spec B.named (atoms_spec (ws := ws) B.pre _ (by rw [hw]; exact List.mem_cons_self))
      cases Option.some.inj (h1.symm.trans B.method)
      cases Option.some.inj (h2.symm.trans (Stand.of_body B).code)
      intro x hx
      rw [Array.isEmpty_iff.mp h7] at hx
      cases hx
    obtain ⟨t, a1, o, b1, b2, b3⟩ := body p e s m args below meth c s₁ B hml ht hP s₁ hh0 (Stand.of_body B)
    exact ⟨t, o, a1, b1, b2, b3⟩
/-- the table of a body with handlers -/
theorem vx_table {p : Program} {x y : MethodName} {S : Spec} {cc bytes : ByteArray} {maxL maxL' : Nat} {ret ret' : Option FieldType} {e : Env} {s s₁ : State} {m : MethodId} {args : Array Value} {below : List Frame} {meth : Method} {c : Code} {hh : List (Nat × Nat × Nat × Nat)}
    (B : BodyLoose p l y S cc maxL ret e s m args below meth c s₁) (h : (Cond.codeWith y bytes maxL' ret' hh).before args s = true) : c.exceptionTable.toList = tableOf hh := by
  obtain ⟨m9, meth9, c9, hn9, h1, h2, -, -, h6, -⟩ := Cond.codeWith_spec h
  cases Option.some.inj (hn9.symm.trans B.named)
  cases Option.some.inj (h1.symm.trans B.method)
  cases Option.some.inj (h2.symm.trans (Stand.of_body B).code)
  rw [← h6, table_eq]
end Bodies
end VXA
/-! ===== END ===== -/
/-! ===== BEGIN a static call of a method with an exception table ===== -/
section VXS
variable {p : Program} {l : Launch} {e : Env} {R : Room} {s : State} {m : MethodId} {args : Array Value} {below : List Frame} {meth : Method} {c : Code} {T : State} {H : Heap} {locs : List Loc} {cells slots : Nat}
abbrev vx_CSW (R : Room) (s : State) (args : Array Value) (own : String) (index : Nat) (y : MethodName) (bytes : ByteArray) (maxL : Nat) (ret : Option FieldType) (hh : List (Nat × Nat × Nat × Nat)) (ws : List Cond) (rm : Room) (mc ms n : Nat) : Prop :=
  (rm.cells = mc ∧ rm.slots = ms ∧ rm.frames + 1 ≤ R.frames ∧ 8 + (maxL + 11) + rm.locals ≤ R.locals ∧ (∀ w ∈ ws, ∀ (a' : Array Value) (U : State), s.WarmedH U.vm → w.before a' U = true) ∧ Cond.codeWith y bytes maxL ret hh ∈ ws) ∧
  (Cond.codeWith y bytes maxL ret hh).before args s = true ∧ (Cond.initialized y.cls).before args s = true ∧ (y.cls ≠ "java/lang/invoke/MethodHandle" ∧ y.cls ≠ "java/lang/invoke/VarHandle") ∧
  (∀ sig, parseMethodDescriptor y.desc = some sig → n = sig.parameters.length) ∧ (Cond.methodLink own index y).before args s = true ∧ (Cond.static y).before args s = true
theorem vx_cwSW {own : String} {index maxL mc ms : Nat} {y : MethodName} {bytes : ByteArray} {ret : Option FieldType} {hh : List (Nat × Nat × Nat × Nat)} {Ts ws ws' : List Cond} {rm : Room} (n : Nat) (ht : ∀ w ∈ Ts, w.before args s = true) (hT : GoodIn Ts (va_wsS own index y ws)) (hw : ws = Cond.codeWith y bytes maxL ret hh :: ws') (hrc : rm.cells = mc) (hrs : rm.slots = ms)
    (hd : y.cls ≠ "java/lang/invoke/MethodHandle" ∧ y.cls ≠ "java/lang/invoke/VarHandle" ∧ (parseMethodDescriptor y.desc).map (fun d => d.parameters.length) = some n) (hR : rm.frames + 1 ≤ R.frames ∧ 8 + (maxL + 11) + rm.locals ≤ R.locals) :
    vx_CSW R s args own index y bytes maxL ret hh ws rm mc ms n := by
  have ok : ∀ w ∈ va_wsS own index y ws, w.before args s = true := fun w h => ht w (hT w h).1
  have hG : GoodIn Ts ws := fun w h => hT w (by unfold va_wsS; exact List.mem_append_right _ h)
  have hc : Cond.codeWith y bytes maxL ret hh ∈ ws := by rw [hw]; exact List.mem_cons_self
  refine ⟨⟨hrc, hrs, hR.1, hR.2, pay_in ht hG, hc⟩, ht _ (hG _ hc).1, ok _ (by simp [va_wsS]), ⟨hd.1, hd.2.1⟩, fun sig h => ?_, ok _ (by simp [va_wsS]), ok _ (by simp [va_wsS])⟩
  have h2 := hd.2.2
  rw [h] at h2
  exact (Option.some.inj h2).symm
theorem vx_callSW (X : Stand p l e R s m args below meth c T locs cells slots) (hexec : p.tables.exec = Jvm.exec) {own : String} {index : Nat} {y : MethodName} {bytes : ByteArray} {maxL : Nat} {ret : Option FieldType} {hh : List (Nat × Nat × Nat × Nat)}
    (hown : s.vm.findClass own = some m.cls) (hlink : (Cond.methodLink own index y).before args s = true) (hstat : (Cond.static y).before args s = true) (hinit : (Cond.initialized y.cls).before args s = true)
    (hcode : (Cond.codeWith y bytes maxL ret hh).before args s = true) (hy : y.cls ≠ "java/lang/invoke/MethodHandle" ∧ y.cls ≠ "java/lang/invoke/VarHandle")
    {W9 : Nat} {Pre : Pt → Array Value → Prop} {Post : Pt → Array Value → Option Value → Pt → Prop} (hK : Back l R p e below s args y 3 W9 Pre Post)
    {g : JFrame} (hg : g.method = m) (hsize : g.locals.size = c.maxLocals) {argsL rest : List Value} (hlen : ∀ sig, parseMethodDescriptor y.desc = some sig → argsL.length = sig.parameters.length)
    (hstack : g.stack = argsL.reverse ++ rest) (hW : 2 * g.monitorRoom + (rest.map fun v => v.category).sum ≤ W9) (hdg : decode c.code g.pc = .ok (.invokestatic index, 3))
    (hpre : ∀ vm₁, s.WarmedH vm₁ → Pre ⟨T.setVm vm₁, locs, cells, slots⟩ argsL.toArray) :
    ∃ (v : Option Value) (vm₁ : Vm) (B : Pt), s.WarmedH vm₁ ∧ Stand p l e R s m args below meth c B.U B.locs B.cells B.slots ∧ Post ⟨T.setVm vm₁, locs, cells, slots⟩ argsL.toArray v B ∧
      ∀ target, Steps p.tables e below (B.U.setTop { g with pc := g.pc + 3, stack := v.toList ++ rest }) target → Steps p.tables e below (T.setTop g) target := by
  obtain ⟨mk, methM, cM, hnamed, hmethM, -, -, -, -, -, -, hsigM⟩ := Cond.codeWith_spec hcode
  have hstatic : methM.isStatic = true := Cond.static_spec hnamed hmethM hstat
  obtain ⟨kP, hkP, -⟩ := className_of_methodNamed hnamed
  have hinitP : kP.init = .initialized := Cond.initialized_spec (findClass_of_methodNamed hnamed) hkP hinit
  obtain ⟨vm₁, X₁, hstep₁⟩ := X.invokestatic hexec hown hlink hnamed hmethM hstatic hkP hinitP hy (g := g) hg (argsL := argsL) (rest := rest) (hlen _ hsigM) hstack hdg
  obtain ⟨v, B, X', hpost, hsteps⟩ := hK m meth c ⟨T.setVm vm₁, locs, cells, slots⟩ { g with stack := rest } (.invokestatic index) mk argsL.toArray X₁ hg hsize hdg hW (X₁.named hnamed) (hpre vm₁ X₁.warmed)
  exact ⟨v, vm₁, B, X₁.warmed, X', hpost, fun target h => hstep₁ _ fun acts => by rw [doInvoke_state]; exact hsteps.trans h⟩
theorem vx_runSW {y : MethodName} {bytes cc : ByteArray} {maxL nL mc ms n index : Nat} {ret : Option FieldType} {hh : List (Nat × Nat × Nat × Nat)} {ws : List Cond} {rm : Room} {Pc : Array Value → State → Prop} {Qc : Array Value → State → Outcome → State → Prop} {free : Addr → Prop} {Ts : List Cond} {own : String} {As rest : List Value} {g : JFrame}
    (S : CallFix p m c cc nL s args Ts own) (hM : Met l y ws rm Pc Qc mc ms free) (cw : vx_CSW R s args own index y bytes maxL ret hh ws rm mc ms n) (hp : PreS s H Pc As)
    (hg : g.method = m) (hn : As.length = n) (hsize : g.locals.size = nL) (hstack : g.stack = As.reverse ++ rest) (hW : 2 * g.monitorRoom + (rest.map fun v => v.category).sum ≤ 8) (hdg : decode cc g.pc = .ok (.invokestatic index, 3)) (hf : cells + mc ≤ R.cells ∧ slots + ms ≤ R.slots) :
    va_Run p l e R s m args below meth c H locs cells slots mc ms g rest (Qc As.toArray) (free) := by
  obtain ⟨⟨hrc, hrs, hfr, hlo, hws, hcw⟩, hcode, hini, hy, hlen, hl, hstt⟩ := cw
  have hK : Back l R p e below s args y 3 8 (PreOf R mc ms Pc) (PostOf Qc mc ms free) := va_backW (hh := hh) (bytes := bytes) (maxL := maxL) (ret := ret) hM hp.1 hrc hrs hfr hlo hws hcw (fun a' U hW => word_at hW (Or.inl (by first | rfl | simp [Cond.onTables, Cond.keeps, Cond.steady])) hini)
  obtain ⟨hx, hb, hml, ho, -⟩ := S
  intro T hT X
  obtain ⟨v, vm₁, ⟨U', l2, c2, s2⟩, hW₁, X', ⟨g', mk, t, L, e1, e2, hq, h1, hL, h2, h3⟩, st⟩ := vx_callSW X hx (hh := hh) (bytes := bytes) (maxL := maxL) (ret := ret) ho hl hstt hini hcode hy hK hg (hsize.trans hml.symm) (argsL := As) (rest := rest) (fun sig h => hn.trans (hlen sig h)) hstack hW (by rw [hb]; exact hdg)
    (fun vm₁ hW₁ => ⟨hf.1, hf.2, hp.2 (T.setVm vm₁) hT hW₁⟩)
  dsimp only [Pt.U, Pt.locs, Pt.cells, Pt.slots] at X' e1 e2 h1 h2 h3 st
  subst h1; subst h2; subst h3
  exact ⟨v, (T.setVm vm₁).calling g' mk As.toArray, t, U', L, hT, X', hL, e1, e2, hq, st⟩
/-- not caught here, past rows that name other classes: it goes on to the caller -/
theorem vx_outP {p : Program} {l : Launch} {e : Env} {R : Room} {s : State} {m : MethodId} {args : Array Value} {below : List Frame} {meth : Method} {c : Code} {H : Heap} {locs : List Loc} {cells slots : Nat} {free : Addr → Prop} {ls : Array Slot} {rest : List Value} {Qc : Array Value → State → Outcome → State → Prop} {XC : String → State → State → Prop}
    {pc : Nat} {own E : String} {ce : Cell} {q : Addr} {mc ms : Nat} (hown : s.vm.findClass own = some m.cls) (hlocks : meth.locks = false)
    (hpass : ∀ z ∈ c.exceptionTable.toList, covers z pc = false ∨ (z.catchType ≠ 0 ∧ ∃ nm : String, (Cond.classLink own z.catchType nm).before args s = true ∧ va_Nc E nm s)) (hcell : H[q]? = some ce) (hv : ce.vm = .none) (hcl : s.vm.findClass E = some ce.cls)
    (hx : ∀ t : State, t.heap = H → s.vm.Alike t.vm → XC E s t) (hf : ∀ z ∈ locs, free z.base) (hc : cells ≤ mc) (hs : slots ≤ ms) :
    vx_W p l e R s m args below meth c H locs cells slots (vx_MQ below Qc XC args s mc ms free) (F0 m pc ls rest) q := by
  intro T hT X
  have hpl : e.platform.magicAccessors = ({} : Platform).magicAccessors := by rw [X.admits.platform]
  obtain ⟨vm', hW', X', st⟩ := X.outThrough hlocks q (g := F0 m pc ls rest) rfl rfl rfl (cell := ce) (by rw [hT]; exact hcell) (by rw [hv]; rfl)
    (by obtain ⟨k9, h9, -⟩ := Vm.findClass_spec hcl; exact ⟨k9, h9⟩) (fun z hz => by
      rcases hpass z hz with h | ⟨hz0, nm, hl1, hn1⟩
      · exact Or.inl h
      · obtain ⟨c6, hc6, hcl6⟩ := Cond.classLink_spec hown hl1 e.platform hpl
        obtain ⟨a8, b8, h1, h2, h3⟩ := hn1
        cases Option.some.inj (h1.symm.trans hcl)
        cases Option.some.inj (h2.symm.trans hc6)
        exact Or.inr ⟨hz0, _, hcl6, h3⟩)
  obtain ⟨g₀, hfr⟩ := X'.frames_eq
  have hcell9 : ((T.setVm vm').setFrames (.throwing q :: below)).heap[q]? = some ce := by
    show T.heap[q]? = some ce
    rw [hT]; exact hcell
  have hend : Ended ((T.setVm vm').setFrames (.throwing q :: below)) below (.threw q) := State.frames_setFrames _ (State.cur_lt_of_frames hfr)
  refine ⟨(T.setVm vm').setFrames (.throwing q :: below), ?_, .threw q, X'.here.running, hend, Or.inr ⟨q, rfl, E, ce, locs, hx _ hT (X'.ends _).1.alike, hcell9, hv, hcl, (X'.ends _).1, (X'.ends _).2.mono hc hs, hf⟩⟩
  rw [X.pushThrowing_eq]
  exact st
/-- a thing of a world lies in the heap -/
theorem vx_lt {D : va_G} {cl : List vw_C} {ws : va_W} {H1 : Heap} (h : va_P D cl ws H1) {k : Nat} {q : Nat × va_E} (hk : ws[k]? = some q) : q.1 < H1.size := (h k q hk).lt
end VXS
/-! ===== END ===== -/
/-! ===== BEGIN methods with a table of their own: called by a name, returning or throwing ===== -/
section VXH
/-! vx_backW, vx_callVX, vx_callSX, vx_callVW, vx_runVW, vx_runVX, vx_runSX, vx_ofWH follow the same proofs as their sisters above (Free/Laws.lean, Shelf42/LK1.lean); vx_outP calls Shelf42/NT130.lean (outThrough). -/
section
variable {l : Launch} {R : Room} {p : Program} {e : Env} {below : List Frame} {s : State} {sargs : Array Value} {y : MethodName} {len W9 : Nat}
theorem vx_backW {ws : List Cond} {rm : Room} {Pc : Array Value → State → Prop} {Qc : Array Value → State → Outcome → State → Prop} {XC : String → State → State → Prop} {mc ms : Nat} {free : Addr → Prop} {bytes : ByteArray} {maxL : Nat} {ret : Option FieldType} {hh : List (Nat × Nat × Nat × Nat)}
    (hM : vx_Met l y ws rm Pc Qc XC mc ms free) (hblind : FrameBlind Pc) (hrc : rm.cells = mc) (hrs : rm.slots = ms)
    (hframes : rm.frames + 1 ≤ R.frames) (hlocals : W9 + (maxL + 11) + rm.locals ≤ R.locals)
    (hws : ∀ w ∈ ws, ∀ a' U, s.WarmedH U.vm → w.before a' U = true) (hcode : Cond.codeWith y bytes maxL ret hh ∈ ws) (hinit : ∀ a' U, s.WarmedH U.vm → (Cond.initialized y.cls).before a' U = true) :
    vx_Back l R p e below s sargs y len W9 (PreOf R mc ms Pc) (PostOf Qc mc ms free) (vx_Post XC mc ms free) := by
  intro m meth c A g ig mk a X hg hsize hdg hW hn hp
  have h1 : (headSpec ws rm).pre.before a A.U = true := atoms_intro fun w hw => hws w hw _ _ X.warmed
  have h2 : (Cond.codeWith y bytes maxL ret hh).before a A.U = true := hws _ hcode _ _ X.warmed
  have h3 : (Cond.initialized y.cls).before a A.U = true := hinit _ _ X.warmed
  have h4 : A.cells + (headSpec ws rm).room.cells ≤ R.cells := by rw [show (headSpec ws rm).room.cells = mc from hrc]; exact hp.1
  have h5 : A.slots + (headSpec ws rm).room.slots ≤ R.slots := by rw [show (headSpec ws rm).room.slots = ms from hrs]; exact hp.2.1
  have hPc : Pc a (A.U.calling g mk a) := hblind _ _ _ _ hp.2.2
  obtain ⟨U, Ls, c0, s0⟩ := A
  dsimp only [Pt.U, Pt.locs, Pt.cells, Pt.slots] at h1 h2 h3 h4 h5 X hn hPc ⊢
  obtain ⟨m9, methY, cY, hn9, hmY, hcY, -, hlY, -⟩ := Cond.codeWith_spec h2
  cases Option.some.inj (hn9.symm.trans hn)
  obtain ⟨kY, hkY, -⟩ := className_of_methodNamed hn
  have hinitY : kY.init = .initialized := Cond.initialized_spec (findClass_of_methodNamed hn) hkY h3
  have h : At U g.method c below := by rw [hg]; exact X.here
  have hlocals9 : W9 + (maxL + 11) + (headSpec ws rm).room.locals ≤ R.locals := hlocals
  have happ : (headSpec ws rm).appliesLoose y e.platform (U.calling g mk a) = true :=
    Spec.appliesLoose_calling (g := g) h hdg hn hkY hinitY
      (X.room_calling (g := g) (R' := (headSpec ws rm).room) hsize hmY hcY hframes (by rw [hlY]; omega) h4 h5) h1
  obtain ⟨mid, hmid⟩ := h.above
  have hfr : (U.setTop g).frames = (.java g :: mid) ++ below := by rw [State.frames_setTop' g h.top, hmid]; rfl
  obtain ⟨o, s₂, hsteps, -, hend, hq⟩ := Steps.callFree hM p X.admits X.cas X.clock (acts := []) hfr happ hPc trivial
  have hq' : vx_Q Qc XC mc ms free a (U.calling g mk a) o s₂ := hq
  rw [State.frames_setTop' g h.top] at hend
  obtain ⟨g₀, hg0⟩ := Option.isSome_iff_exists.mp h.top
  obtain ⟨r, hr⟩ := State.topJava?_eq_some.mp hg0
  have hr' : (({ U with heap := s₂.heap, slotsUsed := s₂.slotsUsed } : State).setVm s₂.vm).frames = .java g₀ :: r := hr
  rcases hq' with ⟨hqc, L, hfe, hL⟩ | ⟨q, rfl, E, ce, L, hx, hce, hcv, hcl, hW₂, hsm, hL⟩
  · obtain ⟨⟨v, rfl⟩, hW₂, e2, q2, q3, q4, q5, q6⟩ := id hfe
    have e3 : s₂ = ({ (U.calling g mk a).setFrames s₂.frames with heap := s₂.heap, slotsUsed := s₂.slotsUsed } : State).setVm s₂.vm := by
      have : s₂ = ({ s₂ with vm := (U.calling g mk a).vm } : State).setVm s₂.vm := rfl
      rw [e2] at this
      exact this
    obtain ⟨c₂, i₂, len₂, hc₂, hd₂, hf₂⟩ := hend
    have hW' : U.WarmedH s₂.vm := hW₂
    have hcc : c₂ = c := by
      have h1 : s₂.code? g.method = U.code? g.method := by
        rw [State.code?_eq, State.code?_eq, hW'.alike.method?]
      exact Option.some.inj (hc₂.symm.trans (h1.trans h.code))
    subst hcc
    have hlen : len₂ = len := by rw [hdg] at hd₂; cases hd₂; rfl
    subst hlen
    have hs₂ : s₂ = (({ U with heap := s₂.heap, slotsUsed := s₂.slotsUsed } : State).setVm s₂.vm).setTop { g with pc := g.pc + len₂, stack := v.toList ++ g.stack } := by
      refine e3.trans ?_
      rw [hf₂, State.calling_eq h.top, State.setFrames_setFrames, State.setTop_of_frames _ hr', hr]
      rfl
    have hsame : U.sameButNew ({ U with heap := s₂.heap, slotsUsed := s₂.slotsUsed } : State) L mc ms := by
      refine ⟨?_, q2, q3, q4, q5, q6⟩
      obtain ⟨t, ht, -⟩ := State.frames_cons hr
      show ({ U with heap := s₂.heap, slotsUsed := s₂.slotsUsed } : State) = { U.setFrames U.frames with heap := s₂.heap, slotsUsed := s₂.slotsUsed }
      rw [State.setFrames_self ht]
    subst hg
    refine Or.inl ⟨v, ⟨(({ U with heap := s₂.heap, slotsUsed := s₂.slotsUsed } : State).setVm s₂.vm), Ls ++ L, c0 + mc, s0 + ms⟩,
      ⟨X.admits, X.cas, X.clock, X.frames, X.room, X.hears, X.method, X.code, (X.here.setHeapUsed s₂.heap s₂.slotsUsed).setVm hW'.alike, X.tail, State.WarmedH.trans X.warmed hW', X.limits, X.bytes, X.same.trans (hsame.setVm s.vm)⟩,
      ⟨g, mk, s₂, L, rfl, rfl, hqc, rfl, hL, rfl, rfl⟩, ?_⟩
    show Steps p.tables e below _ ((({ U with heap := s₂.heap, slotsUsed := s₂.slotsUsed } : State).setVm s₂.vm).setTop { g with pc := g.pc + len₂, stack := v.toList ++ g.stack })
    rw [← hs₂]
    exact hsteps
  · obtain ⟨e2, q2, q3, q4, q5, q6⟩ := id hsm
    have e3 : s₂ = ({ (U.calling g mk a).setFrames s₂.frames with heap := s₂.heap, slotsUsed := s₂.slotsUsed } : State).setVm s₂.vm := by
      have : s₂ = ({ s₂ with vm := (U.calling g mk a).vm } : State).setVm s₂.vm := rfl
      rw [e2] at this
      exact this
    have hf₂ : s₂.frames = .throwing q :: .java g :: U.frames.tail := hend
    have hW' : U.WarmedH s₂.vm := hW₂
    have hs₂ : s₂ = ((({ U with heap := s₂.heap, slotsUsed := s₂.slotsUsed } : State).setVm s₂.vm).setTop g).pushFrame (.throwing q) := by
      refine e3.trans ?_
      rw [hf₂, State.calling_eq h.top, State.setFrames_setFrames, State.pushFrame, State.frames_setTop _ hr', State.setTop_of_frames _ hr', State.setFrames_setFrames, hr]
      rfl
    have hsame : U.sameButNew ({ U with heap := s₂.heap, slotsUsed := s₂.slotsUsed } : State) L mc ms := by
      refine ⟨?_, q2, q3, q4, q5, q6⟩
      obtain ⟨t, ht, -⟩ := State.frames_cons hr
      show ({ U with heap := s₂.heap, slotsUsed := s₂.slotsUsed } : State) = { U.setFrames U.frames with heap := s₂.heap, slotsUsed := s₂.slotsUsed }
      rw [State.setFrames_self ht]
    subst hg
    refine Or.inr ⟨q, ⟨(({ U with heap := s₂.heap, slotsUsed := s₂.slotsUsed } : State).setVm s₂.vm), Ls ++ L, c0 + mc, s0 + ms⟩,
      ⟨X.admits, X.cas, X.clock, X.frames, X.room, X.hears, X.method, X.code, (X.here.setHeapUsed s₂.heap s₂.slotsUsed).setVm hW'.alike, X.tail, State.WarmedH.trans X.warmed hW', X.limits, X.bytes, X.same.trans (hsame.setVm s.vm)⟩,
      ⟨g, mk, s₂, L, E, ce, rfl, rfl, hx, hce, hcv, hcl, rfl, hL, rfl, rfl⟩, ?_⟩
    show Steps p.tables e below _ (((({ U with heap := s₂.heap, slotsUsed := s₂.slotsUsed } : State).setVm s₂.vm).setTop g).pushFrame (.throwing q))
    rw [← hs₂]
    exact hsteps
end
variable {p : Program} {l : Launch} {e : Env} {R : Room} {s : State} {m : MethodId} {args : Array Value} {below : List Frame} {meth : Method} {c : Code} {T : State} {H : Heap} {locs : List Loc} {cells slots : Nat}
theorem vx_callVX (X : Stand p l e R s m args below meth c T locs cells slots) (hexec : p.tables.exec = Jvm.exec) {own C : String} {index : Nat} {y : MethodName} {bytes : ByteArray} {maxL : Nat} {ret : Option FieldType} {hh : List (Nat × Nat × Nat × Nat)}
    (hown : s.vm.findClass own = some m.cls) (hlink : (Cond.methodLink own index y).before args s = true) (hinst : (Cond.instanceMethod y).before args s = true) (hsel : (Cond.selects C y y).before args s = true)
    (hcode : (Cond.codeWith y bytes maxL ret hh).before args s = true) (hy : y.cls ≠ "java/lang/invoke/MethodHandle" ∧ y.cls ≠ "java/lang/invoke/VarHandle")
    {W9 : Nat} {Pre : Pt → Array Value → Prop} {Post : Pt → Array Value → Option Value → Pt → Prop} {PostX : Pt → Array Value → Addr → Pt → Prop} (hK : vx_Back l R p e below s args y 3 W9 Pre Post PostX)
    {b : Addr} {cellB : Cell} (hcell : T.heap[b]? = some cellB) (hobj : cellB.vm.isStatics = false) (hcls : s.vm.findClass C = some cellB.cls)
    {g : JFrame} (hg : g.method = m) (hsize : g.locals.size = c.maxLocals) {argsL rest : List Value} (hlen : ∀ sig, parseMethodDescriptor y.desc = some sig → argsL.length = sig.parameters.length)
    (hstack : g.stack = argsL.reverse ++ .ref b :: rest) (hW : 2 * g.monitorRoom + (rest.map fun v => v.category).sum ≤ W9) (hdg : decode c.code g.pc = .ok (.invokevirtual index, 3))
    (hpre : ∀ vm₁, s.WarmedH vm₁ → Pre ⟨T.setVm vm₁, locs, cells, slots⟩ (Value.ref b :: argsL).toArray) :
    (∃ (v : Option Value) (vm₁ : Vm) (B : Pt), s.WarmedH vm₁ ∧ Stand p l e R s m args below meth c B.U B.locs B.cells B.slots ∧ Post ⟨T.setVm vm₁, locs, cells, slots⟩ (Value.ref b :: argsL).toArray v B ∧
      ∀ target, Steps p.tables e below (B.U.setTop { g with pc := g.pc + 3, stack := v.toList ++ rest }) target → Steps p.tables e below (T.setTop g) target) ∨
    (∃ (q : Addr) (vm₁ : Vm) (B : Pt), s.WarmedH vm₁ ∧ Stand p l e R s m args below meth c B.U B.locs B.cells B.slots ∧ PostX ⟨T.setVm vm₁, locs, cells, slots⟩ (Value.ref b :: argsL).toArray q B ∧
      Steps p.tables e below (T.setTop g) ((B.U.setTop { g with stack := rest }).pushFrame (.throwing q))) := by
  obtain ⟨mk, methM, hnamed, hmethM, hstM, habM⟩ := Cond.instanceMethod_spec hinst
  obtain ⟨m8, methM', cM, hn8, hmethM', -, -, -, -, -, -, hsigM⟩ := Cond.codeWith_spec hcode
  cases Option.some.inj (hn8.symm.trans hnamed)
  cases hmethM.symm.trans hmethM'
  obtain ⟨c2, r2, m2, q1, q2, q3, q4, kP, hkP, hkPi⟩ := Cond.selects_spec hsel
  cases hcls.symm.trans q1
  cases (State.methodFound?_of_named hnamed hy).symm.trans q2
  cases hnamed.symm.trans q3
  have hselP : selectMethod e.platform s.vm cellB.cls mk = .method mk := by rw [Launch.admits_selectMethod X.admits]; exact q4
  obtain ⟨vm₁, X₁, hstep₁⟩ := X.invokevirtual hexec hown hlink hnamed hmethM hstM hkP hkPi hy (a := b) (cell := cellB) hcell
    (fun z h => by rw [h] at hobj; cases hobj) hselP hmethM habM hkP hkPi (g := g) hg (argsL := argsL) (rest := rest) (hlen _ hsigM) hstack hdg
  rcases hK m meth c ⟨T.setVm vm₁, locs, cells, slots⟩ { g with stack := rest } (.invokevirtual index) mk (Value.ref b :: argsL).toArray X₁ hg hsize hdg hW (X₁.named hnamed) (hpre vm₁ X₁.warmed) with ⟨v, B, X', hpost, hsteps⟩ | ⟨q, B, X', hpost, hsteps⟩
  · exact Or.inl ⟨v, vm₁, B, X₁.warmed, X', hpost, fun target h => hstep₁ _ fun acts => by rw [doInvoke_state]; exact hsteps.trans h⟩
  · exact Or.inr ⟨q, vm₁, B, X₁.warmed, X', hpost, hstep₁ _ fun acts => by rw [doInvoke_state]; exact hsteps⟩
theorem vx_callSX (X : Stand p l e R s m args below meth c T locs cells slots) (hexec : p.tables.exec = Jvm.exec) {own : String} {index : Nat} {y : MethodName} {bytes : ByteArray} {maxL : Nat} {ret : Option FieldType} {hh : List (Nat × Nat × Nat × Nat)}
    (hown : s.vm.findClass own = some m.cls) (hlink : (Cond.methodLink own index y).before args s = true) (hstat : (Cond.static y).before args s = true) (hinit : (Cond.initialized y.cls).before args s = true)
    (hcode : (Cond.codeWith y bytes maxL ret hh).before args s = true) (hy : y.cls ≠ "java/lang/invoke/MethodHandle" ∧ y.cls ≠ "java/lang/invoke/VarHandle")
    {W9 : Nat} {Pre : Pt → Array Value → Prop} {Post : Pt → Array Value → Option Value → Pt → Prop} {PostX : Pt → Array Value → Addr → Pt → Prop} (hK : vx_Back l R p e below s args y 3 W9 Pre Post PostX)
    {g : JFrame} (hg : g.method = m) (hsize : g.locals.size = c.maxLocals) {argsL rest : List Value} (hlen : ∀ sig, parseMethodDescriptor y.desc = some sig → argsL.length = sig.parameters.length)
    (hstack : g.stack = argsL.reverse ++ rest) (hW : 2 * g.monitorRoom + (rest.map fun v => v.category).sum ≤ W9) (hdg : decode c.code g.pc = .ok (.invokestatic index, 3))
    (hpre : ∀ vm₁, s.WarmedH vm₁ → Pre ⟨T.setVm vm₁, locs, cells, slots⟩ argsL.toArray) :
    (∃ (v : Option Value) (vm₁ : Vm) (B : Pt), s.WarmedH vm₁ ∧ Stand p l e R s m args below meth c B.U B.locs B.cells B.slots ∧ Post ⟨T.setVm vm₁, locs, cells, slots⟩ argsL.toArray v B ∧
      ∀ target, Steps p.tables e below (B.U.setTop { g with pc := g.pc + 3, stack := v.toList ++ rest }) target → Steps p.tables e below (T.setTop g) target) ∨
    (∃ (q : Addr) (vm₁ : Vm) (B : Pt), s.WarmedH vm₁ ∧ Stand p l e R s m args below meth c B.U B.locs B.cells B.slots ∧ PostX ⟨T.setVm vm₁, locs, cells, slots⟩ argsL.toArray q B ∧
      Steps p.tables e below (T.setTop g) ((B.U.setTop { g with stack := rest }).pushFrame (.throwing q))) := by
  obtain ⟨mk, methM, cM, hnamed, hmethM, -, -, -, -, -, -, hsigM⟩ := Cond.codeWith_spec hcode
  have hstatic : methM.isStatic = true := Cond.static_spec hnamed hmethM hstat
  obtain ⟨kP, hkP, -⟩ := className_of_methodNamed hnamed
  have hinitP : kP.init = .initialized := Cond.initialized_spec (findClass_of_methodNamed hnamed) hkP hinit
  obtain ⟨vm₁, X₁, hstep₁⟩ := X.invokestatic hexec hown hlink hnamed hmethM hstatic hkP hinitP hy (g := g) hg (argsL := argsL) (rest := rest) (hlen _ hsigM) hstack hdg
  rcases hK m meth c ⟨T.setVm vm₁, locs, cells, slots⟩ { g with stack := rest } (.invokestatic index) mk argsL.toArray X₁ hg hsize hdg hW (X₁.named hnamed) (hpre vm₁ X₁.warmed) with ⟨v, B, X', hpost, hsteps⟩ | ⟨q, B, X', hpost, hsteps⟩
  · exact Or.inl ⟨v, vm₁, B, X₁.warmed, X', hpost, fun target h => hstep₁ _ fun acts => by rw [doInvoke_state]; exact hsteps.trans h⟩
  · exact Or.inr ⟨q, vm₁, B, X₁.warmed, X', hpost, hstep₁ _ fun acts => by rw [doInvoke_state]; exact hsteps⟩
theorem vx_callVW (X : Stand p l e R s m args below meth c T locs cells slots) (hexec : p.tables.exec = Jvm.exec) {own C : String} {index : Nat} {y : MethodName} {bytes : ByteArray} {maxL : Nat} {ret : Option FieldType} {hh : List (Nat × Nat × Nat × Nat)}
    (hown : s.vm.findClass own = some m.cls) (hlink : (Cond.methodLink own index y).before args s = true) (hinst : (Cond.instanceMethod y).before args s = true) (hsel : (Cond.selects C y y).before args s = true)
    (hcode : (Cond.codeWith y bytes maxL ret hh).before args s = true) (hy : y.cls ≠ "java/lang/invoke/MethodHandle" ∧ y.cls ≠ "java/lang/invoke/VarHandle")
    {W9 : Nat} {Pre : Pt → Array Value → Prop} {Post : Pt → Array Value → Option Value → Pt → Prop} (hK : Back l R p e below s args y 3 W9 Pre Post)
    {b : Addr} {cellB : Cell} (hcell : T.heap[b]? = some cellB) (hobj : cellB.vm.isStatics = false) (hcls : s.vm.findClass C = some cellB.cls)
    {g : JFrame} (hg : g.method = m) (hsize : g.locals.size = c.maxLocals) {argsL rest : List Value} (hlen : ∀ sig, parseMethodDescriptor y.desc = some sig → argsL.length = sig.parameters.length)
    (hstack : g.stack = argsL.reverse ++ .ref b :: rest) (hW : 2 * g.monitorRoom + (rest.map fun v => v.category).sum ≤ W9) (hdg : decode c.code g.pc = .ok (.invokevirtual index, 3))
    (hpre : ∀ vm₁, s.WarmedH vm₁ → Pre ⟨T.setVm vm₁, locs, cells, slots⟩ (Value.ref b :: argsL).toArray) :
    ∃ (v : Option Value) (vm₁ : Vm) (B : Pt), s.WarmedH vm₁ ∧ Stand p l e R s m args below meth c B.U B.locs B.cells B.slots ∧ Post ⟨T.setVm vm₁, locs, cells, slots⟩ (Value.ref b :: argsL).toArray v B ∧
      ∀ target, Steps p.tables e below (B.U.setTop { g with pc := g.pc + 3, stack := v.toList ++ rest }) target → Steps p.tables e below (T.setTop g) target := by
  obtain ⟨mk, methM, hnamed, hmethM, hstM, habM⟩ := Cond.instanceMethod_spec hinst
  obtain ⟨m8, methM', cM, hn8, hmethM', -, -, -, -, -, -, hsigM⟩ := Cond.codeWith_spec hcode
  cases Option.some.inj (hn8.symm.trans hnamed)
  cases hmethM.symm.trans hmethM'
  obtain ⟨c2, r2, m2, q1, q2, q3, q4, kP, hkP, hkPi⟩ := Cond.selects_spec hsel
  cases hcls.symm.trans q1
  cases (State.methodFound?_of_named hnamed hy).symm.trans q2
  cases hnamed.symm.trans q3
  have hselP : selectMethod e.platform s.vm cellB.cls mk = .method mk := by rw [Launch.admits_selectMethod X.admits]; exact q4
  obtain ⟨vm₁, X₁, hstep₁⟩ := X.invokevirtual hexec hown hlink hnamed hmethM hstM hkP hkPi hy (a := b) (cell := cellB) hcell
    (fun z h => by rw [h] at hobj; cases hobj) hselP hmethM habM hkP hkPi (g := g) hg (argsL := argsL) (rest := rest) (hlen _ hsigM) hstack hdg
  obtain ⟨v, B, X', hpost, hsteps⟩ := hK m meth c ⟨T.setVm vm₁, locs, cells, slots⟩ { g with stack := rest } (.invokevirtual index) mk (Value.ref b :: argsL).toArray X₁ hg hsize hdg hW (X₁.named hnamed) (hpre vm₁ X₁.warmed)
  exact ⟨v, vm₁, B, X₁.warmed, X', hpost, fun target h => hstep₁ _ fun acts => by rw [doInvoke_state]; exact hsteps.trans h⟩
abbrev vx_CVW (R : Room) (s : State) (args : Array Value) (own C : String) (index : Nat) (y : MethodName) (bytes : ByteArray) (maxL : Nat) (ret : Option FieldType) (hh : List (Nat × Nat × Nat × Nat)) (ws : List Cond) (rm : Room) (mc ms n : Nat) : Prop :=
  (rm.cells = mc ∧ rm.slots = ms ∧ rm.frames + 1 ≤ R.frames ∧ 8 + (maxL + 11) + rm.locals ≤ R.locals ∧ (∀ w ∈ ws, ∀ (a' : Array Value) (U : State), s.WarmedH U.vm → w.before a' U = true) ∧ Cond.codeWith y bytes maxL ret hh ∈ ws) ∧
  (Cond.codeWith y bytes maxL ret hh).before args s = true ∧ (Cond.initialized y.cls).before args s = true ∧ (y.cls ≠ "java/lang/invoke/MethodHandle" ∧ y.cls ≠ "java/lang/invoke/VarHandle") ∧
  (∀ sig, parseMethodDescriptor y.desc = some sig → n = sig.parameters.length) ∧ (Cond.methodLink own index y).before args s = true ∧ (Cond.instanceMethod y).before args s = true ∧ (Cond.selects C y y).before args s = true
theorem vx_cwVW {own C : String} {index maxL mc ms : Nat} {y : MethodName} {bytes : ByteArray} {ret : Option FieldType} {hh : List (Nat × Nat × Nat × Nat)} {Ts ws ws' : List Cond} {rm : Room} (n : Nat) (ht : ∀ w ∈ Ts, w.before args s = true) (hT : GoodIn Ts (wsV own index C y ws)) (hw : ws = Cond.codeWith y bytes maxL ret hh :: ws') (hrc : rm.cells = mc) (hrs : rm.slots = ms)
    (hd : y.cls = C ∧ y.cls ≠ "java/lang/invoke/MethodHandle" ∧ y.cls ≠ "java/lang/invoke/VarHandle" ∧ (parseMethodDescriptor y.desc).map (fun d => d.parameters.length) = some n) (hR : rm.frames + 1 ≤ R.frames ∧ 8 + (maxL + 11) + rm.locals ≤ R.locals) :
    vx_CVW R s args own C index y bytes maxL ret hh ws rm mc ms n := by
  obtain ⟨hC, hd⟩ := hd
  subst hC
  have ok : ∀ w ∈ wsV own index y.cls y ws, w.before args s = true := fun w h => ht w (hT w h).1
  have hG : GoodIn Ts ws := fun w h => hT w (by unfold wsV; exact List.mem_append_right _ h)
  have hc : Cond.codeWith y bytes maxL ret hh ∈ ws := by rw [hw]; exact List.mem_cons_self
  refine ⟨⟨hrc, hrs, hR.1, hR.2, pay_in ht hG, hc⟩, ht _ (hG _ hc).1, ok _ (by simp [wsV]), ⟨hd.1, hd.2.1⟩, fun sig h => ?_, ok _ (by simp [wsV]), ok _ (by simp [wsV]), ok _ (by simp [wsV])⟩
  have h2 := hd.2.2
  rw [h] at h2
  exact (Option.some.inj h2).symm
theorem vx_runVW {y : MethodName} {bytes cc : ByteArray} {maxL nL mc ms n index : Nat} {ret : Option FieldType} {hh : List (Nat × Nat × Nat × Nat)} {ws : List Cond} {rm : Room} {Pc : Array Value → State → Prop} {Qc : Array Value → State → Outcome → State → Prop} {free : Addr → Prop} {Ts : List Cond} {own C : String} {b : Addr} {As rest : List Value} {g : JFrame}
    (S : CallFix p m c cc nL s args Ts own) (hM : Met l y ws rm Pc Qc mc ms free) (cw : vx_CVW R s args own C index y bytes maxL ret hh ws rm mc ms n) (hp : PreV s H C b Pc As)
    (hg : g.method = m) (hn : As.length = n) (hsize : g.locals.size = nL) (hstack : g.stack = As.reverse ++ .ref b :: rest) (hW : 2 * g.monitorRoom + (rest.map fun v => v.category).sum ≤ 8) (hdg : decode cc g.pc = .ok (.invokevirtual index, 3)) (hf : cells + mc ≤ R.cells ∧ slots + ms ≤ R.slots) :
    va_Run p l e R s m args below meth c H locs cells slots mc ms g rest (Qc (Value.ref b :: As).toArray) free := by
  obtain ⟨⟨hrc, hrs, hfr, hlo, hws, hcw⟩, hcode, hini, hy, hlen, hl, hin, hse⟩ := cw
  have hK : Back l R p e below s args y 3 8 (PreOf R mc ms Pc) (PostOf Qc mc ms free) := va_backW (hh := hh) (bytes := bytes) (maxL := maxL) (ret := ret) hM hp.1 hrc hrs hfr hlo hws hcw (fun a' U hW => word_at hW (Or.inl (by first | rfl | simp [Cond.onTables, Cond.keeps, Cond.steady])) hini)
  obtain ⟨hx, hb, hml, ho, -⟩ := S
  obtain ⟨-, ⟨cellB, hcB, hoB, hclB⟩, hPc⟩ := hp
  intro T hT X
  obtain ⟨v, vm₁, ⟨U', l2, c2, s2⟩, hW₁, X', ⟨g', mk, t, L, e1, e2, hq, h1, hL, h2, h3⟩, st⟩ := vx_callVW X hx (C := C) (hh := hh) (bytes := bytes) (maxL := maxL) (ret := ret) ho hl hin hse hcode hy hK (by rw [hT]; exact hcB) hoB hclB hg (hsize.trans hml.symm) (argsL := As) (rest := rest) (fun sig h => hn.trans (hlen sig h)) hstack hW (by rw [hb]; exact hdg)
    (fun vm₁ hW₁ => ⟨hf.1, hf.2, hPc (T.setVm vm₁) hT hW₁⟩)
  dsimp only [Pt.U, Pt.locs, Pt.cells, Pt.slots] at X' e1 e2 h1 h2 h3 st
  subst h1; subst h2; subst h3
  exact ⟨v, (T.setVm vm₁).calling g' mk (Value.ref b :: As).toArray, t, U', L, hT, X', hL, e1, e2, hq, st⟩
section
variable {y : MethodName} {bytes cc : ByteArray} {maxL nL mc ms n index : Nat} {ret : Option FieldType} {ws : List Cond} {rm : Room} {Pc : Array Value → State → Prop} {Qc : Array Value → State → Outcome → State → Prop} {XC : String → State → State → Prop} {free : Addr → Prop} {Ts : List Cond} {own C : String} {b : Addr} {As rest : List Value} {g : JFrame}
theorem vx_runVX {hh : List (Nat × Nat × Nat × Nat)} (S : CallFix p m c cc nL s args Ts own) (hM : vx_Met l y ws rm Pc Qc XC mc ms free) (cw : vx_CVW R s args own C index y bytes maxL ret hh ws rm mc ms n) (hp : PreV s H C b Pc As)
    (hg : g.method = m) (hn : As.length = n) (hsize : g.locals.size = nL) (hstack : g.stack = As.reverse ++ .ref b :: rest) (hW : 2 * g.monitorRoom + (rest.map fun v => v.category).sum ≤ 8) (hdg : decode cc g.pc = .ok (.invokevirtual index, 3)) (hf : cells + mc ≤ R.cells ∧ slots + ms ≤ R.slots) :
    vx_Run p l e R s m args below meth c H locs cells slots mc ms g rest (Qc (Value.ref b :: As).toArray) XC free := by
  obtain ⟨⟨hrc, hrs, hfr, hlo, hws, hcw⟩, hcode, hini, hy, hlen, hl, hin, hse⟩ := cw
  have hK : vx_Back l R p e below s args y 3 8 (PreOf R mc ms Pc) (PostOf Qc mc ms free) (vx_Post XC mc ms free) := vx_backW (hh := hh) (bytes := bytes) (maxL := maxL) (ret := ret) hM hp.1 hrc hrs hfr hlo hws hcw (fun a' U hW => word_at hW (Or.inl (by first | rfl | simp [Cond.onTables, Cond.keeps, Cond.steady])) hini)
  obtain ⟨hx, hb, hml, ho, -⟩ := S
  obtain ⟨-, ⟨cellB, hcB, hoB, hclB⟩, hPc⟩ := hp
  intro T hT X
  rcases vx_callVX X hx (C := C) (hh := hh) (bytes := bytes) (maxL := maxL) (ret := ret) ho hl hin hse hcode hy hK (by rw [hT]; exact hcB) hoB hclB hg (hsize.trans hml.symm) (argsL := As) (rest := rest) (fun sig h => hn.trans (hlen sig h)) hstack hW (by rw [hb]; exact hdg)
    (fun vm₁ hW₁ => ⟨hf.1, hf.2, hPc (T.setVm vm₁) hT hW₁⟩) with ⟨v, vm₁, ⟨U', l2, c2, s2⟩, hW₁, X', ⟨g', mk, t, L, e1, e2, hq, h1, hL, h2, h3⟩, st⟩ | ⟨q, vm₁, ⟨U', l2, c2, s2⟩, hW₁, X', ⟨g', mk, t, L, E, ce, e1, e2, hq, hce, hcv, hcl, h1, hL, h2, h3⟩, st⟩
  · dsimp only [Pt.U, Pt.locs, Pt.cells, Pt.slots] at X' e1 e2 h1 h2 h3 st
    subst h1; subst h2; subst h3
    exact Or.inl ⟨v, (T.setVm vm₁).calling g' mk (Value.ref b :: As).toArray, t, U', L, hT, X', hL, e1, e2, hq, st⟩
  · dsimp only [Pt.U, Pt.locs, Pt.cells, Pt.slots] at X' e1 e2 h1 h2 h3 st hcl
    subst h1; subst h2; subst h3
    exact Or.inr ⟨q, (T.setVm vm₁).calling g' mk (Value.ref b :: As).toArray, t, U', L, E, ce, hT, X', hL, e1, e2, hq, hce, hcv, vx_cls hW₁ hcl, st⟩
theorem vx_runSX {hh : List (Nat × Nat × Nat × Nat)} (S : CallFix p m c cc nL s args Ts own) (hM : vx_Met l y ws rm Pc Qc XC mc ms free) (cw : vx_CSW R s args own index y bytes maxL ret hh ws rm mc ms n) (hp : PreS s H Pc As)
    (hg : g.method = m) (hn : As.length = n) (hsize : g.locals.size = nL) (hstack : g.stack = As.reverse ++ rest) (hW : 2 * g.monitorRoom + (rest.map fun v => v.category).sum ≤ 8) (hdg : decode cc g.pc = .ok (.invokestatic index, 3)) (hf : cells + mc ≤ R.cells ∧ slots + ms ≤ R.slots) :
    vx_Run p l e R s m args below meth c H locs cells slots mc ms g rest (Qc As.toArray) XC free := by
  obtain ⟨⟨hrc, hrs, hfr, hlo, hws, hcw⟩, hcode, hini, hy, hlen, hl, hstt⟩ := cw
  have hK : vx_Back l R p e below s args y 3 8 (PreOf R mc ms Pc) (PostOf Qc mc ms free) (vx_Post XC mc ms free) := vx_backW (hh := hh) (bytes := bytes) (maxL := maxL) (ret := ret) hM hp.1 hrc hrs hfr hlo hws hcw (fun a' U hW => word_at hW (Or.inl (by first | rfl | simp [Cond.onTables, Cond.keeps, Cond.steady])) hini)
  obtain ⟨hx, hb, hml, ho, -⟩ := S
  intro T hT X
  rcases vx_callSX X hx (hh := hh) (bytes := bytes) (maxL := maxL) (ret := ret) ho hl hstt hini hcode hy hK hg (hsize.trans hml.symm) (argsL := As) (rest := rest) (fun sig h => hn.trans (hlen sig h)) hstack hW (by rw [hb]; exact hdg)
    (fun vm₁ hW₁ => ⟨hf.1, hf.2, hp.2 (T.setVm vm₁) hT hW₁⟩) with ⟨v, vm₁, ⟨U', l2, c2, s2⟩, hW₁, X', ⟨g', mk, t, L, e1, e2, hq, h1, hL, h2, h3⟩, st⟩ | ⟨q, vm₁, ⟨U', l2, c2, s2⟩, hW₁, X', ⟨g', mk, t, L, E, ce, e1, e2, hq, hce, hcv, hcl, h1, hL, h2, h3⟩, st⟩
  · dsimp only [Pt.U, Pt.locs, Pt.cells, Pt.slots] at X' e1 e2 h1 h2 h3 st
    subst h1; subst h2; subst h3
    exact Or.inl ⟨v, (T.setVm vm₁).calling g' mk As.toArray, t, U', L, hT, X', hL, e1, e2, hq, st⟩
  · dsimp only [Pt.U, Pt.locs, Pt.cells, Pt.slots] at X' e1 e2 h1 h2 h3 st hcl
    subst h1; subst h2; subst h3
    exact Or.inr ⟨q, (T.setVm vm₁).calling g' mk As.toArray, t, U', L, E, ce, hT, X', hL, e1, e2, hq, hce, hcv, vx_cls hW₁ hcl, st⟩
end
end VXH
theorem vx_ofWH {l : Launch} {y : MethodName} {ws ws' : List Cond} {rm : Room} {Pc : Array Value → State → Prop} {Qc : Array Value → State → Outcome → State → Prop} {XC : String → State → State → Prop} {mc ms : Nat} {free : Addr → Prop} {cc : ByteArray} {maxL : Nat} {ret : Option FieldType} {hh : List (Nat × Nat × Nat × Nat)}
    (hy : plainName y.cls = true) (hw : ws = Cond.codeWith y cc maxL ret hh :: ws')
    (body : ∀ p e s m args below meth c s₁, BodyLoose p l y (headSpec ws rm) cc maxL ret e s m args below meth c s₁ → c.maxLocals = maxL → Pc args s →
      W p l e (headSpec ws rm).room s m args below meth c s.heap [] 0 0 (vx_MQ below Qc XC args s mc ms free) (entryFrame m args maxL)) : vx_Met l y ws rm Pc Qc XC mc ms free := by
  refine MetFree.of_bodyS (code := cc) (maxLocals := maxL) (ret := ret) hy ?_ ?_
  · intro args s m h hn
    obtain ⟨m9, meth, c, hn9, h1, h2, h3, h4, -, h5, h6, -⟩ := Cond.codeWith_spec (atoms_spec (ws := ws) h _ (by rw [hw]; exact List.mem_cons_self))
    cases hn.symm.trans hn9
    exact ⟨meth, c, h1, h2, h3, h4, h5, h6⟩
  · intro p e s m args below meth c s₁ B hml hP _
    have hh0 : s₁.heap = s.heap := by rw [B.state]; rfl
    obtain ⟨t, a1, o, b1, b2, b3⟩ := body p e s m args below meth c s₁ B hml hP s₁ hh0 (Stand.of_body B)
    exact ⟨t, o, a1, b1, b2, b3⟩
/-! ===== END ===== -/
/-! ===== BEGIN what the machine throws by itself, no traces kept ===== -/
section VXM
set_option maxHeartbeats 1000000 in
/-- the machine throws cls with the message text, no traces kept: from its note over the frame g to 'throwing' over the same frame (follows the proofs of Stand.vmThrowsMessage, Shelf/KitTracedVmS.lean, and Stand.throwsMessageColdBareV, StandMessageColdV.lean, without the step out of the frame) -/
theorem vx_vmAt {p : Program} {l : Launch} {e : Env} {R : Room} {s : State} {m₀ : MethodId} {args : Array Value} {below : List Frame} {meth : Method} {c : Code} {W : State} {locs : List Loc} {cells slots : Nat}
    (X : Stand p l e R s m₀ args below meth c W locs cells slots) (hexec : p.tables.exec = Jvm.exec) (htr : e.platform.stackTraces = false) {cls : String} {names : List String} {text : String}
    (hcls : Bundle.fit cls = true) (hnames : ∀ n ∈ names, Bundle.fit n = true) (hsoe : (cls == "java/lang/StackOverflowError") = false) (hoom : (cls == "java/lang/OutOfMemoryError") = false)
    (h : ∀ a ∈ Bundle.messageArmAtoms cls names, a.before args s = true)
    (hlocs : ∀ x ∈ locs, ∀ cell, s.heap[x.base]? = some cell → cell.vm.isStatics = false)
    (htext : (text == notModelled) = false) (hlimit : ¬ (stringBytes (stringToUtf16 text)).size > e.platform.arrayLengthLimit) (hheap : ¬ (stringBytes (stringToUtf16 text)).size * componentBytes .byte > e.platform.maxHeapBytes)
    {g : JFrame} (hg : g.method = m₀) (hsize : g.locals.size = c.maxLocals)
    (hRframes : names.length + 4 < R.frames) (hRlocals : 2 * g.monitorRoom + (g.stack.map fun v => v.category).sum + 10240 ≤ R.locals) (hshort : 13 * names.length + 55 ≤ 10240)
    (hRcells : cells + 3 ≤ R.cells) (hRslots : slots + ((stringBytes (stringToUtf16 text)).size + 4 + 6) ≤ R.slots) (hlocks : meth.locks = false) :
    ∃ (S : State) (q : Addr) (ce : Cell), (∀ target, Steps p.tables e below ((S.setTop g).pushFrame (.throwing q)) target → Steps p.tables e below ((W.setTop g).pushFrame (.throwNew cls (some text) none)) target) ∧
      Stand p l e R s m₀ args below meth c S locs (cells + 3) (slots + ((stringBytes (stringToUtf16 text)).size + 4 + 6)) ∧ S.heap[q]? = some ce ∧ s.vm.findClass cls = some ce.cls ∧ ce.vm = .none := by
  have howns : e.platform.frameOwnsMonitors = true := by rw [X.admits.platform]
  have hfin : e.platform.finalization = false := by rw [X.admits.platform]
  have hpl : e.platform.magicAccessors = ({} : Platform).magicAccessors := by rw [X.admits.platform]
  have a : ∀ x, x ∈ Bundle.messageArmAtoms cls names → x.holds args s none s [] = true := fun x hx => h x hx
  obtain ⟨T, Z0, L, -, Y⟩ := ThrowableC.of_atoms (args := args) howns hfin hpl (fun x hx => h x (by simp [Bundle.messageArmAtoms, hx]))
  obtain ⟨Z, M, LZ, LM, hnZ⟩ := Init0T.ofS_atoms (args := args) hpl L Y (fun x hx => h x (by simp [Bundle.messageArmAtoms, hx]))
  obtain ⟨P1, Ps, hlen, L1, hL, hP1m, hlink1, hlink⟩ := Bundle.chainS (args := args) hpl hnZ names cls hcls hnames (fun x hx => h x (by simp [Bundle.messageArmAtoms, hx]))
  obtain ⟨Zs, LZs, hn4, hfitv, hfitc⟩ := StringT.of_atoms (args := args) (fun x hx => h x (by simp [Bundle.messageArmAtoms, hx]))
  have hfound : s.vm.findClass cls = some P1.m.cls := findClass_of_methodNamed hP1m
  obtain ⟨c1, kX, hc1, hk, hord, -, -, hn6⟩ := Cond.instantiable_spec (a (.instantiable cls 6) (by simp [Bundle.messageArmAtoms]))
  cases Option.some.inj (hc1.symm.trans hfound)
  have hinit := Cond.initialized_spec hfound hk (a (.initialized cls) (by simp [Bundle.messageArmAtoms]))
  have hctor : kX.findMethod "<init>" "(Ljava/lang/String;)V" = some P1.m.idx := findMethod_of_methodNamed hP1m hk
  have hsel0 : selectMethod e.platform s.vm P1.m.cls T.fill0 = .method T.fill0 := by
    obtain ⟨c2, r2, m2, q1, q2, q3, q4, -⟩ := Cond.selects_spec (a (.selects cls Bundle.tFill0 Bundle.tFill0) (by simp [Bundle.messageArmAtoms]))
    cases Option.some.inj (q1.symm.trans hfound)
    cases Option.some.inj (q2.symm.trans (State.methodFound?_of_named Y.fill0 (by decide)))
    cases Option.some.inj (q3.symm.trans Y.fill0)
    rw [Launch.admits_selectMethod X.admits]; exact q4
  have hselF : selectMethod e.platform s.vm P1.m.cls T.fill = .method T.fill := by
    obtain ⟨c2, r2, m2, q1, q2, q3, q4, -⟩ := Cond.selects_spec (a (.selects cls Bundle.tFill Bundle.tFill) (by simp [Bundle.messageArmAtoms]))
    cases Option.some.inj (q1.symm.trans hfound)
    cases Option.some.inj (q2.symm.trans (State.methodFound?_of_named Y.fill (by decide)))
    cases Option.some.inj (q3.symm.trans Y.fill)
    rw [Launch.admits_selectMethod X.admits]; exact q4
  obtain ⟨cellS0, hcS0, hiss⟩ := Y.statics
  obtain ⟨u0, hu0⟩ := Cond.staticRefV Y.unassigned L.unassignedStatic L.statics hcS0 hiss (a (.isRef (.static Bundle.tN "UNASSIGNED_STACK" Bundle.steD)) (by simp [Bundle.messageArmAtoms]))
  obtain ⟨sen, hsen⟩ := Cond.staticRefV Y.sentinel L.sentinelStatic L.statics hcS0 hiss (a (.isRef (.static Bundle.tN "SUPPRESSED_SENTINEL" Bundle.listD)) (by simp [Bundle.messageArmAtoms]))
  obtain ⟨ci198, i198, fB, hk198, hg198, ha198, hsB, -, hnB, htB, hffB⟩ := Cond.ownField (t := .object "java/lang/Object") Y.found L.cls (by decide +kernel) (a (.fieldLink Bundle.tN 198 Bundle.tN "backtrace" "Ljava/lang/Object;") (by simp [Bundle.messageArmAtoms])) (a (.lays Bundle.tN Bundle.tN "backtrace" "Ljava/lang/Object;") (by simp [Bundle.messageArmAtoms])) e.platform hpl
  obtain ⟨cellS, hcS', heS, -, hkeep⟩ := X.same.2.2.2.2.2 T.aS cellS0 hcS0
  have hcellS : W.heap[T.aS]? = some cellS := hcS'
  have hout' : ∀ i, (⟨T.aS, i⟩ : Loc) ∉ locs := fun i hmem => by
    have := hlocs _ hmem cellS0 hcS0
    rw [hiss] at this; cases this
  have hknownS : cellS.vm ≠ .unknown := by
    rw [heS]; intro hu
    rw [show cellS0.vm = .unknown from hu] at hiss
    cases hiss
  have hvU : cellS.slots[T.fUnassigned.slot]? = some u0.v := by rw [hkeep _ (hout' _)]; exact hu0
  have hvSen : cellS.slots[T.fSentinel.slot]? = some sen.v := by rw [hkeep _ (hout' _)]; exact hsen
  obtain ⟨iM, hffM⟩ := Y.msg
  obtain ⟨tyC, dC, hdC, hdnC⟩ := Cond.laysAt hfound hk Y.cause (a (.lays cls Bundle.tN "cause" "Ljava/lang/Throwable;") (by simp [Bundle.messageArmAtoms]))
  obtain ⟨tyS, dS, hdS, hdnS⟩ := Cond.laysAt hfound hk Y.stack (a (.lays cls Bundle.tN "stackTrace" Bundle.steD) (by simp [Bundle.messageArmAtoms]))
  obtain ⟨tyP, dP, hdP, hdnP⟩ := Cond.laysAt hfound hk Y.supp (a (.lays cls Bundle.tN "suppressedExceptions" Bundle.listD) (by simp [Bundle.messageArmAtoms]))
  obtain ⟨tyM, dM, hdM, hdnM⟩ := Cond.laysAt hfound hk hffM (a (.lays cls Bundle.tN "detailMessage" "Ljava/lang/String;") (by simp [Bundle.messageArmAtoms]))
  obtain ⟨tyB, dB, hdB, hdnB⟩ := Cond.laysAt hfound hk hffB (a (.lays cls Bundle.tN "backtrace" "Ljava/lang/Object;") (by simp [Bundle.messageArmAtoms]))
  have bC := Cond.laysApart hdB hdC hdnB hdnC (by rw [hnB, Y.causeName]; decide)
  have bS := Cond.laysApart hdB hdS hdnB hdnS (by rw [hnB, Y.stackName]; decide)
  have bP := Cond.laysApart hdB hdP hdnB hdnP (by rw [hnB, Y.suppName]; decide)
  have hbk : ((preparedCellV T.toThrowableT (freshCell P1.m.cls kX) (W.heap.size + 2) u0 sen).withEntry W.cur).slots[fB.slot]? = some .null := by
    have := fresh_default (c := P1.m.cls) tyB
    rw [htB] at this
    simpa [preparedCellV, Cell.setSlot, Cell.withEntry, Array.getElem?_setIfInBounds, bC, bS, bP, bC.symm, bS.symm, bP.symm, defaultValue] using this
  have tkC := Takes.of_laid (v := .ref (W.heap.size + 2)) hk hord tyC (by rw [Y.causeType]; rfl)
  have tkS := Takes.of_laid (v := u0.v) hk hord tyS (by rw [Y.stackType]; exact fits_refV_array _ u0)
  have tkP := Takes.of_laid (v := sen.v) hk hord tyP (by rw [Y.suppType]; exact fits_refV_object _ sen)
  have tkM := Takes.of_laid (v := .ref (W.heap.size + 1)) hk hord tyM (by rw [Y.msgType]; rfl)
  have hskip : SkipFacts T e.platform s (fun u => u) u0 ((preparedCellV T.toThrowableT (freshCell P1.m.cls kX) (W.heap.size + 2) u0 sen).withEntry W.cur) := ⟨{ ci198 := ci198, i198 := i198, fBack := fB }, ⟨hk198, hg198, ha198, hsB⟩, hbk, fun _ _ => rfl⟩
  have h0 : At W g.method c below := by rw [hg]; exact X.here
  obtain ⟨hbeyond, hfreeW⟩ := X.vmMayThrow hsize (.throwNew cls (some text) none) (fun f hf => by cases hf) rfl hRlocals
  have hfr' : W.frames.length + Ps.length + 4 < (e.platform.stackLimits W.me).1 := by have := X.framesAbove hRframes; omega
  have hwd' : (stackUse (.java g :: W.frames.tail)).2 + 13 * Ps.length + 55 ≤ (e.platform.stackLimits W.me).2 := by have := X.stackAbove hsize (K := 13 * Ps.length + 55) (by omega); omega
  have hslots : W.slotsUsed + (stringBytes (stringToUtf16 text)).size + Zs.kS.instanceTypes.size + kX.instanceTypes.size ≤ e.platform.maxSlots := by
    have := X.slotsAbove hRslots
    rw [hn4, hn6]
    omega
  obtain ⟨vm', hW', st⟩ := Steps.vmThrowsMessageColdByV p (s₀ := s) (S := W) (g := g) h0 hexec T L Z LZ M LM X.warmed (t := W.cur) rfl Zs LZs P1 L1 Ps hL hlink1 hlink hsoe hoom hfound hk hinit hord hctor
    (Launch.admits_hotImplicitExceptions X.admits) hbeyond hfreeW htext hlimit hheap (X.cellsAbove hRcells) hslots (hfitv _) (hfitc _)
    (Nn := fun u => u) heapOnly_id (fun _ _ => rfl) (fun _ => rfl) (fun u x y => setCell_twice _ _ _ _) (fun _ => Nat.le_refl _) (cN := ((preparedCellV T.toThrowableT (freshCell P1.m.cls kX) (W.heap.size + 2) u0 sen).withEntry W.cur))
    hsel0 hcellS hknownS hvU tkS (fun _ hu => hu) (fun _ hu => hu) rfl rfl rfl (by simp [preparedCellV, Cell.setSlot, Cell.withEntry]) hskip (fun _ _ hA hW _ hroom _ hrest => L.nativeOff p htr hA hW hroom hrest) hselF hvSen tkC tkP tkM Y.objLocals rfl hfr' hwd'
  rw [plainBareV_eq T.toThrowableT (W.heap.size + 2) u0 sen (.ref (W.heap.size + 1)) W.cur rfl rfl] at st
  obtain ⟨-, -, w3, w4, -, -, -⟩ := withThrown_facts e.platform W Zs text P1.m.cls kX
  have X3 := ((X.pushed (bytesOf Zs.cB (stringToUtf16 text))).pushed (stringAt Zs.cS Zs.kS Zs.fv Zs.fc (stringToUtf16 text) W.heap.size)).pushed (freshCell P1.m.cls kX)
  rw [← withString_eq] at X3
  have X4 := X3.noted hW'
  have ha : (W.heap.size + 2) < ((withThrown W Zs text P1.m.cls kX).setVm vm').heap.size := by show _ < (withThrown W Zs text P1.m.cls kX).heap.size; rw [w3]; omega
  have hcell : ((withThrown W Zs text P1.m.cls kX).setVm vm').heap[(W.heap.size + 2)]? = some (freshCell P1.m.cls kX) := w4
  have X5 := ((((X4.stored hcell T.fCause.slot (.ref (W.heap.size + 2))).storedAgain ha T.fStack.slot u0.v).storedAgain ha T.fSupp.slot sen.v).storedAgain ha T.fStack.slot u0.v).storedAgain ha T.fMsg.slot (.ref (W.heap.size + 1))
  obtain ⟨g₁, hfrM⟩ := X5.frames_eq
  have hU : ((((withThrown W Zs text P1.m.cls kX).setVm vm').setCell (W.heap.size + 2) (plainBareV T.toThrowableT (freshCell P1.m.cls kX) (W.heap.size + 2) u0 sen (.ref (W.heap.size + 1)))).setTop g).pushFrame (.throwing (W.heap.size + 2)) = (((withThrown W Zs text P1.m.cls kX).setVm vm').setCell (W.heap.size + 2) (plainBareV T.toThrowableT (freshCell P1.m.cls kX) (W.heap.size + 2) u0 sen (.ref (W.heap.size + 1)))).setFrames (.throwing (W.heap.size + 2) :: .java g :: below) := by
    rw [State.pushFrame, State.frames_setTop _ hfrM, State.setTop_of_frames _ hfrM, State.setFrames_setFrames]
  have b1 : (bytesOf Zs.cB (stringToUtf16 text)).slots.size = (stringBytes (stringToUtf16 text)).size := by
    rw [(Cell.writeAll_facts _ _).2.2]; simp [bytes0]
  have b2 : (stringAt Zs.cS Zs.kS Zs.fv Zs.fc (stringToUtf16 text) W.heap.size).slots.size = 4 := by simp [string0, Cell.setSlot, hn4]
  have b3 : (freshCell P1.m.cls kX).slots.size = 6 := by simp [hn6]
  rw [b1, b2, b3] at X5
  have e9 : slots + (stringBytes (stringToUtf16 text)).size + 4 + 6 = slots + ((stringBytes (stringToUtf16 text)).size + 4 + 6) := by omega
  rw [e9] at X5
  simp only [List.append_assoc, List.cons_append, List.nil_append] at X5
  refine ⟨((withThrown W Zs text P1.m.cls kX).setVm vm').setCell (W.heap.size + 2) (plainBareV T.toThrowableT (freshCell P1.m.cls kX) (W.heap.size + 2) u0 sen (.ref (W.heap.size + 1))), W.heap.size + 2, _, fun target ht => st _ (by rw [X.tail, ← hU]; exact ht),
    X5.forget (fun y hy => ?_), heapAt_setCell_self _ ha, hfound, rfl⟩
  simp only [List.mem_cons, List.not_mem_nil, or_false] at hy
  have hge : s.heap.size ≤ W.heap.size := X.same.2.1
  rcases hy with rfl | rfl | rfl | rfl | rfl <;> exact Nat.le_trans hge (Nat.le_add_right _ 2)
set_option maxHeartbeats 1000000 in
/-- the machine throws NullPointerException, no traces kept: from its note over the frame g to 'throwing' over the same frame (follows the proof of Stand.vmThrowsNpe, Shelf42/KT2.lean; throwsNpeColdBareVAt, Shelf42/NT91.lean, called) -/
theorem vx_npeAt {p : Program} {l : Launch} {e : Env} {R : Room} {s : State} {m₀ : MethodId} {args : Array Value} {below : List Frame} {meth : Method} {c : Code} {W : State} {locs : List Loc} {cells slots : Nat}
    (X : Stand p l e R s m₀ args below meth c W locs cells slots) (hexec : p.tables.exec = Jvm.exec) (htr : e.platform.stackTraces = false) {n : Nat}
    (h : ∀ a ∈ Bundle.npeArmAtoms n, a.before args s = true)
    (hlocs : ∀ x ∈ locs, ∀ cell, s.heap[x.base]? = some cell → cell.vm.isStatics = false)
    {g : JFrame} (hg : g.method = m₀) (hsize : g.locals.size = c.maxLocals)
    (hRframes : 7 < R.frames) (hRlocals : 2 * g.monitorRoom + (g.stack.map fun v => v.category).sum + 10240 ≤ R.locals)
    (hRcells : cells + 1 ≤ R.cells) (hRslots : slots + n ≤ R.slots) (hlocks : meth.locks = false) :
    ∃ (S : State) (q : Addr) (ce : Cell), (∀ target, Steps p.tables e below ((S.setTop g).pushFrame (.throwing q)) target → Steps p.tables e below ((W.setTop g).pushFrame (.throwNew "java/lang/NullPointerException" none none)) target) ∧
      Stand p l e R s m₀ args below meth c S locs (cells + 1) (slots + n) ∧ S.heap[q]? = some ce ∧ s.vm.findClass "java/lang/NullPointerException" = some ce.cls ∧ ce.vm = .none := by
  have howns : e.platform.frameOwnsMonitors = true := by rw [X.admits.platform]
  have hfin : e.platform.finalization = false := by rw [X.admits.platform]
  have hpl : e.platform.magicAccessors = ({} : Platform).magicAccessors := by rw [X.admits.platform]
  have hpl2 : e.platform.arrayCloneIsPublic = true := by rw [X.admits.platform]
  have a' : ∀ x, x ∈ Bundle.npeArmAtoms n → x.holds args s none s [] = true := fun x hx => h x hx
  obtain ⟨T, Z, L, LZ, Y⟩ := ThrowableC.of_atoms (args := args) howns hfin hpl (fun x hx => h x (by simp [Bundle.npeArmAtoms, hx]))
  obtain ⟨N, LN, hcN, hnNF, hordN, hffS⟩ := NpeC.of_atoms (args := args) hpl hpl2 L Y (fun x hx => h x (by simp [Bundle.npeArmAtoms, hx]))
  obtain ⟨P1, L1, hP1m, hP1s⟩ := PassC.of_atoms (args := args) (s := s) hpl (X := Bundle.nN) (Y := Bundle.rN) (by decide) (by decide) LibCode.NullPointerException.Init0.at_0 LibCode.NullPointerException.Init0.at_1 LibCode.NullPointerException.Init0.at_4 (fun x hx => h x (by simp [Bundle.npeArmAtoms, hx]))
  obtain ⟨PR, LR, hPRm, hPRs⟩ := PassC.of_atoms (args := args) (s := s) hpl (X := Bundle.rN) (Y := Bundle.eN) (by decide) (by decide) LibCode.RuntimeException.Init0.at_0 LibCode.RuntimeException.Init0.at_1 LibCode.RuntimeException.Init0.at_4 (fun x hx => h x (by simp [Bundle.npeArmAtoms, hx]))
  obtain ⟨PE, LEx, hPEm, hPEs⟩ := PassC.of_atoms (args := args) (s := s) hpl (X := Bundle.eN) (Y := Bundle.tN) (by decide) (by decide) LibCode.Exception.Init0.at_0 LibCode.Exception.Init0.at_1 LibCode.Exception.Init0.at_4 (fun x hx => h x (by simp [Bundle.npeArmAtoms, hx]))
  have hfound : s.vm.findClass Bundle.nN = some P1.m.cls := findClass_of_methodNamed hP1m
  have ecls : N.cN = P1.m.cls := Option.some.inj (hcN.symm.trans hfound)
  have hk : s.vm.classes[P1.m.cls]? = some N.kN := by rw [← ecls]; exact LN.cls
  have hinit := Cond.initialized_spec hfound hk (a' (.initialized Bundle.nN) (by simp [Bundle.npeArmAtoms]))
  have hctor : N.kN.findMethod "<init>" "()V" = some P1.m.idx := findMethod_of_methodNamed hP1m hk
  obtain ⟨c1, k1, hc1, hk1, -, -, -, hn⟩ := Cond.instantiable_spec (a' (.instantiable Bundle.nN n) (by simp [Bundle.npeArmAtoms]))
  cases Option.some.inj (hc1.symm.trans hfound)
  cases Option.some.inj (hk1.symm.trans hk)
  have hfsz : (freshCell P1.m.cls N.kN).slots.size = n := by simp [hn]
  have hlink1 : P1.sup = PR.m := Option.some.inj (hP1s.symm.trans hPRm)
  have hlinkR : PR.sup = PE.m := Option.some.inj (hPRs.symm.trans hPEm)
  have hlinkE : PE.sup = Z.m T.toThrowableT := Option.some.inj (hPEs.symm.trans Y.init0)
  have hLs : ∀ P, P ∈ [PR, PE] → P.Links0 e.platform s := fun P hP => by
    simp only [List.mem_cons, List.not_mem_nil, or_false] at hP
    rcases hP with rfl | rfl
    · exact LR
    · exact LEx
  have hsel0 : selectMethod e.platform s.vm P1.m.cls T.fill0 = .method T.fill0 := by
    obtain ⟨c2, r2, m2, q1, q2, q3, q4, -⟩ := Cond.selects_spec (a' (.selects Bundle.nN Bundle.tFill0 Bundle.tFill0) (by simp [Bundle.npeArmAtoms]))
    cases Option.some.inj (q1.symm.trans hfound)
    cases Option.some.inj (q2.symm.trans (State.methodFound?_of_named Y.fill0 (by decide)))
    cases Option.some.inj (q3.symm.trans Y.fill0)
    rw [Launch.admits_selectMethod X.admits]; exact q4
  have hselF : selectMethod e.platform s.vm P1.m.cls T.fill = .method N.fill := by
    obtain ⟨c2, r2, m2, q1, q2, q3, q4, -⟩ := Cond.selects_spec (a' (.selects Bundle.nN Bundle.tFill Bundle.nFill) (by simp [Bundle.npeArmAtoms]))
    cases Option.some.inj (q1.symm.trans hfound)
    cases Option.some.inj (q2.symm.trans (State.methodFound?_of_named Y.fill (by decide)))
    cases Option.some.inj (q3.symm.trans hnNF)
    rw [Launch.admits_selectMethod X.admits]; exact q4
  obtain ⟨cellS0, hcS0, hiss⟩ := Y.statics
  obtain ⟨u0, hu0⟩ := Cond.staticRefV Y.unassigned L.unassignedStatic L.statics hcS0 hiss (a' (.isRef (.static Bundle.tN "UNASSIGNED_STACK" Bundle.steD)) (by simp [Bundle.npeArmAtoms]))
  obtain ⟨sen, hsen⟩ := Cond.staticRefV Y.sentinel L.sentinelStatic L.statics hcS0 hiss (a' (.isRef (.static Bundle.tN "SUPPRESSED_SENTINEL" Bundle.listD)) (by simp [Bundle.npeArmAtoms]))
  obtain ⟨ci198, i198, fB, hk198, hg198, ha198, hsB, -, hnB, htB, hffB⟩ := Cond.ownField (t := .object "java/lang/Object") Y.found L.cls (by decide +kernel) (a' (.fieldLink Bundle.tN 198 Bundle.tN "backtrace" Bundle.objD) (by simp [Bundle.npeArmAtoms])) (a' (.lays Bundle.tN Bundle.tN "backtrace" Bundle.objD) (by simp [Bundle.npeArmAtoms])) e.platform hpl
  obtain ⟨cellS, hcS', heS, -, hkeep⟩ := X.same.2.2.2.2.2 T.aS cellS0 hcS0
  have hcellS : W.heap[T.aS]? = some cellS := hcS'
  have hout' : ∀ i, (⟨T.aS, i⟩ : Loc) ∉ locs := fun i hmem => by
    have := hlocs _ hmem cellS0 hcS0
    rw [hiss] at this; cases this
  have hknownS : cellS.vm ≠ .unknown := by
    rw [heS]; intro hu
    rw [show cellS0.vm = .unknown from hu] at hiss
    cases hiss
  have hvU : cellS.slots[T.fUnassigned.slot]? = some u0.v := by rw [hkeep _ (hout' _)]; exact hu0
  have hvSen : cellS.slots[T.fSentinel.slot]? = some sen.v := by rw [hkeep _ (hout' _)]; exact hsen
  obtain ⟨tyC, dC, hdC, hdnC⟩ := Cond.laysAt hfound hk Y.cause (a' (.lays Bundle.nN Bundle.tN "cause" "Ljava/lang/Throwable;") (by simp [Bundle.npeArmAtoms]))
  obtain ⟨tyS, dS, hdS, hdnS⟩ := Cond.laysAt hfound hk Y.stack (a' (.lays Bundle.nN Bundle.tN "stackTrace" Bundle.steD) (by simp [Bundle.npeArmAtoms]))
  obtain ⟨tyP, dP, hdP, hdnP⟩ := Cond.laysAt hfound hk Y.supp (a' (.lays Bundle.nN Bundle.tN "suppressedExceptions" Bundle.listD) (by simp [Bundle.npeArmAtoms]))
  obtain ⟨tyX, dX, hdX, hdnX⟩ := Cond.laysAt hfound hk hffS (a' (.lays Bundle.nN Bundle.nN "extendedMessageState" "I") (by simp [Bundle.npeArmAtoms, Bundle.npeAtoms]))
  obtain ⟨hnX, htX⟩ := State.fieldFound?_type hffS (t := .int) (by decide +kernel)
  have xC := Cond.laysApart hdC hdX hdnC hdnX (by rw [hnX, Y.causeName]; decide)
  have xS := Cond.laysApart hdS hdX hdnS hdnX (by rw [hnX, Y.stackName]; decide)
  have xP := Cond.laysApart hdP hdX hdnP hdnX (by rw [hnX, Y.suppName]; decide)
  have hv0 : (freshCell P1.m.cls N.kN).slots[N.fState.slot]? = some (.int 0) := by
    have := fresh_default (c := P1.m.cls) tyX
    rw [htX] at this; exact this
  obtain ⟨tyB, dB, hdB, hdnB⟩ := Cond.laysAt hfound hk hffB (a' (.lays Bundle.nN Bundle.tN "backtrace" Bundle.objD) (by simp [Bundle.npeArmAtoms]))
  have bC := Cond.laysApart hdB hdC hdnB hdnC (by rw [hnB, Y.causeName]; decide)
  have bS := Cond.laysApart hdB hdS hdnB hdnS (by rw [hnB, Y.stackName]; decide)
  have bP := Cond.laysApart hdB hdP hdnB hdnP (by rw [hnB, Y.suppName]; decide)
  have bX := Cond.laysApart hdB hdX hdnB hdnX (by rw [hnB, hnX]; decide)
  have hbk : ((npeCell N.toNpeT (preparedCellV T.toThrowableT (freshCell P1.m.cls N.kN) W.heap.size u0 sen) W.cur).withEntry W.cur).slots[fB.slot]? = some .null := by
    have := fresh_default (c := P1.m.cls) tyB
    rw [htB] at this
    simpa [npeCell, preparedCellV, Cell.setSlot, Cell.withEntry, Array.getElem?_setIfInBounds, bC, bS, bP, bX, bC.symm, bS.symm, bP.symm, bX.symm, defaultValue] using this
  have tkC := Takes.of_laid (v := .ref W.heap.size) hk hordN tyC (by rw [Y.causeType]; rfl)
  have tkS := Takes.of_laid (v := u0.v) hk hordN tyS (by rw [Y.stackType]; exact fits_refV_array _ u0)
  have tkP := Takes.of_laid (v := sen.v) hk hordN tyP (by rw [Y.suppType]; exact fits_refV_object _ sen)
  have tkX := Takes.of_laid (v := .int 1) hk hordN tyX (by rw [htX]; rfl)
  have hskip : SkipFacts T e.platform s (fun u => u) u0 ((npeCell N.toNpeT (preparedCellV T.toThrowableT (freshCell P1.m.cls N.kN) W.heap.size u0 sen) W.cur).withEntry W.cur) := ⟨{ ci198 := ci198, i198 := i198, fBack := fB }, ⟨hk198, hg198, ha198, hsB⟩, hbk, fun _ _ => rfl⟩
  obtain ⟨vm', X3, st, -⟩ := X.throwsNpeColdBareVAt hexec hg hsize T L Z LZ N LN P1 L1 [PR, PE] hLs hlink1 ⟨hlinkR, hlinkE, trivial⟩ hfound hk hinit hordN hctor hsel0 hselF hcellS hknownS hvU hvSen
    hv0 xC xS xP tkC tkS tkP tkX Y.objLocals hskip (fun _ _ hA hW _ hroom _ hrest => L.nativeOff p htr hA hW hroom hrest) (by simpa using hRframes) hRlocals (by simp) hRcells (by rw [hn]; exact hRslots)
  have hlt : W.heap.size < ((W.pushCell (freshCell P1.m.cls N.kN)).setVm vm').heap.size := by
    show W.heap.size < (W.pushCell (freshCell P1.m.cls N.kN)).heap.size
    rw [State.heap_size_pushCell]; omega
  rw [hfsz] at X3
  obtain ⟨g₁, hfrM⟩ := X3.frames_eq
  have hU : ((((W.pushCell (freshCell P1.m.cls N.kN)).setVm vm').setCell W.heap.size (npeBareV T.toThrowableT N.toNpeT (freshCell P1.m.cls N.kN) W.heap.size u0 sen)).setTop g).pushFrame (.throwing W.heap.size) = (((W.pushCell (freshCell P1.m.cls N.kN)).setVm vm').setCell W.heap.size (npeBareV T.toThrowableT N.toNpeT (freshCell P1.m.cls N.kN) W.heap.size u0 sen)).setFrames (.throwing W.heap.size :: .java g :: below) := by
    rw [State.pushFrame, State.frames_setTop _ hfrM, State.setTop_of_frames _ hfrM, State.setFrames_setFrames]
  refine ⟨_, W.heap.size, _, fun target ht => st.trans (by rw [← hU]; exact ht), X3.forget (fun y hy => ?_), heapAt_setCell_self _ hlt, hfound, rfl⟩
  simp only [List.mem_cons, List.not_mem_nil, or_false] at hy
  have hge : s.heap.size ≤ W.heap.size := X.same.2.1
  rcases hy with rfl | rfl | rfl | rfl | rfl <;> exact hge
/-- the words of a machine's NullPointerException, but the four that speak of the heap -/
def vx_atN (n : Nat) : List Cond := (Bundle.npeArmAtoms n).filter vx_no
/-- the words of a machine's throw with a message, but the four that speak of the heap -/
def vx_atM (X : String) (names : List String) : List Cond := (Bundle.messageArmAtoms X names).filter vx_no
section
variable {p : Program} {l : Launch} {e : Env} {R : Room} {s : State} {m : MethodId} {args : Array Value} {below : List Frame} {meth : Method} {c : Code} {H : Heap} {locs : List Loc} {cells slots : Nat}
/-- a frame seen from a rebased start, seen from the first start again -/
theorem vx_back9 {T S : State} {R' : Room} {k n : Nat} (X : Stand p l e R s m args below meth c T locs cells slots) (Y : Stand p l e R' ((T.setVm s.vm).setFrames (.invoking m args :: below)) m args below meth c T [] 0 0) (Z : Stand p l e R' ((T.setVm s.vm).setFrames (.invoking m args :: below)) m args below meth c S [] k n) :
    Stand p l e R s m args below meth c S locs (cells + k) (slots + n) := by
  have hW0 : s.WarmedH ((T.setVm s.vm).setFrames (.invoking m args :: below)).vm := State.WarmedH.refl s
  refine { admits := X.admits, cas := X.cas, clock := X.clock, frames := X.frames, room := X.room, hears := X.hears, method := X.method, code := X.code, here := Z.here, tail := Z.tail, warmed := State.WarmedH.trans hW0 Z.warmed, limits := Z.limits.trans (Y.limits.symm.trans X.limits), bytes := Z.bytes.trans (Y.bytes.symm.trans X.bytes), same := ?_ }
  obtain ⟨e1, e2⟩ := Z.same
  rw [State.setFrames_setFrames] at e1
  have h2 : (T.setVm s.vm).sameButNew (S.setVm s.vm) [] k n := ⟨e1, e2⟩
  have h3 := X.same.trans h2
  rw [List.append_nil] at h3
  exact h3
/-- from the machine's note that E is thrown here with this text -/
def vx_Note (p : Program) (l : Launch) (e : Env) (R : Room) (s : State) (m : MethodId) (args : Array Value) (below : List Frame) (meth : Method) (c : Code) (H : Heap) (locs : List Loc) (cells slots : Nat) (Q : State → Prop) (g : JFrame) (E text : String) : Prop :=
  ∀ T : State, T.heap = H → Stand p l e R s m args below meth c T locs cells slots → ∃ t, Steps p.tables e below ((T.setTop g).pushFrame (.throwNew E (some text) none)) t ∧ Q t
theorem vx_vm {pc : Nat} {ls : Array Slot} {rest : List Value} {Q : State → Prop} (hexec : p.tables.exec = Jvm.exec) (hl : l.stackTraces = false) {cls text : String} {names : List String} {nb : Nat} {A : Nat → Prop}
    (hcls : Bundle.fit cls = true) (hnames : ∀ n ∈ names, Bundle.fit n = true) (hsoe : (cls == "java/lang/StackOverflowError") = false) (hoom : (cls == "java/lang/OutOfMemoryError") = false)
    (hat : ∀ w ∈ vx_atM cls names, w.before args s = true) (hgood : ∀ w ∈ vx_atM cls names, vx_ot w = true)
    (hU : vx_Zq Bundle.tN "UNASSIGNED_STACK" Bundle.steD A s s.heap) (hN : vx_Zq Bundle.tN "SUPPRESSED_SENTINEL" Bundle.listD A s s.heap) (hS : va_S A s.heap H locs) (hsize : ls.size = c.maxLocals)
    (htext : (text == notModelled) = false) (hnb : (stringBytes (stringToUtf16 text)).size ≤ nb) (hnb1 : nb ≤ 1000)
    (hRframes : names.length + 4 < R.frames) (hRlocals : (rest.map fun v => v.category).sum + 10240 ≤ R.locals) (hshort : 13 * names.length + 55 ≤ 10240) (hRcells : cells + 3 ≤ R.cells) (hRslots : slots + (nb + 10) ≤ R.slots) (hlocks : meth.locks = false)
    (k : ∀ (H1 : Heap) (q9 : Addr) (ce : Cell), H.size ≤ H1.size → (∀ q : Nat, q < H.size → H1[q]? = H[q]?) → va_S A s.heap H1 locs → H1[q9]? = some ce → ce.vm = .none → s.vm.findClass cls = some ce.cls → vx_W p l e R s m args below meth c H1 locs (cells + 3) (slots + (nb + 10)) Q (F0 m pc ls rest) q9) :
    vx_Note p l e R s m args below meth c H locs cells slots Q (F0 m pc ls rest) cls text := by
  intro T hT X
  have htr : e.platform.stackTraces = false := (show e.platform.stackTraces = l.stackTraces by rw [X.admits.platform]).trans hl
  have Y := vx_rebase X (R' := { frames := R.frames, locals := R.locals, cells := 3, slots := nb + 10 }) (Nat.le_refl _) (Nat.le_refl _) hRcells hRslots
  have hhp : ((T.setVm s.vm).setFrames (.invoking m args :: below)).heap = H := hT
  have hW0 : s.WarmedH ((T.setVm s.vm).setFrames (.invoking m args :: below)).vm := State.WarmedH.refl s
  have hat' : ∀ w ∈ vx_atM cls names, w.before args ((T.setVm s.vm).setFrames (.invoking m args :: below)) = true := fun w hw => vx_ot_at hW0 rfl (hgood w hw) (hat w hw)
  have hU' : vx_Zq Bundle.tN "UNASSIGNED_STACK" Bundle.steD A ((T.setVm s.vm).setFrames (.invoking m args :: below)) ((T.setVm s.vm).setFrames (.invoking m args :: below)).heap := by rw [hhp]; exact vx_Zq.moved hW0.alike (hU.kept hS.2.1)
  have hN' : vx_Zq Bundle.tN "SUPPRESSED_SENTINEL" Bundle.listD A ((T.setVm s.vm).setFrames (.invoking m args :: below)) ((T.setVm s.vm).setFrames (.invoking m args :: below)).heap := by rw [hhp]; exact vx_Zq.moved hW0.alike (hN.kept hS.2.1)
  obtain ⟨S, q, ce, st, Z, hce, hcl', hv⟩ := vx_vmAt Y hexec htr (cls := cls) (names := names) (text := text) hcls hnames hsoe hoom (vx_own hat' (vx_isRefq hU'.1) (vx_isRefq hN'.1) hU'.2.word hN'.2.word) (fun x hx => nomatch hx) htext
    (by rw [Launch.admits_arrayLengthLimit X.admits]; omega) (by rw [Launch.admits_maxHeapBytes X.admits]; simp only [componentBytes]; omega)
    (g := F0 m pc ls rest) rfl hsize hRframes (by show 2 * 0 + (rest.map fun v => v.category).sum + 10240 ≤ R.locals; omega) hshort (by show 0 + 3 ≤ 3; omega) (by show 0 + (_ + 4 + 6) ≤ nb + 10; omega) hlocks
  obtain ⟨f1, f2⟩ := vx_frame Z.same
  have f1' : H.size ≤ S.heap.size := by rw [← hT]; exact f1
  have f2' : ∀ q : Nat, q < H.size → S.heap[q]? = H[q]? := fun q hq => by
    rw [← hT]
    exact f2 q (by rw [← hT] at hq; exact hq) (fun z hz => nomatch hz)
  have X5 := vx_back9 X Y Z
  have X6 : Stand p l e R s m args below meth c S locs (cells + 3) (slots + (nb + 10)) := { X5 with same := X5.same.mono (by omega) (by omega) }
  obtain ⟨t, a1, b1⟩ := k S.heap q ce f1' f2' ⟨Nat.le_trans hS.1 f1', fun q h1 h2 => (f2' q (Nat.lt_of_lt_of_le h1 hS.1)).trans (hS.2.1 q h1 h2), hS.2.2⟩ hce hv hcl' S rfl X6
  exact ⟨t, st t a1, b1⟩
/-- from the machine's note that NullPointerException is thrown here -/
def vx_NoteN (p : Program) (l : Launch) (e : Env) (R : Room) (s : State) (m : MethodId) (args : Array Value) (below : List Frame) (meth : Method) (c : Code) (H : Heap) (locs : List Loc) (cells slots : Nat) (Q : State → Prop) (g : JFrame) : Prop :=
  ∀ T : State, T.heap = H → Stand p l e R s m args below meth c T locs cells slots → ∃ t, Steps p.tables e below ((T.setTop g).pushFrame (.throwNew "java/lang/NullPointerException" none none)) t ∧ Q t
theorem vx_npe {pc : Nat} {ls : Array Slot} {rest : List Value} {Q : State → Prop} (hexec : p.tables.exec = Jvm.exec) (hl : l.stackTraces = false) {nb : Nat} {A : Nat → Prop}
    (hat : ∀ w ∈ vx_atN nb, w.before args s = true) (hgood : ∀ w ∈ vx_atN nb, vx_ot w = true)
    (hU : vx_Zq Bundle.tN "UNASSIGNED_STACK" Bundle.steD A s s.heap) (hN : vx_Zq Bundle.tN "SUPPRESSED_SENTINEL" Bundle.listD A s s.heap) (hS : va_S A s.heap H locs) (hsize : ls.size = c.maxLocals)
    (hRframes : 7 < R.frames) (hRlocals : (rest.map fun v => v.category).sum + 10240 ≤ R.locals) (hRcells : cells + 1 ≤ R.cells) (hRslots : slots + nb ≤ R.slots) (hlocks : meth.locks = false)
    (k : ∀ (H1 : Heap) (q9 : Addr) (ce : Cell), H.size ≤ H1.size → (∀ q : Nat, q < H.size → H1[q]? = H[q]?) → va_S A s.heap H1 locs → H1[q9]? = some ce → ce.vm = .none → s.vm.findClass "java/lang/NullPointerException" = some ce.cls → vx_W p l e R s m args below meth c H1 locs (cells + 1) (slots + nb) Q (F0 m pc ls rest) q9) :
    vx_NoteN p l e R s m args below meth c H locs cells slots Q (F0 m pc ls rest) := by
  intro T hT X
  have htr : e.platform.stackTraces = false := (show e.platform.stackTraces = l.stackTraces by rw [X.admits.platform]).trans hl
  have Y := vx_rebase X (R' := { frames := R.frames, locals := R.locals, cells := 1, slots := nb }) (Nat.le_refl _) (Nat.le_refl _) hRcells hRslots
  have hhp : ((T.setVm s.vm).setFrames (.invoking m args :: below)).heap = H := hT
  have hW0 : s.WarmedH ((T.setVm s.vm).setFrames (.invoking m args :: below)).vm := State.WarmedH.refl s
  have hat' : ∀ w ∈ vx_atN nb, w.before args ((T.setVm s.vm).setFrames (.invoking m args :: below)) = true := fun w hw => vx_ot_at hW0 rfl (hgood w hw) (hat w hw)
  have hU' : vx_Zq Bundle.tN "UNASSIGNED_STACK" Bundle.steD A ((T.setVm s.vm).setFrames (.invoking m args :: below)) ((T.setVm s.vm).setFrames (.invoking m args :: below)).heap := by rw [hhp]; exact vx_Zq.moved hW0.alike (hU.kept hS.2.1)
  have hN' : vx_Zq Bundle.tN "SUPPRESSED_SENTINEL" Bundle.listD A ((T.setVm s.vm).setFrames (.invoking m args :: below)) ((T.setVm s.vm).setFrames (.invoking m args :: below)).heap := by rw [hhp]; exact vx_Zq.moved hW0.alike (hN.kept hS.2.1)
  obtain ⟨S, q, ce, st, Z, hce, hcl', hv⟩ := vx_npeAt Y hexec htr (n := nb) (vx_own hat' (vx_isRefq hU'.1) (vx_isRefq hN'.1) hU'.2.word hN'.2.word) (fun x hx => nomatch hx)
    (g := F0 m pc ls rest) rfl hsize hRframes (by show 2 * 0 + (rest.map fun v => v.category).sum + 10240 ≤ R.locals; omega) (by show 0 + 1 ≤ 1; omega) (by show 0 + nb ≤ nb; omega) hlocks
  obtain ⟨f1, f2⟩ := vx_frame Z.same
  have f1' : H.size ≤ S.heap.size := by rw [← hT]; exact f1
  have f2' : ∀ q : Nat, q < H.size → S.heap[q]? = H[q]? := fun q hq => by
    rw [← hT]
    exact f2 q (by rw [← hT] at hq; exact hq) (fun z hz => nomatch hz)
  have X5 := vx_back9 X Y Z
  have X6 : Stand p l e R s m args below meth c S locs (cells + 1) (slots + nb) := { X5 with same := X5.same.mono (by omega) (by omega) }
  obtain ⟨t, a1, b1⟩ := k S.heap q ce f1' f2' ⟨Nat.le_trans hS.1 f1', fun q h1 h2 => (f2' q (Nat.lt_of_lt_of_le h1 hS.1)).trans (hS.2.1 q h1 h2), hS.2.2⟩ hce hv hcl' S rfl X6
  exact ⟨t, st t a1, b1⟩
variable {Q : State → Prop} {cc : ByteArray} {pc : Nat} {ls : Array Slot} {rest : List Value}
theorem vx_idivZ (hexec : p.tables.exec = Jvm.exec) (hb : c.code = cc) {a b : Int32} (h0 : b = 0) (d : decode cc pc = .ok (.idiv, 1)) (k : vx_Note p l e R s m args below meth c H locs cells slots Q (F0 m pc ls rest) "java/lang/ArithmeticException" "/ by zero") :
    W p l e R s m args below meth c H locs cells slots Q (F0 m pc ls (.int b :: .int a :: rest)) := by
  intro T hT X
  obtain ⟨t, st, q⟩ := k T hT X
  exact ⟨t, X.idivZero hexec (g := F0 m pc ls (.int b :: .int a :: rest)) rfl (a := a) (rest := rest) (by rw [h0]) (by rw [hb]; exact d) t st, q⟩
theorem vx_iremZ (hexec : p.tables.exec = Jvm.exec) (hb : c.code = cc) {a b : Int32} (h0 : b = 0) (d : decode cc pc = .ok (.irem, 1)) (k : vx_Note p l e R s m args below meth c H locs cells slots Q (F0 m pc ls rest) "java/lang/ArithmeticException" "/ by zero") :
    W p l e R s m args below meth c H locs cells slots Q (F0 m pc ls (.int b :: .int a :: rest)) := by
  intro T hT X
  obtain ⟨t, st, q⟩ := k T hT X
  exact ⟨t, X.iremZero hexec (g := F0 m pc ls (.int b :: .int a :: rest)) rfl (a := a) (rest := rest) (by rw [h0]) (by rw [hb]; exact d) t st, q⟩
theorem vx_ldivZ (hexec : p.tables.exec = Jvm.exec) (hb : c.code = cc) {a b : Int64} (h0 : b = 0) (d : decode cc pc = .ok (.ldiv, 1)) (k : vx_Note p l e R s m args below meth c H locs cells slots Q (F0 m pc ls rest) "java/lang/ArithmeticException" "/ by zero") :
    W p l e R s m args below meth c H locs cells slots Q (F0 m pc ls (.long b :: .long a :: rest)) := by
  intro T hT X
  obtain ⟨t, st, q⟩ := k T hT X
  exact ⟨t, X.ldivZero hexec (g := F0 m pc ls (.long b :: .long a :: rest)) rfl (a := a) (rest := rest) (by rw [h0]) (by rw [hb]; exact d) t st, q⟩
theorem vx_lremZ (hexec : p.tables.exec = Jvm.exec) (hb : c.code = cc) {a b : Int64} (h0 : b = 0) (d : decode cc pc = .ok (.lrem, 1)) (k : vx_Note p l e R s m args below meth c H locs cells slots Q (F0 m pc ls rest) "java/lang/ArithmeticException" "/ by zero") :
    W p l e R s m args below meth c H locs cells slots Q (F0 m pc ls (.long b :: .long a :: rest)) := by
  intro T hT X
  obtain ⟨t, st, q⟩ := k T hT X
  exact ⟨t, X.lremZero hexec (g := F0 m pc ls (.long b :: .long a :: rest)) rfl (a := a) (rest := rest) (by rw [h0]) (by rw [hb]; exact d) t st, q⟩
theorem vx_ialdZ {D : va_G} {cl : List vw_C} {ws : va_W} {tys : List (ClassId × FieldType)} {a : Nat} (hexec : p.tables.exec = Jvm.exec) (hb : c.code = cc) (hK : va_K D cl tys s) (hP : va_P D cl ws H) (q0 t0 : Nat) {cA : ClassId} {n : Nat} {f : Nat → Int32} (ha : ws[q0]? = some (a, .inl (cA, n, .inl f))) (ht : tys[t0]? = some (cA, .int)) {i : Int32} (hout : ¬ vp_in i n) (hdg : decode cc pc = .ok (.iaload, 1))
    (k : ∀ tx : String, tx = (toString "Index " ++ toString i ++ toString " out of bounds for length " ++ toString n : String) → vx_Note p l e R s m args below meth c H locs cells slots Q (F0 m pc ls rest) "java/lang/ArrayIndexOutOfBoundsException" tx) : W p l e R s m args below meth c H locs cells slots Q (F0 m pc ls (.int i :: .ref a :: rest)) := by
  intro T hT X
  obtain ⟨t, st, q⟩ := k _ rfl T hT X
  refine ⟨t, ?_, q⟩
  have h1 := X.ialoadOut hexec (by rw [hT]; exact hP q0 _ ha) ((hK.2 t0 _ ht).1 n (fun j => .int (f j))) (j := i) (by show (i < 0 ∨ (arrV _ _ _).slots.size ≤ _); rw [arrV_size]; exact Classical.byContradiction hout) (g := F0 m pc ls (.int i :: .ref a :: rest)) rfl (rest := rest) rfl (by rw [hb]; exact hdg) t
  simp only [arrV_size] at h1
  exact h1 st
theorem vx_iastZ {D : va_G} {cl : List vw_C} {ws : va_W} {tys : List (ClassId × FieldType)} {a : Nat} (hexec : p.tables.exec = Jvm.exec) (hb : c.code = cc) (hK : va_K D cl tys s) (hP : va_P D cl ws H) (q0 t0 : Nat) {cA : ClassId} {n : Nat} {f : Nat → Int32} (ha : ws[q0]? = some (a, .inl (cA, n, .inl f))) (ht : tys[t0]? = some (cA, .int)) {i : Int32} {x : Int32} (hout : ¬ vp_in i n) (hdg : decode cc pc = .ok (.iastore, 1))
    (k : ∀ tx : String, tx = (toString "Index " ++ toString i ++ toString " out of bounds for length " ++ toString n : String) → vx_Note p l e R s m args below meth c H locs cells slots Q (F0 m pc ls rest) "java/lang/ArrayIndexOutOfBoundsException" tx) : W p l e R s m args below meth c H locs cells slots Q (F0 m pc ls (.int x :: .int i :: .ref a :: rest)) := by
  intro T hT X
  obtain ⟨t, st, q⟩ := k _ rfl T hT X
  refine ⟨t, ?_, q⟩
  have h1 := X.iastoreOut hexec (by rw [hT]; exact hP q0 _ ha) ((hK.2 t0 _ ht).1 n (fun j => .int (f j))) (j := i) (by show (i < 0 ∨ (arrV _ _ _).slots.size ≤ _); rw [arrV_size]; exact Classical.byContradiction hout) (g := F0 m pc ls (.int x :: .int i :: .ref a :: rest)) rfl (rest := rest) rfl (by rw [hb]; exact hdg) t
  simp only [arrV_size] at h1
  exact h1 st
theorem vx_baldZ {D : va_G} {cl : List vw_C} {ws : va_W} {tys : List (ClassId × FieldType)} {a : Nat} (hexec : p.tables.exec = Jvm.exec) (hb : c.code = cc) (hK : va_K D cl tys s) (hP : va_P D cl ws H) (q0 t0 : Nat) {cA : ClassId} {n : Nat} {f : Nat → Int32} (ha : ws[q0]? = some (a, .inl (cA, n, .inl f))) (ht : tys[t0]? = some (cA, .byte)) {i : Int32} (hout : ¬ vp_in i n) (hdg : decode cc pc = .ok (.baload, 1))
    (k : ∀ tx : String, tx = (toString "Index " ++ toString i ++ toString " out of bounds for length " ++ toString n : String) → vx_Note p l e R s m args below meth c H locs cells slots Q (F0 m pc ls rest) "java/lang/ArrayIndexOutOfBoundsException" tx) : W p l e R s m args below meth c H locs cells slots Q (F0 m pc ls (.int i :: .ref a :: rest)) := by
  intro T hT X
  obtain ⟨t, st, q⟩ := k _ rfl T hT X
  refine ⟨t, ?_, q⟩
  have h1 := X.baloadOut hexec (by rw [hT]; exact hP q0 _ ha) ((hK.2 t0 _ ht).1 n (fun j => .int (f j))) (j := i) (by show (i < 0 ∨ (arrV _ _ _).slots.size ≤ _); rw [arrV_size]; exact Classical.byContradiction hout) (g := F0 m pc ls (.int i :: .ref a :: rest)) rfl (rest := rest) rfl (by rw [hb]; exact hdg) t
  simp only [arrV_size] at h1
  exact h1 st
theorem vx_bastZ {D : va_G} {cl : List vw_C} {ws : va_W} {tys : List (ClassId × FieldType)} {a : Nat} (hexec : p.tables.exec = Jvm.exec) (hb : c.code = cc) (hK : va_K D cl tys s) (hP : va_P D cl ws H) (q0 t0 : Nat) {cA : ClassId} {n : Nat} {f : Nat → Int32} (ha : ws[q0]? = some (a, .inl (cA, n, .inl f))) (ht : tys[t0]? = some (cA, .byte)) {i : Int32} {x : Int32} (hout : ¬ vp_in i n) (hdg : decode cc pc = .ok (.bastore, 1))
    (k : ∀ tx : String, tx = (toString "Index " ++ toString i ++ toString " out of bounds for length " ++ toString n : String) → vx_Note p l e R s m args below meth c H locs cells slots Q (F0 m pc ls rest) "java/lang/ArrayIndexOutOfBoundsException" tx) : W p l e R s m args below meth c H locs cells slots Q (F0 m pc ls (.int x :: .int i :: .ref a :: rest)) := by
  intro T hT X
  obtain ⟨t, st, q⟩ := k _ rfl T hT X
  refine ⟨t, ?_, q⟩
  have h1 := X.bastoreOut hexec (by rw [hT]; exact hP q0 _ ha) ((hK.2 t0 _ ht).1 n (fun j => .int (f j))) (j := i) (by show (i < 0 ∨ (arrV _ _ _).slots.size ≤ _); rw [arrV_size]; exact Classical.byContradiction hout) (g := F0 m pc ls (.int x :: .int i :: .ref a :: rest)) rfl (rest := rest) rfl (by rw [hb]; exact hdg) t
  simp only [arrV_size] at h1
  exact h1 st
theorem vx_zaldZ {D : va_G} {cl : List vw_C} {ws : va_W} {tys : List (ClassId × FieldType)} {a : Nat} (hexec : p.tables.exec = Jvm.exec) (hb : c.code = cc) (hK : va_K D cl tys s) (hP : va_P D cl ws H) (q0 t0 : Nat) {cA : ClassId} {n : Nat} {f : Nat → Int32} (ha : ws[q0]? = some (a, .inl (cA, n, .inl f))) (ht : tys[t0]? = some (cA, .boolean)) {i : Int32} (hout : ¬ vp_in i n) (hdg : decode cc pc = .ok (.baload, 1))
    (k : ∀ tx : String, tx = (toString "Index " ++ toString i ++ toString " out of bounds for length " ++ toString n : String) → vx_Note p l e R s m args below meth c H locs cells slots Q (F0 m pc ls rest) "java/lang/ArrayIndexOutOfBoundsException" tx) : W p l e R s m args below meth c H locs cells slots Q (F0 m pc ls (.int i :: .ref a :: rest)) := by
  intro T hT X
  obtain ⟨t, st, q⟩ := k _ rfl T hT X
  refine ⟨t, ?_, q⟩
  have h1 := X.baloadOut hexec (by rw [hT]; exact hP q0 _ ha) ((hK.2 t0 _ ht).1 n (fun j => .int (f j))) (j := i) (by show (i < 0 ∨ (arrV _ _ _).slots.size ≤ _); rw [arrV_size]; exact Classical.byContradiction hout) (g := F0 m pc ls (.int i :: .ref a :: rest)) rfl (rest := rest) rfl (by rw [hb]; exact hdg) t
  simp only [arrV_size] at h1
  exact h1 st
theorem vx_zastZ {D : va_G} {cl : List vw_C} {ws : va_W} {tys : List (ClassId × FieldType)} {a : Nat} (hexec : p.tables.exec = Jvm.exec) (hb : c.code = cc) (hK : va_K D cl tys s) (hP : va_P D cl ws H) (q0 t0 : Nat) {cA : ClassId} {n : Nat} {f : Nat → Int32} (ha : ws[q0]? = some (a, .inl (cA, n, .inl f))) (ht : tys[t0]? = some (cA, .boolean)) {i : Int32} {x : Int32} (hout : ¬ vp_in i n) (hdg : decode cc pc = .ok (.bastore, 1))
    (k : ∀ tx : String, tx = (toString "Index " ++ toString i ++ toString " out of bounds for length " ++ toString n : String) → vx_Note p l e R s m args below meth c H locs cells slots Q (F0 m pc ls rest) "java/lang/ArrayIndexOutOfBoundsException" tx) : W p l e R s m args below meth c H locs cells slots Q (F0 m pc ls (.int x :: .int i :: .ref a :: rest)) := by
  intro T hT X
  obtain ⟨t, st, q⟩ := k _ rfl T hT X
  refine ⟨t, ?_, q⟩
  have h1 := X.bastoreOut hexec (by rw [hT]; exact hP q0 _ ha) ((hK.2 t0 _ ht).1 n (fun j => .int (f j))) (j := i) (by show (i < 0 ∨ (arrV _ _ _).slots.size ≤ _); rw [arrV_size]; exact Classical.byContradiction hout) (g := F0 m pc ls (.int x :: .int i :: .ref a :: rest)) rfl (rest := rest) rfl (by rw [hb]; exact hdg) t
  simp only [arrV_size] at h1
  exact h1 st
theorem vx_caldZ {D : va_G} {cl : List vw_C} {ws : va_W} {tys : List (ClassId × FieldType)} {a : Nat} (hexec : p.tables.exec = Jvm.exec) (hb : c.code = cc) (hK : va_K D cl tys s) (hP : va_P D cl ws H) (q0 t0 : Nat) {cA : ClassId} {n : Nat} {f : Nat → Int32} (ha : ws[q0]? = some (a, .inl (cA, n, .inl f))) (ht : tys[t0]? = some (cA, .char)) {i : Int32} (hout : ¬ vp_in i n) (hdg : decode cc pc = .ok (.caload, 1))
    (k : ∀ tx : String, tx = (toString "Index " ++ toString i ++ toString " out of bounds for length " ++ toString n : String) → vx_Note p l e R s m args below meth c H locs cells slots Q (F0 m pc ls rest) "java/lang/ArrayIndexOutOfBoundsException" tx) : W p l e R s m args below meth c H locs cells slots Q (F0 m pc ls (.int i :: .ref a :: rest)) := by
  intro T hT X
  obtain ⟨t, st, q⟩ := k _ rfl T hT X
  refine ⟨t, ?_, q⟩
  have h1 := X.caloadOut hexec (by rw [hT]; exact hP q0 _ ha) ((hK.2 t0 _ ht).1 n (fun j => .int (f j))) (j := i) (by show (i < 0 ∨ (arrV _ _ _).slots.size ≤ _); rw [arrV_size]; exact Classical.byContradiction hout) (g := F0 m pc ls (.int i :: .ref a :: rest)) rfl (rest := rest) rfl (by rw [hb]; exact hdg) t
  simp only [arrV_size] at h1
  exact h1 st
theorem vx_castZ {D : va_G} {cl : List vw_C} {ws : va_W} {tys : List (ClassId × FieldType)} {a : Nat} (hexec : p.tables.exec = Jvm.exec) (hb : c.code = cc) (hK : va_K D cl tys s) (hP : va_P D cl ws H) (q0 t0 : Nat) {cA : ClassId} {n : Nat} {f : Nat → Int32} (ha : ws[q0]? = some (a, .inl (cA, n, .inl f))) (ht : tys[t0]? = some (cA, .char)) {i : Int32} {x : Int32} (hout : ¬ vp_in i n) (hdg : decode cc pc = .ok (.castore, 1))
    (k : ∀ tx : String, tx = (toString "Index " ++ toString i ++ toString " out of bounds for length " ++ toString n : String) → vx_Note p l e R s m args below meth c H locs cells slots Q (F0 m pc ls rest) "java/lang/ArrayIndexOutOfBoundsException" tx) : W p l e R s m args below meth c H locs cells slots Q (F0 m pc ls (.int x :: .int i :: .ref a :: rest)) := by
  intro T hT X
  obtain ⟨t, st, q⟩ := k _ rfl T hT X
  refine ⟨t, ?_, q⟩
  have h1 := X.castoreOut hexec (by rw [hT]; exact hP q0 _ ha) ((hK.2 t0 _ ht).1 n (fun j => .int (f j))) (j := i) (by show (i < 0 ∨ (arrV _ _ _).slots.size ≤ _); rw [arrV_size]; exact Classical.byContradiction hout) (g := F0 m pc ls (.int x :: .int i :: .ref a :: rest)) rfl (rest := rest) rfl (by rw [hb]; exact hdg) t
  simp only [arrV_size] at h1
  exact h1 st
theorem vx_saldZ {D : va_G} {cl : List vw_C} {ws : va_W} {tys : List (ClassId × FieldType)} {a : Nat} (hexec : p.tables.exec = Jvm.exec) (hb : c.code = cc) (hK : va_K D cl tys s) (hP : va_P D cl ws H) (q0 t0 : Nat) {cA : ClassId} {n : Nat} {f : Nat → Int32} (ha : ws[q0]? = some (a, .inl (cA, n, .inl f))) (ht : tys[t0]? = some (cA, .short)) {i : Int32} (hout : ¬ vp_in i n) (hdg : decode cc pc = .ok (.saload, 1))
    (k : ∀ tx : String, tx = (toString "Index " ++ toString i ++ toString " out of bounds for length " ++ toString n : String) → vx_Note p l e R s m args below meth c H locs cells slots Q (F0 m pc ls rest) "java/lang/ArrayIndexOutOfBoundsException" tx) : W p l e R s m args below meth c H locs cells slots Q (F0 m pc ls (.int i :: .ref a :: rest)) := by
  intro T hT X
  obtain ⟨t, st, q⟩ := k _ rfl T hT X
  refine ⟨t, ?_, q⟩
  have h1 := X.saloadOut hexec (by rw [hT]; exact hP q0 _ ha) ((hK.2 t0 _ ht).1 n (fun j => .int (f j))) (j := i) (by show (i < 0 ∨ (arrV _ _ _).slots.size ≤ _); rw [arrV_size]; exact Classical.byContradiction hout) (g := F0 m pc ls (.int i :: .ref a :: rest)) rfl (rest := rest) rfl (by rw [hb]; exact hdg) t
  simp only [arrV_size] at h1
  exact h1 st
theorem vx_sastZ {D : va_G} {cl : List vw_C} {ws : va_W} {tys : List (ClassId × FieldType)} {a : Nat} (hexec : p.tables.exec = Jvm.exec) (hb : c.code = cc) (hK : va_K D cl tys s) (hP : va_P D cl ws H) (q0 t0 : Nat) {cA : ClassId} {n : Nat} {f : Nat → Int32} (ha : ws[q0]? = some (a, .inl (cA, n, .inl f))) (ht : tys[t0]? = some (cA, .short)) {i : Int32} {x : Int32} (hout : ¬ vp_in i n) (hdg : decode cc pc = .ok (.sastore, 1))
    (k : ∀ tx : String, tx = (toString "Index " ++ toString i ++ toString " out of bounds for length " ++ toString n : String) → vx_Note p l e R s m args below meth c H locs cells slots Q (F0 m pc ls rest) "java/lang/ArrayIndexOutOfBoundsException" tx) : W p l e R s m args below meth c H locs cells slots Q (F0 m pc ls (.int x :: .int i :: .ref a :: rest)) := by
  intro T hT X
  obtain ⟨t, st, q⟩ := k _ rfl T hT X
  refine ⟨t, ?_, q⟩
  have h1 := X.sastoreOut hexec (by rw [hT]; exact hP q0 _ ha) ((hK.2 t0 _ ht).1 n (fun j => .int (f j))) (j := i) (by show (i < 0 ∨ (arrV _ _ _).slots.size ≤ _); rw [arrV_size]; exact Classical.byContradiction hout) (g := F0 m pc ls (.int x :: .int i :: .ref a :: rest)) rfl (rest := rest) rfl (by rw [hb]; exact hdg) t
  simp only [arrV_size] at h1
  exact h1 st
theorem vx_laldZ {D : va_G} {cl : List vw_C} {ws : va_W} {tys : List (ClassId × FieldType)} {a : Nat} (hexec : p.tables.exec = Jvm.exec) (hb : c.code = cc) (hK : va_K D cl tys s) (hP : va_P D cl ws H) (q0 t0 : Nat) {cA : ClassId} {n : Nat} {f : Nat → Int64} (ha : ws[q0]? = some (a, .inl (cA, n, .inr (.inl f)))) (ht : tys[t0]? = some (cA, .long)) {i : Int32} (hout : ¬ vp_in i n) (hdg : decode cc pc = .ok (.laload, 1))
    (k : ∀ tx : String, tx = (toString "Index " ++ toString i ++ toString " out of bounds for length " ++ toString n : String) → vx_Note p l e R s m args below meth c H locs cells slots Q (F0 m pc ls rest) "java/lang/ArrayIndexOutOfBoundsException" tx) : W p l e R s m args below meth c H locs cells slots Q (F0 m pc ls (.int i :: .ref a :: rest)) := by
  intro T hT X
  obtain ⟨t, st, q⟩ := k _ rfl T hT X
  refine ⟨t, ?_, q⟩
  have h1 := X.laloadOut hexec (by rw [hT]; exact hP q0 _ ha) ((hK.2 t0 _ ht).1 n (fun j => .long (f j))) (j := i) (by show (i < 0 ∨ (arrV _ _ _).slots.size ≤ _); rw [arrV_size]; exact Classical.byContradiction hout) (g := F0 m pc ls (.int i :: .ref a :: rest)) rfl (rest := rest) rfl (by rw [hb]; exact hdg) t
  simp only [arrV_size] at h1
  exact h1 st
theorem vx_lastZ {D : va_G} {cl : List vw_C} {ws : va_W} {tys : List (ClassId × FieldType)} {a : Nat} (hexec : p.tables.exec = Jvm.exec) (hb : c.code = cc) (hK : va_K D cl tys s) (hP : va_P D cl ws H) (q0 t0 : Nat) {cA : ClassId} {n : Nat} {f : Nat → Int64} (ha : ws[q0]? = some (a, .inl (cA, n, .inr (.inl f)))) (ht : tys[t0]? = some (cA, .long)) {i : Int32} {x : Int64} (hout : ¬ vp_in i n) (hdg : decode cc pc = .ok (.lastore, 1))
    (k : ∀ tx : String, tx = (toString "Index " ++ toString i ++ toString " out of bounds for length " ++ toString n : String) → vx_Note p l e R s m args below meth c H locs cells slots Q (F0 m pc ls rest) "java/lang/ArrayIndexOutOfBoundsException" tx) : W p l e R s m args below meth c H locs cells slots Q (F0 m pc ls (.long x :: .int i :: .ref a :: rest)) := by
  intro T hT X
  obtain ⟨t, st, q⟩ := k _ rfl T hT X
  refine ⟨t, ?_, q⟩
  have h1 := X.lastoreOut hexec (by rw [hT]; exact hP q0 _ ha) ((hK.2 t0 _ ht).1 n (fun j => .long (f j))) (j := i) (by show (i < 0 ∨ (arrV _ _ _).slots.size ≤ _); rw [arrV_size]; exact Classical.byContradiction hout) (g := F0 m pc ls (.long x :: .int i :: .ref a :: rest)) rfl (rest := rest) rfl (by rw [hb]; exact hdg) t
  simp only [arrV_size] at h1
  exact h1 st
theorem vx_faldZ {D : va_G} {cl : List vw_C} {ws : va_W} {tys : List (ClassId × FieldType)} {a : Nat} (hexec : p.tables.exec = Jvm.exec) (hb : c.code = cc) (hK : va_K D cl tys s) (hP : va_P D cl ws H) (q0 t0 : Nat) {cA : ClassId} {n : Nat} {f : Nat → UInt32} (ha : ws[q0]? = some (a, .inl (cA, n, .inr (.inr (.inl f))))) (ht : tys[t0]? = some (cA, .float)) {i : Int32} (hout : ¬ vp_in i n) (hdg : decode cc pc = .ok (.faload, 1))
    (k : ∀ tx : String, tx = (toString "Index " ++ toString i ++ toString " out of bounds for length " ++ toString n : String) → vx_Note p l e R s m args below meth c H locs cells slots Q (F0 m pc ls rest) "java/lang/ArrayIndexOutOfBoundsException" tx) : W p l e R s m args below meth c H locs cells slots Q (F0 m pc ls (.int i :: .ref a :: rest)) := by
  intro T hT X
  obtain ⟨t, st, q⟩ := k _ rfl T hT X
  refine ⟨t, ?_, q⟩
  have h1 := X.faloadOut hexec (by rw [hT]; exact hP q0 _ ha) ((hK.2 t0 _ ht).1 n (fun j => .float (f j))) (j := i) (by show (i < 0 ∨ (arrV _ _ _).slots.size ≤ _); rw [arrV_size]; exact Classical.byContradiction hout) (g := F0 m pc ls (.int i :: .ref a :: rest)) rfl (rest := rest) rfl (by rw [hb]; exact hdg) t
  simp only [arrV_size] at h1
  exact h1 st
theorem vx_fastZ {D : va_G} {cl : List vw_C} {ws : va_W} {tys : List (ClassId × FieldType)} {a : Nat} (hexec : p.tables.exec = Jvm.exec) (hb : c.code = cc) (hK : va_K D cl tys s) (hP : va_P D cl ws H) (q0 t0 : Nat) {cA : ClassId} {n : Nat} {f : Nat → UInt32} (ha : ws[q0]? = some (a, .inl (cA, n, .inr (.inr (.inl f))))) (ht : tys[t0]? = some (cA, .float)) {i : Int32} {x : UInt32} (hout : ¬ vp_in i n) (hdg : decode cc pc = .ok (.fastore, 1))
    (k : ∀ tx : String, tx = (toString "Index " ++ toString i ++ toString " out of bounds for length " ++ toString n : String) → vx_Note p l e R s m args below meth c H locs cells slots Q (F0 m pc ls rest) "java/lang/ArrayIndexOutOfBoundsException" tx) : W p l e R s m args below meth c H locs cells slots Q (F0 m pc ls (.float x :: .int i :: .ref a :: rest)) := by
  intro T hT X
  obtain ⟨t, st, q⟩ := k _ rfl T hT X
  refine ⟨t, ?_, q⟩
  have h1 := X.fastoreOut hexec (by rw [hT]; exact hP q0 _ ha) ((hK.2 t0 _ ht).1 n (fun j => .float (f j))) (j := i) (by show (i < 0 ∨ (arrV _ _ _).slots.size ≤ _); rw [arrV_size]; exact Classical.byContradiction hout) (g := F0 m pc ls (.float x :: .int i :: .ref a :: rest)) rfl (rest := rest) rfl (by rw [hb]; exact hdg) t
  simp only [arrV_size] at h1
  exact h1 st
theorem vx_daldZ {D : va_G} {cl : List vw_C} {ws : va_W} {tys : List (ClassId × FieldType)} {a : Nat} (hexec : p.tables.exec = Jvm.exec) (hb : c.code = cc) (hK : va_K D cl tys s) (hP : va_P D cl ws H) (q0 t0 : Nat) {cA : ClassId} {n : Nat} {f : Nat → UInt64} (ha : ws[q0]? = some (a, .inl (cA, n, .inr (.inr (.inr (.inl f)))))) (ht : tys[t0]? = some (cA, .double)) {i : Int32} (hout : ¬ vp_in i n) (hdg : decode cc pc = .ok (.daload, 1))
    (k : ∀ tx : String, tx = (toString "Index " ++ toString i ++ toString " out of bounds for length " ++ toString n : String) → vx_Note p l e R s m args below meth c H locs cells slots Q (F0 m pc ls rest) "java/lang/ArrayIndexOutOfBoundsException" tx) : W p l e R s m args below meth c H locs cells slots Q (F0 m pc ls (.int i :: .ref a :: rest)) := by
  intro T hT X
  obtain ⟨t, st, q⟩ := k _ rfl T hT X
  refine ⟨t, ?_, q⟩
  have h1 := X.daloadOut hexec (by rw [hT]; exact hP q0 _ ha) ((hK.2 t0 _ ht).1 n (fun j => .double (f j))) (j := i) (by show (i < 0 ∨ (arrV _ _ _).slots.size ≤ _); rw [arrV_size]; exact Classical.byContradiction hout) (g := F0 m pc ls (.int i :: .ref a :: rest)) rfl (rest := rest) rfl (by rw [hb]; exact hdg) t
  simp only [arrV_size] at h1
  exact h1 st
theorem vx_dastZ {D : va_G} {cl : List vw_C} {ws : va_W} {tys : List (ClassId × FieldType)} {a : Nat} (hexec : p.tables.exec = Jvm.exec) (hb : c.code = cc) (hK : va_K D cl tys s) (hP : va_P D cl ws H) (q0 t0 : Nat) {cA : ClassId} {n : Nat} {f : Nat → UInt64} (ha : ws[q0]? = some (a, .inl (cA, n, .inr (.inr (.inr (.inl f)))))) (ht : tys[t0]? = some (cA, .double)) {i : Int32} {x : UInt64} (hout : ¬ vp_in i n) (hdg : decode cc pc = .ok (.dastore, 1))
    (k : ∀ tx : String, tx = (toString "Index " ++ toString i ++ toString " out of bounds for length " ++ toString n : String) → vx_Note p l e R s m args below meth c H locs cells slots Q (F0 m pc ls rest) "java/lang/ArrayIndexOutOfBoundsException" tx) : W p l e R s m args below meth c H locs cells slots Q (F0 m pc ls (.double x :: .int i :: .ref a :: rest)) := by
  intro T hT X
  obtain ⟨t, st, q⟩ := k _ rfl T hT X
  refine ⟨t, ?_, q⟩
  have h1 := X.dastoreOut hexec (by rw [hT]; exact hP q0 _ ha) ((hK.2 t0 _ ht).1 n (fun j => .double (f j))) (j := i) (by show (i < 0 ∨ (arrV _ _ _).slots.size ≤ _); rw [arrV_size]; exact Classical.byContradiction hout) (g := F0 m pc ls (.double x :: .int i :: .ref a :: rest)) rfl (rest := rest) rfl (by rw [hb]; exact hdg) t
  simp only [arrV_size] at h1
  exact h1 st
theorem vx_arraylengthN (hexec : p.tables.exec = Jvm.exec) (hb : c.code = cc) (hdg : decode cc pc = .ok (.arraylength, 1)) (k : vx_NoteN p l e R s m args below meth c H locs cells slots Q (F0 m pc ls rest)) : W p l e R s m args below meth c H locs cells slots Q (F0 m pc ls (.null :: rest)) := by
  intro T hT X
  obtain ⟨t, st, q⟩ := k T hT X
  exact ⟨t, X.arraylengthNull hexec (g := F0 m pc ls (.null :: rest)) rfl (rest := rest) rfl (by rw [hb]; exact hdg) t st, q⟩
theorem vx_ialoadN (hexec : p.tables.exec = Jvm.exec) (hb : c.code = cc) {i : Int32} (hdg : decode cc pc = .ok (.iaload, 1)) (k : vx_NoteN p l e R s m args below meth c H locs cells slots Q (F0 m pc ls rest)) : W p l e R s m args below meth c H locs cells slots Q (F0 m pc ls (.int i :: .null :: rest)) := by
  intro T hT X
  obtain ⟨t, st, q⟩ := k T hT X
  exact ⟨t, X.ialoadNull hexec (g := F0 m pc ls (.int i :: .null :: rest)) rfl (rest := rest) rfl (by rw [hb]; exact hdg) t st, q⟩
theorem vx_laloadN (hexec : p.tables.exec = Jvm.exec) (hb : c.code = cc) {i : Int32} (hdg : decode cc pc = .ok (.laload, 1)) (k : vx_NoteN p l e R s m args below meth c H locs cells slots Q (F0 m pc ls rest)) : W p l e R s m args below meth c H locs cells slots Q (F0 m pc ls (.int i :: .null :: rest)) := by
  intro T hT X
  obtain ⟨t, st, q⟩ := k T hT X
  exact ⟨t, X.laloadNull hexec (g := F0 m pc ls (.int i :: .null :: rest)) rfl (rest := rest) rfl (by rw [hb]; exact hdg) t st, q⟩
theorem vx_faloadN (hexec : p.tables.exec = Jvm.exec) (hb : c.code = cc) {i : Int32} (hdg : decode cc pc = .ok (.faload, 1)) (k : vx_NoteN p l e R s m args below meth c H locs cells slots Q (F0 m pc ls rest)) : W p l e R s m args below meth c H locs cells slots Q (F0 m pc ls (.int i :: .null :: rest)) := by
  intro T hT X
  obtain ⟨t, st, q⟩ := k T hT X
  exact ⟨t, X.faloadNull hexec (g := F0 m pc ls (.int i :: .null :: rest)) rfl (rest := rest) rfl (by rw [hb]; exact hdg) t st, q⟩
theorem vx_daloadN (hexec : p.tables.exec = Jvm.exec) (hb : c.code = cc) {i : Int32} (hdg : decode cc pc = .ok (.daload, 1)) (k : vx_NoteN p l e R s m args below meth c H locs cells slots Q (F0 m pc ls rest)) : W p l e R s m args below meth c H locs cells slots Q (F0 m pc ls (.int i :: .null :: rest)) := by
  intro T hT X
  obtain ⟨t, st, q⟩ := k T hT X
  exact ⟨t, X.daloadNull hexec (g := F0 m pc ls (.int i :: .null :: rest)) rfl (rest := rest) rfl (by rw [hb]; exact hdg) t st, q⟩
theorem vx_aaloadN (hexec : p.tables.exec = Jvm.exec) (hb : c.code = cc) {i : Int32} (hdg : decode cc pc = .ok (.aaload, 1)) (k : vx_NoteN p l e R s m args below meth c H locs cells slots Q (F0 m pc ls rest)) : W p l e R s m args below meth c H locs cells slots Q (F0 m pc ls (.int i :: .null :: rest)) := by
  intro T hT X
  obtain ⟨t, st, q⟩ := k T hT X
  exact ⟨t, X.aaloadNull hexec (g := F0 m pc ls (.int i :: .null :: rest)) rfl (rest := rest) rfl (by rw [hb]; exact hdg) t st, q⟩
theorem vx_baloadN (hexec : p.tables.exec = Jvm.exec) (hb : c.code = cc) {i : Int32} (hdg : decode cc pc = .ok (.baload, 1)) (k : vx_NoteN p l e R s m args below meth c H locs cells slots Q (F0 m pc ls rest)) : W p l e R s m args below meth c H locs cells slots Q (F0 m pc ls (.int i :: .null :: rest)) := by
  intro T hT X
  obtain ⟨t, st, q⟩ := k T hT X
  exact ⟨t, X.baloadNull hexec (g := F0 m pc ls (.int i :: .null :: rest)) rfl (rest := rest) rfl (by rw [hb]; exact hdg) t st, q⟩
theorem vx_caloadN (hexec : p.tables.exec = Jvm.exec) (hb : c.code = cc) {i : Int32} (hdg : decode cc pc = .ok (.caload, 1)) (k : vx_NoteN p l e R s m args below meth c H locs cells slots Q (F0 m pc ls rest)) : W p l e R s m args below meth c H locs cells slots Q (F0 m pc ls (.int i :: .null :: rest)) := by
  intro T hT X
  obtain ⟨t, st, q⟩ := k T hT X
  exact ⟨t, X.caloadNull hexec (g := F0 m pc ls (.int i :: .null :: rest)) rfl (rest := rest) rfl (by rw [hb]; exact hdg) t st, q⟩
theorem vx_saloadN (hexec : p.tables.exec = Jvm.exec) (hb : c.code = cc) {i : Int32} (hdg : decode cc pc = .ok (.saload, 1)) (k : vx_NoteN p l e R s m args below meth c H locs cells slots Q (F0 m pc ls rest)) : W p l e R s m args below meth c H locs cells slots Q (F0 m pc ls (.int i :: .null :: rest)) := by
  intro T hT X
  obtain ⟨t, st, q⟩ := k T hT X
  exact ⟨t, X.saloadNull hexec (g := F0 m pc ls (.int i :: .null :: rest)) rfl (rest := rest) rfl (by rw [hb]; exact hdg) t st, q⟩
theorem vx_iastoreN (hexec : p.tables.exec = Jvm.exec) (hb : c.code = cc) {x : Int32} {i : Int32} (hdg : decode cc pc = .ok (.iastore, 1)) (k : vx_NoteN p l e R s m args below meth c H locs cells slots Q (F0 m pc ls rest)) : W p l e R s m args below meth c H locs cells slots Q (F0 m pc ls (.int x :: .int i :: .null :: rest)) := by
  intro T hT X
  obtain ⟨t, st, q⟩ := k T hT X
  exact ⟨t, X.iastoreNull hexec (g := F0 m pc ls (.int x :: .int i :: .null :: rest)) rfl (rest := rest) rfl (by rw [hb]; exact hdg) t st, q⟩
theorem vx_lastoreN (hexec : p.tables.exec = Jvm.exec) (hb : c.code = cc) {x : Int64} {i : Int32} (hdg : decode cc pc = .ok (.lastore, 1)) (k : vx_NoteN p l e R s m args below meth c H locs cells slots Q (F0 m pc ls rest)) : W p l e R s m args below meth c H locs cells slots Q (F0 m pc ls (.long x :: .int i :: .null :: rest)) := by
  intro T hT X
  obtain ⟨t, st, q⟩ := k T hT X
  exact ⟨t, X.lastoreNull hexec (g := F0 m pc ls (.long x :: .int i :: .null :: rest)) rfl (rest := rest) rfl (by rw [hb]; exact hdg) t st, q⟩
theorem vx_fastoreN (hexec : p.tables.exec = Jvm.exec) (hb : c.code = cc) {x : UInt32} {i : Int32} (hdg : decode cc pc = .ok (.fastore, 1)) (k : vx_NoteN p l e R s m args below meth c H locs cells slots Q (F0 m pc ls rest)) : W p l e R s m args below meth c H locs cells slots Q (F0 m pc ls (.float x :: .int i :: .null :: rest)) := by
  intro T hT X
  obtain ⟨t, st, q⟩ := k T hT X
  exact ⟨t, X.fastoreNull hexec (g := F0 m pc ls (.float x :: .int i :: .null :: rest)) rfl (rest := rest) rfl (by rw [hb]; exact hdg) t st, q⟩
theorem vx_dastoreN (hexec : p.tables.exec = Jvm.exec) (hb : c.code = cc) {x : UInt64} {i : Int32} (hdg : decode cc pc = .ok (.dastore, 1)) (k : vx_NoteN p l e R s m args below meth c H locs cells slots Q (F0 m pc ls rest)) : W p l e R s m args below meth c H locs cells slots Q (F0 m pc ls (.double x :: .int i :: .null :: rest)) := by
  intro T hT X
  obtain ⟨t, st, q⟩ := k T hT X
  exact ⟨t, X.dastoreNull hexec (g := F0 m pc ls (.double x :: .int i :: .null :: rest)) rfl (rest := rest) rfl (by rw [hb]; exact hdg) t st, q⟩
theorem vx_bastoreN (hexec : p.tables.exec = Jvm.exec) (hb : c.code = cc) {x : Int32} {i : Int32} (hdg : decode cc pc = .ok (.bastore, 1)) (k : vx_NoteN p l e R s m args below meth c H locs cells slots Q (F0 m pc ls rest)) : W p l e R s m args below meth c H locs cells slots Q (F0 m pc ls (.int x :: .int i :: .null :: rest)) := by
  intro T hT X
  obtain ⟨t, st, q⟩ := k T hT X
  exact ⟨t, X.bastoreNull hexec (g := F0 m pc ls (.int x :: .int i :: .null :: rest)) rfl (rest := rest) rfl (by rw [hb]; exact hdg) t st, q⟩
theorem vx_castoreN (hexec : p.tables.exec = Jvm.exec) (hb : c.code = cc) {x : Int32} {i : Int32} (hdg : decode cc pc = .ok (.castore, 1)) (k : vx_NoteN p l e R s m args below meth c H locs cells slots Q (F0 m pc ls rest)) : W p l e R s m args below meth c H locs cells slots Q (F0 m pc ls (.int x :: .int i :: .null :: rest)) := by
  intro T hT X
  obtain ⟨t, st, q⟩ := k T hT X
  exact ⟨t, X.castoreNull hexec (g := F0 m pc ls (.int x :: .int i :: .null :: rest)) rfl (rest := rest) rfl (by rw [hb]; exact hdg) t st, q⟩
theorem vx_sastoreN (hexec : p.tables.exec = Jvm.exec) (hb : c.code = cc) {x : Int32} {i : Int32} (hdg : decode cc pc = .ok (.sastore, 1)) (k : vx_NoteN p l e R s m args below meth c H locs cells slots Q (F0 m pc ls rest)) : W p l e R s m args below meth c H locs cells slots Q (F0 m pc ls (.int x :: .int i :: .null :: rest)) := by
  intro T hT X
  obtain ⟨t, st, q⟩ := k T hT X
  exact ⟨t, X.sastoreNull hexec (g := F0 m pc ls (.int x :: .int i :: .null :: rest)) rfl (rest := rest) rfl (by rw [hb]; exact hdg) t st, q⟩
theorem vx_invokeN {own C : String} {index maxL : Nat} {y : MethodName} {bytes : ByteArray} {ret : Option FieldType} (hexec : p.tables.exec = Jvm.exec) (hb : c.code = cc) (hown : s.vm.findClass own = some m.cls) (hlink : (Cond.methodLink own index y).before args s = true) (hinst : (Cond.instanceMethod y).before args s = true) (hcode : (Cond.code y bytes maxL ret).before args s = true) (hsel : (Cond.selects C y y).before args s = true)
    (hx : y.cls ≠ "java/lang/invoke/MethodHandle" ∧ y.cls ≠ "java/lang/invoke/VarHandle") {As : List Value} (hlen : (parseMethodDescriptor y.desc).map (fun d => d.parameters.length) = some As.length) (hdg : decode cc pc = .ok (.invokevirtual index, 3))
    (k : vx_NoteN p l e R s m args below meth c H locs cells slots Q (F0 m pc ls rest)) {st0 : List Value} (hst : st0 = As.reverse ++ .null :: rest) : W p l e R s m args below meth c H locs cells slots Q (F0 m pc ls st0) := by
  intro T hT X
  obtain ⟨r0, r, hn, hrm, hstR, hsigR⟩ := va_Decl.of hinst hcode
  obtain ⟨c2, r2, m2, q1, q2, q3, q4, kP, hkP, hkPi⟩ := Cond.selects_spec hsel
  cases hn.symm.trans q3
  have hl9 : As.length = r.sig.parameters.length := by
    rw [hsigR] at hlen
    exact (Option.some.inj hlen).symm
  obtain ⟨vm', X1, st1⟩ := X.invokevirtualNull hexec hown hlink hn hrm hstR hkP hkPi hx (g := F0 m pc ls st0) rfl (argsL := As) (rest := rest) hl9 hst (by rw [hb]; exact hdg)
  obtain ⟨t, st, q⟩ := k (T.setVm vm') hT X1
  exact ⟨t, st1 t st, q⟩
theorem vx_newarrayZ {atype : ArrayType} (hexec : p.tables.exec = Jvm.exec) (hb : c.code = cc) {n : Int32} (h0 : n < 0) (hdg : decode cc pc = .ok (.newarray atype, 2)) (k : ∀ tx : String, tx = toString n → vx_Note p l e R s m args below meth c H locs cells slots Q (F0 m pc ls rest) "java/lang/NegativeArraySizeException" tx) : W p l e R s m args below meth c H locs cells slots Q (F0 m pc ls (.int n :: rest)) := by
  intro T hT X
  obtain ⟨t, st, q⟩ := k _ rfl T hT X
  exact ⟨t, X.newarrayNegative hexec (g := F0 m pc ls (.int n :: rest)) rfl h0 (rest := rest) rfl (by rw [hb]; exact hdg) t st, q⟩
end
end VXM
/-! ===== END ===== -/
/-! ===== BEGIN an exception as an object: made, kept, thrown later (no traces kept) ===== -/
section VXK
variable {p : Program} {l : Launch} {e : Env} {R : Room} {s : State} {m₀ : MethodId} {args : Array Value} {below : List Frame} {meth : Method} {c : Code} {W : State} {locs : List Loc} {cells slots : Nat}
set_option maxHeartbeats 1000000 in
theorem vx_ctorMadeS (X : Stand p l e R s m₀ args below meth c W locs cells slots) (hexec : p.tables.exec = Jvm.exec) (htr : e.platform.stackTraces = false) {own cls : String} {names : List String} {ic : Nat}
    (hown : s.vm.findClass own = some m₀.cls) (hcls : Bundle.fit cls = true) (hnames : ∀ n ∈ names, Bundle.fit n = true)
    (h : ∀ a ∈ Bundle.ownAtoms own ic cls names, a.before args s = true)
    (hlocs : ∀ x ∈ locs, ∀ cell, s.heap[x.base]? = some cell → cell.vm.isStatics = false)
    {a : Addr} {cX : ClassId} {kX : Class} (hfoundX : s.vm.findClass cls = some cX) (hkX : s.vm.classes[cX]? = some kX) (hcell : W.heap[a]? = some (freshCell cX kX)) (hnew : s.heap.size ≤ a)
    {msg : Value} (hmsg : msg.isRef = true)
    {g : JFrame} (hg : g.method = m₀) (hsize : g.locals.size = c.maxLocals) {rest : List Value} (hstack : g.stack = msg :: .ref a :: .ref a :: rest)
    (hd6 : decode c.code g.pc = .ok (.invokespecial ic, 3))
    (hRframes : names.length + 3 < R.frames) (hRlocals : 2 * g.monitorRoom + ((Value.ref a :: rest).map fun v => v.category).sum + (13 * (names.length + 1) + 42) ≤ R.locals) :
    ∃ (V : State) (ce : Cell) (L : List Loc), Stand p l e R s m₀ args below meth c (V.setCell a ce) (locs ++ L) cells slots ∧ (∀ y ∈ L, y.base = a) ∧ a < V.heap.size ∧ ce.cls = cX ∧ ce.vm = .none ∧
      ∀ target, Steps p.tables e below ((V.setCell a ce).setTop { g with stack := .ref a :: rest, pc := g.pc + 3 }) target → Steps p.tables e below (W.setTop g) target := by
  have howns : e.platform.frameOwnsMonitors = true := by rw [X.admits.platform]
  have hfin : e.platform.finalization = false := by rw [X.admits.platform]
  have hpl : e.platform.magicAccessors = ({} : Platform).magicAccessors := by rw [X.admits.platform]
  have a' : ∀ x, x ∈ Bundle.ownAtoms own ic cls names → x.holds args s none s [] = true := fun x hx => h x hx
  obtain ⟨T, Z0, L, -, Y⟩ := ThrowableC.of_atoms (args := args) howns hfin hpl (fun x hx => h x (by simp [Bundle.ownAtoms, hx]))
  obtain ⟨Z, M, LZ, LM, hnZ⟩ := Init0T.ofS_atoms (args := args) hpl L Y (fun x hx => h x (by simp [Bundle.ownAtoms, hx]))
  obtain ⟨P1, Ps, hlen, L1, hL, hP1m, hlink1, hlink⟩ := Bundle.chainS (args := args) hpl hnZ names cls hcls hnames (fun x hx => h x (by simp [Bundle.ownAtoms, hx]))
  have hfound : s.vm.findClass cls = some P1.m.cls := findClass_of_methodNamed hP1m
  cases Option.some.inj (hfoundX.symm.trans hfound)
  obtain ⟨c1, kX', hc1, hk, hord, -, -, hn6⟩ := Cond.instantiable_spec (a' (.instantiable cls 6) (by simp [Bundle.ownAtoms]))
  cases Option.some.inj (hc1.symm.trans hfound)
  cases Option.some.inj (hkX.symm.trans hk)
  have hsel0 : selectMethod e.platform s.vm P1.m.cls T.fill0 = .method T.fill0 := by
    obtain ⟨c2, r2, m2, q1, q2, q3, q4, -⟩ := Cond.selects_spec (a' (.selects cls Bundle.tFill0 Bundle.tFill0) (by simp [Bundle.ownAtoms]))
    cases Option.some.inj (q1.symm.trans hfound)
    cases Option.some.inj (q2.symm.trans (State.methodFound?_of_named Y.fill0 (by decide)))
    cases Option.some.inj (q3.symm.trans Y.fill0)
    rw [Launch.admits_selectMethod X.admits]; exact q4
  have hselF : selectMethod e.platform s.vm P1.m.cls T.fill = .method T.fill := by
    obtain ⟨c2, r2, m2, q1, q2, q3, q4, -⟩ := Cond.selects_spec (a' (.selects cls Bundle.tFill Bundle.tFill) (by simp [Bundle.ownAtoms]))
    cases Option.some.inj (q1.symm.trans hfound)
    cases Option.some.inj (q2.symm.trans (State.methodFound?_of_named Y.fill (by decide)))
    cases Option.some.inj (q3.symm.trans Y.fill)
    rw [Launch.admits_selectMethod X.admits]; exact q4
  obtain ⟨cellS0, hcS0, hiss⟩ := Y.statics
  obtain ⟨u0, hu0⟩ := Cond.staticRefV Y.unassigned L.unassignedStatic L.statics hcS0 hiss (a' (.isRef (.static Bundle.tN "UNASSIGNED_STACK" Bundle.steD)) (by simp [Bundle.ownAtoms]))
  obtain ⟨sen, hsen⟩ := Cond.staticRefV Y.sentinel L.sentinelStatic L.statics hcS0 hiss (a' (.isRef (.static Bundle.tN "SUPPRESSED_SENTINEL" Bundle.listD)) (by simp [Bundle.ownAtoms]))
  obtain ⟨ci198, i198, fB, hk198, hg198, ha198, hsB, -, hnB, htB, hffB⟩ := Cond.ownField (t := .object "java/lang/Object") Y.found L.cls (by decide +kernel) (a' (.fieldLink Bundle.tN 198 Bundle.tN "backtrace" "Ljava/lang/Object;") (by simp [Bundle.ownAtoms])) (a' (.lays Bundle.tN Bundle.tN "backtrace" "Ljava/lang/Object;") (by simp [Bundle.ownAtoms])) e.platform hpl
  obtain ⟨cellS, hcS', heS, -, hkeep⟩ := X.same.2.2.2.2.2 T.aS cellS0 hcS0
  have hcellS : W.heap[T.aS]? = some cellS := hcS'
  have hout' : ∀ i, (⟨T.aS, i⟩ : Loc) ∉ locs := fun i hmem => by
    have := hlocs _ hmem cellS0 hcS0
    rw [hiss] at this; cases this
  have hknownS : cellS.vm ≠ .unknown := by
    rw [heS]; intro hu
    rw [show cellS0.vm = .unknown from hu] at hiss
    cases hiss
  have hneS : T.aS ≠ a := Nat.ne_of_lt (Nat.lt_of_lt_of_le (Array.getElem?_eq_some_iff.mp hcS0).1 hnew)
  obtain ⟨iM, hffM⟩ := Y.msg
  obtain ⟨tyC, dC, hdC, hdnC⟩ := Cond.laysAt hfound hk Y.cause (a' (.lays cls Bundle.tN "cause" "Ljava/lang/Throwable;") (by simp [Bundle.ownAtoms]))
  obtain ⟨tyS, dS, hdS, hdnS⟩ := Cond.laysAt hfound hk Y.stack (a' (.lays cls Bundle.tN "stackTrace" Bundle.steD) (by simp [Bundle.ownAtoms]))
  obtain ⟨tyP, dP, hdP, hdnP⟩ := Cond.laysAt hfound hk Y.supp (a' (.lays cls Bundle.tN "suppressedExceptions" Bundle.listD) (by simp [Bundle.ownAtoms]))
  obtain ⟨tyM, dM, hdM, hdnM⟩ := Cond.laysAt hfound hk hffM (a' (.lays cls Bundle.tN "detailMessage" "Ljava/lang/String;") (by simp [Bundle.ownAtoms]))
  obtain ⟨tyB, dB, hdB, hdnB⟩ := Cond.laysAt hfound hk hffB (a' (.lays cls Bundle.tN "backtrace" "Ljava/lang/Object;") (by simp [Bundle.ownAtoms]))
  have bC := Cond.laysApart hdB hdC hdnB hdnC (by rw [hnB, Y.causeName]; decide)
  have bS := Cond.laysApart hdB hdS hdnB hdnS (by rw [hnB, Y.stackName]; decide)
  have bP := Cond.laysApart hdB hdP hdnB hdnP (by rw [hnB, Y.suppName]; decide)
  have hskip : SkipFacts T e.platform s (fun u => u) u0 ((preparedCellV T.toThrowableT (freshCell P1.m.cls kX) a u0 sen).withEntry W.cur) :=
    ⟨{ ci198 := ci198, i198 := i198, fBack := fB }, ⟨hk198, hg198, ha198, hsB⟩, by
      have := fresh_default (c := P1.m.cls) tyB
      rw [htB] at this
      simpa [preparedCellV, Cell.setSlot, Cell.withEntry, Array.getElem?_setIfInBounds, bC, bS, bP, bC.symm, bS.symm, bP.symm, defaultValue] using this, fun _ _ => rfl⟩
  obtain ⟨tm, methC, cdC, kC, vm₁, hnC, -, -, -, -, -, -, -, hW₁, st1⟩ := Steps.initColdS (tb := p.tables) (e := e) (below := below) (s := s) (U := W) X.here hexec X.warmed hpl hown (t := Bundle.initS cls) rfl rfl (Bundle.fit_spec hcls).2
    (a' (.methodLink own ic (Bundle.initS cls)) (by simp [Bundle.ownAtoms])) (h (.instanceMethod (Bundle.initS cls)) (by cases names <;> simp [Bundle.ownAtoms, Bundle.chainSAtoms, Bundle.passSAtoms])) (bytes := Bundle.six) (maxL := 2) (h (.code (Bundle.initS cls) Bundle.six 2 none) (by cases names <;> simp [Bundle.ownAtoms, Bundle.chainSAtoms, Bundle.passSAtoms]))
    (f := g) hg (a := a) (msg := msg) (rest := .ref a :: rest) hstack hd6
  cases Option.some.inj (hnC.symm.trans hP1m)
  have X₁ := X.noted hW₁
  obtain ⟨vm₂, X₂, st2⟩ := X₁.ctorMessageOffV hexec (g := { g with stack := .ref a :: rest }) hg hsize T L Z LZ M LM (P1 :: Ps)
    (fun P hP => by rcases List.mem_cons.mp hP with rfl | hP; exact L1; exact hL P hP) ⟨hlink1, hlink⟩ (u0 := u0) (sen := sen) (self := a) hmsg (cell := freshCell P1.m.cls kX) (cellS := cellS)
    hcell (fun _ => by simp) (by simp) rfl rfl hsel0 hselF hcellS hneS hknownS (by rw [hkeep _ (hout' _)]; exact hu0) (by rw [hkeep _ (hout' _)]; exact hsen)
    (Takes.of_laid hk hord tyC (by rw [Y.causeType]; rfl)) (Takes.of_laid hk hord tyS (by rw [Y.stackType]; exact fits_refV_array _ u0)) (Takes.of_laid hk hord tyP (by rw [Y.suppType]; exact fits_refV_object _ sen))
    (Takes.of_laid hk hord tyM (by rw [Y.msgType]; exact fits_refV_object _ ⟨msg, hmsg⟩)) Y.objLocals hskip htr [] hd6
    (by simp only [List.length_cons, hlen]; omega) (by simp only [List.length_cons, hlen]; exact hRlocals)
  have hlt : a < ((W.setVm vm₁).setVm vm₂).heap.size := (Array.getElem?_eq_some_iff.mp hcell).1
  refine ⟨(W.setVm vm₁).setVm vm₂, _, _, X₂, fun y hy => ?_, hlt, rfl, rfl, fun target hwalk => st1 _ (fun acts => ?_)⟩
  · simp only [List.mem_cons, List.not_mem_nil, or_false] at hy
    rcases hy with rfl | rfl | rfl | rfl | rfl <;> rfl
  · rw [doInvoke_state]
    exact st2 _ hwalk
set_option maxHeartbeats 1000000 in
theorem vx_ctorMade0 (X : Stand p l e R s m₀ args below meth c W locs cells slots) (hexec : p.tables.exec = Jvm.exec) (htr : e.platform.stackTraces = false) {own cls : String} {names : List String} {ic : Nat}
    (hown : s.vm.findClass own = some m₀.cls) (hcls : Bundle.fit cls = true) (hnames : ∀ n ∈ names, Bundle.fit n = true)
    (h : ∀ a ∈ Bundle.ownAtoms0 own ic cls names, a.before args s = true)
    (hlocs : ∀ x ∈ locs, ∀ cell, s.heap[x.base]? = some cell → cell.vm.isStatics = false)
    {a : Addr} {cX : ClassId} {kX : Class} (hfoundX : s.vm.findClass cls = some cX) (hkX : s.vm.classes[cX]? = some kX) (hcell : W.heap[a]? = some (freshCell cX kX)) (hnew : s.heap.size ≤ a)
    {g : JFrame} (hg : g.method = m₀) (hsize : g.locals.size = c.maxLocals) {rest : List Value} (hstack : g.stack = .ref a :: .ref a :: rest)
    (hd6 : decode c.code g.pc = .ok (.invokespecial ic, 3))
    (hRframes : names.length + 3 < R.frames) (hRlocals : 2 * g.monitorRoom + ((Value.ref a :: rest).map fun v => v.category).sum + (13 * (names.length + 1) + 41) ≤ R.locals) :
    ∃ (V : State) (ce : Cell) (L : List Loc), Stand p l e R s m₀ args below meth c (V.setCell a ce) (locs ++ L) cells slots ∧ (∀ y ∈ L, y.base = a) ∧ a < V.heap.size ∧ ce.cls = cX ∧ ce.vm = .none ∧
      ∀ target, Steps p.tables e below ((V.setCell a ce).setTop { g with stack := .ref a :: rest, pc := g.pc + 3 }) target → Steps p.tables e below (W.setTop g) target := by
  have howns : e.platform.frameOwnsMonitors = true := by rw [X.admits.platform]
  have hfin : e.platform.finalization = false := by rw [X.admits.platform]
  have hpl : e.platform.magicAccessors = ({} : Platform).magicAccessors := by rw [X.admits.platform]
  have a' : ∀ x, x ∈ Bundle.ownAtoms0 own ic cls names → x.holds args s none s [] = true := fun x hx => h x hx
  obtain ⟨T, Z, L, LZ, Y⟩ := ThrowableC.of_atoms (args := args) howns hfin hpl (fun x hx => h x (by simp [Bundle.ownAtoms0, hx]))
  obtain ⟨P1, Ps, hlen, L1, hL, hP1m, hlink1, hlink⟩ := Bundle.chain0 (args := args) hpl Y.init0 names cls hcls hnames (fun x hx => h x (by simp [Bundle.ownAtoms0, hx]))
  have hfound : s.vm.findClass cls = some P1.m.cls := findClass_of_methodNamed hP1m
  cases Option.some.inj (hfoundX.symm.trans hfound)
  obtain ⟨c1, kX', hc1, hk, hord, -, -, hn6⟩ := Cond.instantiable_spec (a' (.instantiable cls 6) (by simp [Bundle.ownAtoms0]))
  cases Option.some.inj (hc1.symm.trans hfound)
  cases Option.some.inj (hkX.symm.trans hk)
  have hsel0 : selectMethod e.platform s.vm P1.m.cls T.fill0 = .method T.fill0 := by
    obtain ⟨c2, r2, m2, q1, q2, q3, q4, -⟩ := Cond.selects_spec (a' (.selects cls Bundle.tFill0 Bundle.tFill0) (by simp [Bundle.ownAtoms0]))
    cases Option.some.inj (q1.symm.trans hfound)
    cases Option.some.inj (q2.symm.trans (State.methodFound?_of_named Y.fill0 (by decide)))
    cases Option.some.inj (q3.symm.trans Y.fill0)
    rw [Launch.admits_selectMethod X.admits]; exact q4
  have hselF : selectMethod e.platform s.vm P1.m.cls T.fill = .method T.fill := by
    obtain ⟨c2, r2, m2, q1, q2, q3, q4, -⟩ := Cond.selects_spec (a' (.selects cls Bundle.tFill Bundle.tFill) (by simp [Bundle.ownAtoms0]))
    cases Option.some.inj (q1.symm.trans hfound)
    cases Option.some.inj (q2.symm.trans (State.methodFound?_of_named Y.fill (by decide)))
    cases Option.some.inj (q3.symm.trans Y.fill)
    rw [Launch.admits_selectMethod X.admits]; exact q4
  obtain ⟨cellS0, hcS0, hiss⟩ := Y.statics
  obtain ⟨u0, hu0⟩ := Cond.staticRefV Y.unassigned L.unassignedStatic L.statics hcS0 hiss (a' (.isRef (.static Bundle.tN "UNASSIGNED_STACK" Bundle.steD)) (by simp [Bundle.ownAtoms0]))
  obtain ⟨sen, hsen⟩ := Cond.staticRefV Y.sentinel L.sentinelStatic L.statics hcS0 hiss (a' (.isRef (.static Bundle.tN "SUPPRESSED_SENTINEL" Bundle.listD)) (by simp [Bundle.ownAtoms0]))
  obtain ⟨ci198, i198, fB, hk198, hg198, ha198, hsB, -, hnB, htB, hffB⟩ := Cond.ownField (t := .object "java/lang/Object") Y.found L.cls (by decide +kernel) (a' (.fieldLink Bundle.tN 198 Bundle.tN "backtrace" "Ljava/lang/Object;") (by simp [Bundle.ownAtoms0])) (a' (.lays Bundle.tN Bundle.tN "backtrace" "Ljava/lang/Object;") (by simp [Bundle.ownAtoms0])) e.platform hpl
  obtain ⟨cellS, hcS', heS, -, hkeep⟩ := X.same.2.2.2.2.2 T.aS cellS0 hcS0
  have hcellS : W.heap[T.aS]? = some cellS := hcS'
  have hout' : ∀ i, (⟨T.aS, i⟩ : Loc) ∉ locs := fun i hmem => by
    have := hlocs _ hmem cellS0 hcS0
    rw [hiss] at this; cases this
  have hknownS : cellS.vm ≠ .unknown := by
    rw [heS]; intro hu
    rw [show cellS0.vm = .unknown from hu] at hiss
    cases hiss
  have hneS : T.aS ≠ a := Nat.ne_of_lt (Nat.lt_of_lt_of_le (Array.getElem?_eq_some_iff.mp hcS0).1 hnew)
  obtain ⟨iM, hffM⟩ := Y.msg
  obtain ⟨tyC, dC, hdC, hdnC⟩ := Cond.laysAt hfound hk Y.cause (a' (.lays cls Bundle.tN "cause" "Ljava/lang/Throwable;") (by simp [Bundle.ownAtoms0]))
  obtain ⟨tyS, dS, hdS, hdnS⟩ := Cond.laysAt hfound hk Y.stack (a' (.lays cls Bundle.tN "stackTrace" Bundle.steD) (by simp [Bundle.ownAtoms0]))
  obtain ⟨tyP, dP, hdP, hdnP⟩ := Cond.laysAt hfound hk Y.supp (a' (.lays cls Bundle.tN "suppressedExceptions" Bundle.listD) (by simp [Bundle.ownAtoms0]))
  obtain ⟨tyM, dM, hdM, hdnM⟩ := Cond.laysAt hfound hk hffM (a' (.lays cls Bundle.tN "detailMessage" "Ljava/lang/String;") (by simp [Bundle.ownAtoms0]))
  obtain ⟨tyB, dB, hdB, hdnB⟩ := Cond.laysAt hfound hk hffB (a' (.lays cls Bundle.tN "backtrace" "Ljava/lang/Object;") (by simp [Bundle.ownAtoms0]))
  have bC := Cond.laysApart hdB hdC hdnB hdnC (by rw [hnB, Y.causeName]; decide)
  have bS := Cond.laysApart hdB hdS hdnB hdnS (by rw [hnB, Y.stackName]; decide)
  have bP := Cond.laysApart hdB hdP hdnB hdnP (by rw [hnB, Y.suppName]; decide)
  have hskip : SkipFacts T e.platform s (fun u => u) u0 ((preparedCellV T.toThrowableT (freshCell P1.m.cls kX) a u0 sen).withEntry W.cur) :=
    ⟨{ ci198 := ci198, i198 := i198, fBack := fB }, ⟨hk198, hg198, ha198, hsB⟩, by
      have := fresh_default (c := P1.m.cls) tyB
      rw [htB] at this
      simpa [preparedCellV, Cell.setSlot, Cell.withEntry, Array.getElem?_setIfInBounds, bC, bS, bP, bC.symm, bS.symm, bP.symm, defaultValue] using this, fun _ _ => rfl⟩
  obtain ⟨tm, methC, cdC, kC, vm₁, hnC, -, -, -, -, -, -, -, hW₁, st1⟩ := Steps.initCold (tb := p.tables) (e := e) (below := below) (s := s) (U := W) X.here hexec X.warmed hpl hown (t := Bundle.init0 cls) rfl rfl (Bundle.fit_spec hcls).2
    (a' (.methodLink own ic (Bundle.init0 cls)) (by simp [Bundle.ownAtoms0])) (h (.instanceMethod (Bundle.init0 cls)) (by cases names <;> simp [Bundle.ownAtoms0, Bundle.chain0Atoms, Bundle.passAtoms])) (bytes := Bundle.five) (maxL := 1) (h (.code (Bundle.init0 cls) Bundle.five 1 none) (by cases names <;> simp [Bundle.ownAtoms0, Bundle.chain0Atoms, Bundle.passAtoms]))
    (f := g) hg (a := a) (rest := .ref a :: rest) hstack hd6
  cases Option.some.inj (hnC.symm.trans hP1m)
  have X₁ := X.noted hW₁
  obtain ⟨vm₂, X₂, st2⟩ := X₁.ctorPlainOffV hexec (g := { g with stack := .ref a :: rest }) hg hsize T L Z LZ (P1 :: Ps)
    (fun P hP => by rcases List.mem_cons.mp hP with rfl | hP; exact L1; exact hL P hP) ⟨hlink1, hlink⟩ (u0 := u0) (sen := sen) (self := a) (cell := freshCell P1.m.cls kX) (cellS := cellS)
    hcell (fun _ => by simp) (by simp) rfl rfl hsel0 hselF hcellS hneS hknownS (by rw [hkeep _ (hout' _)]; exact hu0) (by rw [hkeep _ (hout' _)]; exact hsen)
    (Takes.of_laid hk hord tyC (by rw [Y.causeType]; rfl)) (Takes.of_laid hk hord tyS (by rw [Y.stackType]; exact fits_refV_array _ u0)) (Takes.of_laid hk hord tyP (by rw [Y.suppType]; exact fits_refV_object _ sen)) Y.objLocals hskip htr [] hd6
    (by simp only [List.length_cons, hlen]; omega) (by simp only [List.length_cons, hlen]; exact hRlocals)
  have hlt : a < ((W.setVm vm₁).setVm vm₂).heap.size := (Array.getElem?_eq_some_iff.mp hcell).1
  refine ⟨(W.setVm vm₁).setVm vm₂, _, _, X₂, fun y hy => ?_, hlt, rfl, rfl, fun target hwalk => st1 _ (fun acts => ?_)⟩
  · simp only [List.mem_cons, List.not_mem_nil, or_false] at hy
    rcases hy with rfl | rfl | rfl | rfl <;> rfl
  · rw [doInvoke_state]
    exact st2 _ hwalk
end VXK
section VXK2
variable {p : Program} {l : Launch} {e : Env} {R : Room} {s : State} {m : MethodId} {args : Array Value} {below : List Frame} {meth : Method} {c : Code} {H : Heap} {locs : List Loc} {cells slots : Nat} {Q : State → Prop}
variable {ls : Array Slot} {rest : List Value} {D : va_G} {cl : List vw_C} {tys : List (ClassId × FieldType)} {ws : va_W}
/-- 'new E("text")' that isn't thrown at once: the object goes on the stack -/
theorem vx_makeS {cc : ByteArray} {pc : Nat} (hexec : p.tables.exec = Jvm.exec) (hb : c.code = cc) (hl : l.stackTraces = false) {own cls text : String} {names : List String} {ik is ic sa ci : Nat} {A : Nat → Prop} {T0 : u_T}
    (hown : s.vm.findClass own = some m.cls) (hcls : Bundle.fit cls = true) (hnames : ∀ n ∈ names, Bundle.fit n = true)
    (hk : (Cond.classLink own ik cls).before args s = true) (hini : (Cond.initialized cls).before args s = true) (hstr : vk_R own is text sa s) (hat : ∀ w ∈ vx_atS own ic cls names, w.before args s = true)
    (hgood : ∀ w ∈ Cond.classLink own ik cls :: Cond.initialized cls :: vx_atS own ic cls names, vx_ot w = true)
    (hU : vx_Zq Bundle.tN "UNASSIGNED_STACK" Bundle.steD A s s.heap) (hN : vx_Zq Bundle.tN "SUPPRESSED_SENTINEL" Bundle.listD A s s.heap) (hS : va_S A s.heap H locs) (hsize : ls.size = c.maxLocals)
    (d0 : decode cc pc = .ok (.new ik, 3)) (d3 : decode cc (pc + 3) = .ok (.dup, 1)) (d4 : decode cc (pc + 4) = .ok (.ldc is, 2)) (d6 : decode cc (pc + 6) = .ok (.invokespecial ic, 3))
    (hK : va_K D cl tys s) (hP : va_P D cl ws H) (hD : va_D A ws) (hA : ∀ q, s.heap.size ≤ q → A q) (hc : cl[ci]? = some (cls, T0, 0))
    (hRframes : names.length + 3 < R.frames) (hRlocals : (rest.map fun v => v.category).sum + (13 * (names.length + 1) + 43) ≤ R.locals) (hRcells : cells + 1 ≤ R.cells) (hRslots : slots + 6 ≤ R.slots)
    (kk : ∀ (q : Nat) (H1 : Heap), va_P D cl (ws ++ [(q, .inr (ci, []))]) H1 → va_D A (ws ++ [(q, .inr (ci, []))]) → va_S A s.heap H1 locs → W p l e R s m args below meth c H1 locs (cells + 1) (slots + 6) Q (F0 m (pc + 9) ls (.ref q :: rest))) :
    W p l e R s m args below meth c H locs cells slots Q (F0 m pc ls rest) := by
  intro T hT X
  subst hT
  have htr : e.platform.stackTraces = false := (show e.platform.stackTraces = l.stackTraces by rw [X.admits.platform]).trans hl
  have Y := vx_rebase X (R' := { frames := R.frames, locals := R.locals, cells := 1, slots := 6 }) (Nat.le_refl _) (Nat.le_refl _) hRcells hRslots
  obtain ⟨s', hA'⟩ : ∃ z, z = (T.setVm s.vm).setFrames (.invoking m args :: below) := ⟨_, rfl⟩
  rw [← hA'] at Y
  have hvm : s'.vm = s.vm := by rw [hA']; rfl
  have hhp : s'.heap = T.heap := by rw [hA']; rfl
  have hW0 : s.WarmedH s'.vm := by rw [hvm]; exact State.WarmedH.refl s
  have hat' : ∀ w ∈ vx_atS own ic cls names, w.before args s' = true := fun w hw => vx_ot_at hW0 hvm.symm (hgood w (List.mem_cons_of_mem _ (List.mem_cons_of_mem _ hw))) (hat w hw)
  have hk' : (Cond.classLink own ik cls).before args s' = true := vx_ot_at hW0 hvm.symm (hgood _ List.mem_cons_self) hk
  have hini' : (Cond.initialized cls).before args s' = true := vx_ot_at hW0 hvm.symm (hgood _ (List.mem_cons_of_mem _ List.mem_cons_self)) hini
  have hU' : vx_Zq Bundle.tN "UNASSIGNED_STACK" Bundle.steD A s' s'.heap := by rw [hhp]; exact vx_Zq.moved hW0.alike (hU.kept hS.2.1)
  have hN' : vx_Zq Bundle.tN "SUPPRESSED_SENTINEL" Bundle.listD A s' s'.heap := by rw [hhp]; exact vx_Zq.moved hW0.alike (hN.kept hS.2.1)
  have h : ∀ w ∈ Bundle.ownAtoms own ic cls names, w.before args s' = true := vx_own hat' (vx_isRefq hU'.1) (vx_isRefq hN'.1) hU'.2.word hN'.2.word
  have hown' : s'.vm.findClass own = some m.cls := by rw [hvm]; exact hown
  have hins : (Cond.instantiable cls 6).before args s' = true := h _ (by simp [Bundle.ownAtoms])
  obtain ⟨vm₁, cX, kX, hfX, hkX, -, -, X₁, st1⟩ := Y.newCold hexec (own := own) (C := cls) (index := ik) (n := 6) hown' hk' hins hini'
    (g := F0 m pc ls rest) rfl (by rw [hb]; exact d0) (Nat.le_refl _) (Nat.le_refl _)
  generalize hT1 : (T.setVm vm₁).pushCell { cls := cX, slots := kX.instanceTypes.map defaultValue, vm := .none } = T1 at X₁ st1
  have hcat : (Value.ref T.heap.size).category = 1 := rfl
  have hcellA : T1.heap[T.heap.size]? = some (freshCell cX kX) := by rw [← hT1]; exact State.heap_pushCell_size _ _
  have d3' : decode c.code (pc + 3) = .ok (.dup, 1) := by rw [hb]; exact d3
  have d4' : decode c.code (pc + 4) = .ok (.ldc is, 2) := by rw [hb]; exact d4
  have hstr' : vk_R own is text sa s' := vk_R.warm hW0 hstr
  obtain ⟨V, ce, L, Z, hL, hlt, hcl9, hvm9, st⟩ := vx_ctorMadeS X₁ hexec htr (own := own) (cls := cls) (names := names) (ic := ic) hown' hcls hnames h (fun x hx => nomatch hx) hfX hkX hcellA (by rw [hhp]; exact Nat.le_refl _) (msg := .ref sa) rfl
    (g := { method := m, pc := pc + 6, locals := ls, stack := .ref sa :: .ref T.heap.size :: .ref T.heap.size :: rest, locked := none }) rfl hsize (rest := rest) rfl
    (by rw [hb]; exact d6) hRframes (by simp only [List.map_cons, List.sum_cons, hcat]; omega)
  have Z0 := Stand.forget (locs := []) Z (fun y hy => by rw [hL y hy, hhp]; exact Nat.le_refl _)
  obtain ⟨f1, f2⟩ := vx_frame Z0.same
  rw [hhp] at f1 f2
  have hcid : ce.cls = D.1 ci := by
    rw [hcl9]
    have h1 := (hK.1 ci _ hc).2.1
    rw [hvm] at hfX
    exact Option.some.inj (hfX.symm.trans h1)
  have hh : (V.setCell T.heap.size ce).heap[T.heap.size]? = some ce := heapAt_setCell_self (s := V) ce hlt
  subst hA'
  have X5 := vx_back9 X Y Z0
  have X6 : Stand p l e R s m args below meth c (V.setCell T.heap.size ce) locs (cells + 1) (slots + 6) := { X5 with same := X5.same.mono (by omega) (by omega) }
  have hk9 : ∀ (k : Nat) (x : Nat × va_E), ws[k]? = some x → (V.setCell T.heap.size ce).heap[x.1]? = T.heap[x.1]? := fun k x hx => f2 x.1 ((hP k x hx).lt) (fun z hz => nomatch hz)
  obtain ⟨t, a1, b1⟩ := kk T.heap.size (V.setCell T.heap.size ce).heap ((hP.kept hk9).app (fun k x hx => by
      have hz : k < 1 := (List.getElem?_eq_some_iff.mp hx).1
      rw [show k = 0 by omega] at hx
      cases hx
      exact ⟨_, hc, ce, hh, hcid, hvm9, fun k hk => absurd hk (Nat.not_lt_zero k)⟩)) (hD.push hP rfl (hA _ hS.1)) ⟨Nat.le_trans hS.1 f1, fun q h1 h2 => (f2 q (Nat.lt_of_lt_of_le h1 hS.1) (fun z hz => nomatch hz)).trans (hS.2.1 q h1 h2), hS.2.2⟩ _ rfl X6
  refine ⟨t, st1 _ ?_, b1⟩
  show Steps p.tables e below (T1.setTop { method := m, pc := pc + 3, locals := ls, stack := .ref T.heap.size :: rest, locked := none }) _
  jvm_step X₁.here [X₁.here.top, hexec, d3', Value.category]
  exact X₁.ldcString hexec (own := own) (text := text) (index := is) (a := sa) hown' hstr'.1 hstr'.2
    (g := { method := m, pc := pc + 4, locals := ls, stack := .ref T.heap.size :: .ref T.heap.size :: rest, locked := none }) rfl d4' _ (st _ a1)
/-- 'new E()' that isn't thrown at once: the object goes on the stack -/
theorem vx_make0 {cc : ByteArray} {pc : Nat} (hexec : p.tables.exec = Jvm.exec) (hb : c.code = cc) (hl : l.stackTraces = false) {own cls : String} {names : List String} {ik ic ci : Nat} {A : Nat → Prop} {T0 : u_T}
    (hown : s.vm.findClass own = some m.cls) (hcls : Bundle.fit cls = true) (hnames : ∀ n ∈ names, Bundle.fit n = true)
    (hk : (Cond.classLink own ik cls).before args s = true) (hini : (Cond.initialized cls).before args s = true) (hat : ∀ w ∈ vx_at0 own ic cls names, w.before args s = true)
    (hgood : ∀ w ∈ Cond.classLink own ik cls :: Cond.initialized cls :: vx_at0 own ic cls names, vx_ot w = true)
    (hU : vx_Zq Bundle.tN "UNASSIGNED_STACK" Bundle.steD A s s.heap) (hN : vx_Zq Bundle.tN "SUPPRESSED_SENTINEL" Bundle.listD A s s.heap) (hS : va_S A s.heap H locs) (hsize : ls.size = c.maxLocals)
    (d0 : decode cc pc = .ok (.new ik, 3)) (d3 : decode cc (pc + 3) = .ok (.dup, 1)) (d4 : decode cc (pc + 4) = .ok (.invokespecial ic, 3))
    (hK : va_K D cl tys s) (hP : va_P D cl ws H) (hD : va_D A ws) (hA : ∀ q, s.heap.size ≤ q → A q) (hc : cl[ci]? = some (cls, T0, 0))
    (hRframes : names.length + 3 < R.frames) (hRlocals : (rest.map fun v => v.category).sum + (13 * (names.length + 1) + 42) ≤ R.locals) (hRcells : cells + 1 ≤ R.cells) (hRslots : slots + 6 ≤ R.slots)
    (kk : ∀ (q : Nat) (H1 : Heap), va_P D cl (ws ++ [(q, .inr (ci, []))]) H1 → va_D A (ws ++ [(q, .inr (ci, []))]) → va_S A s.heap H1 locs → W p l e R s m args below meth c H1 locs (cells + 1) (slots + 6) Q (F0 m (pc + 7) ls (.ref q :: rest))) :
    W p l e R s m args below meth c H locs cells slots Q (F0 m pc ls rest) := by
  intro T hT X
  subst hT
  have htr : e.platform.stackTraces = false := (show e.platform.stackTraces = l.stackTraces by rw [X.admits.platform]).trans hl
  have Y := vx_rebase X (R' := { frames := R.frames, locals := R.locals, cells := 1, slots := 6 }) (Nat.le_refl _) (Nat.le_refl _) hRcells hRslots
  obtain ⟨s', hA'⟩ : ∃ z, z = (T.setVm s.vm).setFrames (.invoking m args :: below) := ⟨_, rfl⟩
  rw [← hA'] at Y
  have hvm : s'.vm = s.vm := by rw [hA']; rfl
  have hhp : s'.heap = T.heap := by rw [hA']; rfl
  have hW0 : s.WarmedH s'.vm := by rw [hvm]; exact State.WarmedH.refl s
  have hat' : ∀ w ∈ vx_at0 own ic cls names, w.before args s' = true := fun w hw => vx_ot_at hW0 hvm.symm (hgood w (List.mem_cons_of_mem _ (List.mem_cons_of_mem _ hw))) (hat w hw)
  have hk' : (Cond.classLink own ik cls).before args s' = true := vx_ot_at hW0 hvm.symm (hgood _ List.mem_cons_self) hk
  have hini' : (Cond.initialized cls).before args s' = true := vx_ot_at hW0 hvm.symm (hgood _ (List.mem_cons_of_mem _ List.mem_cons_self)) hini
  have hU' : vx_Zq Bundle.tN "UNASSIGNED_STACK" Bundle.steD A s' s'.heap := by rw [hhp]; exact vx_Zq.moved hW0.alike (hU.kept hS.2.1)
  have hN' : vx_Zq Bundle.tN "SUPPRESSED_SENTINEL" Bundle.listD A s' s'.heap := by rw [hhp]; exact vx_Zq.moved hW0.alike (hN.kept hS.2.1)
  have h : ∀ w ∈ Bundle.ownAtoms0 own ic cls names, w.before args s' = true := vx_own hat' (vx_isRefq hU'.1) (vx_isRefq hN'.1) hU'.2.word hN'.2.word
  have hown' : s'.vm.findClass own = some m.cls := by rw [hvm]; exact hown
  have hins : (Cond.instantiable cls 6).before args s' = true := h _ (by simp [Bundle.ownAtoms0])
  obtain ⟨vm₁, cX, kX, hfX, hkX, -, -, X₁, st1⟩ := Y.newCold hexec (own := own) (C := cls) (index := ik) (n := 6) hown' hk' hins hini'
    (g := F0 m pc ls rest) rfl (by rw [hb]; exact d0) (Nat.le_refl _) (Nat.le_refl _)
  generalize hT1 : (T.setVm vm₁).pushCell { cls := cX, slots := kX.instanceTypes.map defaultValue, vm := .none } = T1 at X₁ st1
  have hcat : (Value.ref T.heap.size).category = 1 := rfl
  have hcellA : T1.heap[T.heap.size]? = some (freshCell cX kX) := by rw [← hT1]; exact State.heap_pushCell_size _ _
  have d3' : decode c.code (pc + 3) = .ok (.dup, 1) := by rw [hb]; exact d3
  obtain ⟨V, ce, L, Z, hL, hlt, hcl9, hvm9, st⟩ := vx_ctorMade0 X₁ hexec htr (own := own) (cls := cls) (names := names) (ic := ic) hown' hcls hnames h (fun x hx => nomatch hx) hfX hkX hcellA (by rw [hhp]; exact Nat.le_refl _)
    (g := { method := m, pc := pc + 4, locals := ls, stack := .ref T.heap.size :: .ref T.heap.size :: rest, locked := none }) rfl hsize (rest := rest) rfl
    (by rw [hb]; exact d4) hRframes (by simp only [List.map_cons, List.sum_cons, hcat]; omega)
  have Z0 := Stand.forget (locs := []) Z (fun y hy => by rw [hL y hy, hhp]; exact Nat.le_refl _)
  obtain ⟨f1, f2⟩ := vx_frame Z0.same
  rw [hhp] at f1 f2
  have hcid : ce.cls = D.1 ci := by
    rw [hcl9]
    have h1 := (hK.1 ci _ hc).2.1
    rw [hvm] at hfX
    exact Option.some.inj (hfX.symm.trans h1)
  have hh : (V.setCell T.heap.size ce).heap[T.heap.size]? = some ce := heapAt_setCell_self (s := V) ce hlt
  subst hA'
  have X5 := vx_back9 X Y Z0
  have X6 : Stand p l e R s m args below meth c (V.setCell T.heap.size ce) locs (cells + 1) (slots + 6) := { X5 with same := X5.same.mono (by omega) (by omega) }
  have hk9 : ∀ (k : Nat) (x : Nat × va_E), ws[k]? = some x → (V.setCell T.heap.size ce).heap[x.1]? = T.heap[x.1]? := fun k x hx => f2 x.1 ((hP k x hx).lt) (fun z hz => nomatch hz)
  obtain ⟨t, a1, b1⟩ := kk T.heap.size (V.setCell T.heap.size ce).heap ((hP.kept hk9).app (fun k x hx => by
      have hz : k < 1 := (List.getElem?_eq_some_iff.mp hx).1
      rw [show k = 0 by omega] at hx
      cases hx
      exact ⟨_, hc, ce, hh, hcid, hvm9, fun k hk => absurd hk (Nat.not_lt_zero k)⟩)) (hD.push hP rfl (hA _ hS.1)) ⟨Nat.le_trans hS.1 f1, fun q h1 h2 => (f2 q (Nat.lt_of_lt_of_le h1 hS.1) (fun z hz => nomatch hz)).trans (hS.2.1 q h1 h2), hS.2.2⟩ _ rfl X6
  refine ⟨t, st1 _ ?_, b1⟩
  show Steps p.tables e below (T1.setTop { method := m, pc := pc + 3, locals := ls, stack := .ref T.heap.size :: rest, locked := none }) _
  jvm_step X₁.here [X₁.here.top, hexec, d3', Value.category]
  exact st _ a1
/-- 'throw x' of an object that was made before -/
theorem vx_athrow {cc : ByteArray} {pc : Nat} (hexec : p.tables.exec = Jvm.exec) (hb : c.code = cc) {q : Addr} (hdg : decode cc pc = .ok (.athrow, 1)) (k : vx_W p l e R s m args below meth c H locs cells slots Q (F0 m pc ls rest) q) : W p l e R s m args below meth c H locs cells slots Q (F0 m pc ls (.ref q :: rest)) := by
  intro T hT X
  obtain ⟨t, st, hq⟩ := k T hT X
  refine ⟨t, ?_, hq⟩
  have hdg' : decode c.code pc = .ok (.athrow, 1) := by rw [hb]; exact hdg
  jvm_step X.here [X.here.top, hexec, hdg', athrow.wp_sem]
  exact st
end VXK2
/-! ===== END ===== -/
/-! ===== BEGIN a constructor that throws (launches without stack traces) ===== -/
section VXIA
variable {p : Program} {l : Launch} {e : Env} {R : Room} {s : State} {m : MethodId} {args : Array Value} {below : List Frame} {meth : Method} {c : Code} {T : State} {locs : List Loc} {cells slots : Nat}
theorem vx_callI (X : Stand p l e R s m args below meth c T locs cells slots) (hexec : p.tables.exec = Jvm.exec) {own : String} {index : Nat} {y : MethodName} {bytes : ByteArray} {maxL : Nat}
    (hown : s.vm.findClass own = some m.cls) (hy1 : y.name = "<init>") (hlink : (Cond.methodLink own index y).before args s = true) (hinst : (Cond.instanceMethod y).before args s = true)
    (hcode : (Cond.code y bytes maxL none).before args s = true) (hy : y.cls ≠ "java/lang/invoke/MethodHandle" ∧ y.cls ≠ "java/lang/invoke/VarHandle")
    {W9 : Nat} {Pre : Pt → Array Value → Prop} {Post : Pt → Array Value → Option Value → Pt → Prop} {PostX : Pt → Array Value → Addr → Pt → Prop} (hK : vx_Back l R p e below s args y 3 W9 Pre Post PostX)
    {g : JFrame} (hg : g.method = m) (hsize : g.locals.size = c.maxLocals) {a : Addr} {argsL rest : List Value} (hlen : ∀ sig, parseMethodDescriptor y.desc = some sig → argsL.length = sig.parameters.length)
    (hstack : g.stack = argsL.reverse ++ .ref a :: rest) (hW : 2 * g.monitorRoom + (rest.map fun v => v.category).sum ≤ W9) (hdg : decode c.code g.pc = .ok (.invokespecial index, 3))
    (hpre : ∀ vm₁, s.WarmedH vm₁ → Pre ⟨T.setVm vm₁, locs, cells, slots⟩ (Value.ref a :: argsL).toArray) :
    (∃ (v : Option Value) (vm₁ : Vm) (B : Pt), s.WarmedH vm₁ ∧ Stand p l e R s m args below meth c B.U B.locs B.cells B.slots ∧ Post ⟨T.setVm vm₁, locs, cells, slots⟩ (Value.ref a :: argsL).toArray v B ∧
      ∀ target, Steps p.tables e below (B.U.setTop { g with pc := g.pc + 3, stack := v.toList ++ rest }) target → Steps p.tables e below (T.setTop g) target) ∨
    (∃ (q : Addr) (vm₁ : Vm) (B : Pt), s.WarmedH vm₁ ∧ Stand p l e R s m args below meth c B.U B.locs B.cells B.slots ∧ PostX ⟨T.setVm vm₁, locs, cells, slots⟩ (Value.ref a :: argsL).toArray q B ∧
      Steps p.tables e below (T.setTop g) ((B.U.setTop { g with stack := rest }).pushFrame (.throwing q))) := by
  subst hg
  have hpl : e.platform.magicAccessors = ({} : Platform).magicAccessors := by rw [X.admits.platform]
  obtain ⟨mk, methM, cM, kP, vm₁, hnamed, hmethM, hcodeM, -, hlocalsM, -, hkP, -, hW₁, hstep₁⟩ := Steps.initColdArgs (e := e) X.here hexec X.warmed hpl hown hy1 hy hlink hinst hcode (f := g) rfl hlen hstack hdg
  have X₁ := X.noted hW₁
  rcases hK g.method meth c ⟨T.setVm vm₁, locs, cells, slots⟩ { g with stack := rest } (.invokespecial index) mk (Value.ref a :: argsL).toArray X₁ rfl hsize hdg hW (X₁.named hnamed) (hpre vm₁ X₁.warmed) with ⟨v, B, X', hpost, hsteps⟩ | ⟨q, B, X', hpost, hsteps⟩
  · exact Or.inl ⟨v, vm₁, B, X₁.warmed, X', hpost, fun target h => hstep₁ _ fun acts => by rw [doInvoke_state]; exact hsteps.trans h⟩
  · exact Or.inr ⟨q, vm₁, B, X₁.warmed, X', hpost, hstep₁ _ fun acts => by rw [doInvoke_state]; exact hsteps⟩
end VXIA
section VXIB
variable {p : Program} {l : Launch} {e : Env} {R : Room} {s : State} {m : MethodId} {args : Array Value} {below : List Frame} {meth : Method} {c : Code} {H : Heap} {locs : List Loc} {cells slots : Nat}
variable {y : MethodName} {bytes cc : ByteArray} {maxL nL mc ms n index : Nat} {ret : Option FieldType} {ws : List Cond} {rm : Room} {Pc : Array Value → State → Prop} {Qc : Array Value → State → Outcome → State → Prop} {XC : String → State → State → Prop} {free : Addr → Prop} {Ts : List Cond} {own C : String} {b : Addr} {As rest : List Value} {g : JFrame}
theorem vx_runI (S : CallFix p m c cc nL s args Ts own) (hM : vx_Met l y ws rm Pc Qc XC mc ms free) (cw : CallB R s args own index y bytes maxL none ws rm mc ms n ∧ y.name = "<init>" ∧ (Cond.instanceMethod y).before args s = true) (hp : PreS s H Pc (.ref b :: As))
    (hg : g.method = m) (hn : As.length = n) (hsize : g.locals.size = nL) (hstack : g.stack = As.reverse ++ .ref b :: rest) (hW : 2 * g.monitorRoom + (rest.map fun v => v.category).sum ≤ 8) (hdg : decode cc g.pc = .ok (.invokespecial index, 3)) (hf : cells + mc ≤ R.cells ∧ slots + ms ≤ R.slots) :
    vx_Run p l e R s m args below meth c H locs cells slots mc ms g rest (Qc (Value.ref b :: As).toArray) XC free := by
  have hK : vx_Back l R p e below s args y 3 8 (PreOf R mc ms Pc) (PostOf Qc mc ms free) (vx_Post XC mc ms free) := vx_callBack cw.1 hM hp.1
  obtain ⟨⟨-, -, -, -, -, -, hcode, -, hy, hlen, hl⟩, hy1, hin⟩ := cw
  obtain ⟨hx, hb, hml, ho, -⟩ := S
  have hPc := hp.2
  intro T hT X
  rcases vx_callI X hx (bytes := bytes) (maxL := maxL) ho hy1 hl hin hcode hy hK hg (hsize.trans hml.symm) (a := b) (argsL := As) (rest := rest) (fun sig h => hn.trans (hlen sig h)) hstack hW (by rw [hb]; exact hdg)
    (fun vm₁ hW₁ => ⟨hf.1, hf.2, hPc (T.setVm vm₁) hT hW₁⟩) with ⟨v, vm₁, ⟨U', l2, c2, s2⟩, hW₁, X', ⟨g', mk, t, L, e1, e2, hq, h1, hL, h2, h3⟩, st⟩ | ⟨q, vm₁, ⟨U', l2, c2, s2⟩, hW₁, X', ⟨g', mk, t, L, E, ce, e1, e2, hq, hce, hcv, hcl, h1, hL, h2, h3⟩, st⟩
  · dsimp only [Pt.U, Pt.locs, Pt.cells, Pt.slots] at X' e1 e2 h1 h2 h3 st
    subst h1; subst h2; subst h3
    exact Or.inl ⟨v, (T.setVm vm₁).calling g' mk (Value.ref b :: As).toArray, t, U', L, hT, X', hL, e1, e2, hq, st⟩
  · dsimp only [Pt.U, Pt.locs, Pt.cells, Pt.slots] at X' e1 e2 h1 h2 h3 st hcl
    subst h1; subst h2; subst h3
    exact Or.inr ⟨q, (T.setVm vm₁).calling g' mk (Value.ref b :: As).toArray, t, U', L, E, ce, hT, X', hL, e1, e2, hq, hce, hcv, vx_cls hW₁ hcl, st⟩
end VXIB
/-! ===== END ===== -/
/-! ===== BEGIN a private constructor of a nest mate that throws ===== -/
section VXIC
variable {p : Program} {l : Launch} {e : Env} {R : Room} {s : State} {m : MethodId} {args : Array Value} {below : List Frame} {meth : Method} {c : Code} {T : State} {locs : List Loc} {cells slots : Nat}
theorem vx_callIN (X : Stand p l e R s m args below meth c T locs cells slots) (hexec : p.tables.exec = Jvm.exec) {own : String} {index : Nat} {host : String} {y : MethodName} {bytes : ByteArray} {maxL : Nat}
    (hown : s.vm.findClass own = some m.cls) (hy1 : y.name = "<init>") (hlink : (Cond.methodLinkNest own index y host).before args s = true) (hinst : (Cond.instanceMethod y).before args s = true)
    (hcode : (Cond.code y bytes maxL none).before args s = true) (hy : y.cls ≠ "java/lang/invoke/MethodHandle" ∧ y.cls ≠ "java/lang/invoke/VarHandle")
    {W9 : Nat} {Pre : Pt → Array Value → Prop} {Post : Pt → Array Value → Option Value → Pt → Prop} {PostX : Pt → Array Value → Addr → Pt → Prop} (hK : vx_Back l R p e below s args y 3 W9 Pre Post PostX)
    {g : JFrame} (hg : g.method = m) (hsize : g.locals.size = c.maxLocals) {a : Addr} {argsL rest : List Value} (hlen : ∀ sig, parseMethodDescriptor y.desc = some sig → argsL.length = sig.parameters.length)
    (hstack : g.stack = argsL.reverse ++ .ref a :: rest) (hW : 2 * g.monitorRoom + (rest.map fun v => v.category).sum ≤ W9) (hdg : decode c.code g.pc = .ok (.invokespecial index, 3))
    (hpre : ∀ vm₁, s.WarmedH vm₁ → Pre ⟨T.setVm vm₁, locs, cells, slots⟩ (Value.ref a :: argsL).toArray) :
    (∃ (v : Option Value) (vm₁ : Vm) (B : Pt), s.WarmedH vm₁ ∧ Stand p l e R s m args below meth c B.U B.locs B.cells B.slots ∧ Post ⟨T.setVm vm₁, locs, cells, slots⟩ (Value.ref a :: argsL).toArray v B ∧
      ∀ target, Steps p.tables e below (B.U.setTop { g with pc := g.pc + 3, stack := v.toList ++ rest }) target → Steps p.tables e below (T.setTop g) target) ∨
    (∃ (q : Addr) (vm₁ : Vm) (B : Pt), s.WarmedH vm₁ ∧ Stand p l e R s m args below meth c B.U B.locs B.cells B.slots ∧ PostX ⟨T.setVm vm₁, locs, cells, slots⟩ (Value.ref a :: argsL).toArray q B ∧
      Steps p.tables e below (T.setTop g) ((B.U.setTop { g with stack := rest }).pushFrame (.throwing q))) := by
  subst hg
  have hpl : e.platform.magicAccessors = ({} : Platform).magicAccessors := by rw [X.admits.platform]
  obtain ⟨mk, methM, cM, kP, vm₁, hnamed, hmethM, hcodeM, -, hlocalsM, -, hkP, -, hW₁, hstep₁⟩ := Steps.initColdArgsNest (e := e) X.here hexec X.warmed hpl hown hy1 hy hlink hinst hcode (f := g) rfl hlen hstack hdg
  have X₁ := X.noted hW₁
  rcases hK g.method meth c ⟨T.setVm vm₁, locs, cells, slots⟩ { g with stack := rest } (.invokespecial index) mk (Value.ref a :: argsL).toArray X₁ rfl hsize hdg hW (X₁.named hnamed) (hpre vm₁ X₁.warmed) with ⟨v, B, X', hpost, hsteps⟩ | ⟨q, B, X', hpost, hsteps⟩
  · exact Or.inl ⟨v, vm₁, B, X₁.warmed, X', hpost, fun target h => hstep₁ _ fun acts => by rw [doInvoke_state]; exact hsteps.trans h⟩
  · exact Or.inr ⟨q, vm₁, B, X₁.warmed, X', hpost, hstep₁ _ fun acts => by rw [doInvoke_state]; exact hsteps⟩
end VXIC
section VXID
variable {p : Program} {l : Launch} {e : Env} {R : Room} {s : State} {m : MethodId} {args : Array Value} {below : List Frame} {meth : Method} {c : Code} {H : Heap} {locs : List Loc} {cells slots : Nat}
theorem vx_runIN {y : MethodName} {bytes cc : ByteArray} {maxL nL mc ms n index : Nat} {ws : List Cond} {rm : Room} {Pc : Array Value → State → Prop} {Qc : Array Value → State → Outcome → State → Prop} {XC : String → State → State → Prop} {free : Addr → Prop} {Ts : List Cond} {own host : String} {b : Addr} {As rest : List Value} {g : JFrame}
    (S : CallFix p m c cc nL s args Ts own) (hM : vx_Met l y ws rm Pc Qc XC mc ms free) (cw : va_CN R s args own index y host bytes maxL none ws rm mc ms n ∧ y.name = "<init>" ∧ (Cond.instanceMethod y).before args s = true) (hp : PreS s H Pc (.ref b :: As))
    (hg : g.method = m) (hn : As.length = n) (hsize : g.locals.size = nL) (hstack : g.stack = As.reverse ++ .ref b :: rest) (hW : 2 * g.monitorRoom + (rest.map fun v => v.category).sum ≤ 8) (hdg : decode cc g.pc = .ok (.invokespecial index, 3)) (hf : cells + mc ≤ R.cells ∧ slots + ms ≤ R.slots) :
    vx_Run p l e R s m args below meth c H locs cells slots mc ms g rest (Qc (Value.ref b :: As).toArray) XC free := by
  obtain ⟨⟨⟨hrc, hrs, hfr, hlo, hws, hcw⟩, hcode, hini, hy, hlen, hl⟩, hx1, hx2⟩ := cw
  have hK : vx_Back l R p e below s args y 3 8 (PreOf R mc ms Pc) (PostOf Qc mc ms free) (vx_Post XC mc ms free) := vx_back (bytes := bytes) (maxL := maxL) (ret := none) hM hp.1 hrc hrs hfr hlo hws hcw (fun a' U hW => word_at hW (Or.inl (by first | rfl | simp [Cond.onTables, Cond.keeps, Cond.steady])) hini)
  obtain ⟨hx, hb, hml, ho, -⟩ := S
  have hPc := hp.2
  intro T hT X
  rcases vx_callIN X hx (bytes := bytes) (maxL := maxL) ho hx1 hl hx2 hcode hy hK hg (hsize.trans hml.symm) (a := b) (argsL := As) (rest := rest) (fun sig h => hn.trans (hlen sig h)) hstack hW (by rw [hb]; exact hdg)
    (fun vm₁ hW₁ => ⟨hf.1, hf.2, hPc (T.setVm vm₁) hT hW₁⟩) with ⟨v, vm₁, ⟨U', l2, c2, s2⟩, hW₁, X', ⟨g', mk, t, L, e1, e2, hq, h1, hL, h2, h3⟩, st⟩ | ⟨q, vm₁, ⟨U', l2, c2, s2⟩, hW₁, X', ⟨g', mk, t, L, E, ce, e1, e2, hq, hce, hcv, hcl, h1, hL, h2, h3⟩, st⟩
  · dsimp only [Pt.U, Pt.locs, Pt.cells, Pt.slots] at X' e1 e2 h1 h2 h3 st
    subst h1; subst h2; subst h3
    exact Or.inl ⟨v, (T.setVm vm₁).calling g' mk (Value.ref b :: As).toArray, t, U', L, hT, X', hL, e1, e2, hq, st⟩
  · dsimp only [Pt.U, Pt.locs, Pt.cells, Pt.slots] at X' e1 e2 h1 h2 h3 st hcl
    subst h1; subst h2; subst h3
    exact Or.inr ⟨q, (T.setVm vm₁).calling g' mk (Value.ref b :: As).toArray, t, U', L, E, ce, hT, X', hL, e1, e2, hq, hce, hcv, vx_cls hW₁ hcl, st⟩
end VXID
/-! ===== END ===== -/
/-! ===== BEGIN a method of a class above, found by the receiver, that may throw (follows va_callVU, va_runU of this kit) ===== -/
section
variable {p : Program} {l : Launch} {e : Env} {R : Room} {s : State} {m : MethodId} {args : Array Value} {below : List Frame} {meth : Method} {c : Code} {H : Heap} {locs : List Loc} {cells slots : Nat}
theorem vx_callVU {T : State} {locs : List Loc} {cells slots : Nat} (X : Stand p l e R s m args below meth c T locs cells slots) (hexec : p.tables.exec = Jvm.exec) {own C owner : String} {index : Nat} {x y : MethodName} {bytes : ByteArray} {maxL : Nat} {ret : Option FieldType}
    (hown : s.vm.findClass own = some m.cls) (hlink : (Cond.methodLink own index x).before args s = true) (hsame : (Cond.sameMethod x.cls owner x.name x.desc).before args s = true)
    (hd0 : va_Decl s ⟨owner, x.name, x.desc⟩) (howner : owner ≠ "java/lang/invoke/MethodHandle" ∧ owner ≠ "java/lang/invoke/VarHandle")
    (hsel : (Cond.selects C x y).before args s = true) (hinst : (Cond.instanceMethod y).before args s = true) (hcode : (Cond.code y bytes maxL ret).before args s = true)
    {W : Nat} {Pre : Pt → Array Value → Prop} {Post : Pt → Array Value → Option Value → Pt → Prop} {PostX : Pt → Array Value → Addr → Pt → Prop} (hK : vx_Back l R p e below s args y 3 W Pre Post PostX)
    {b : Addr} {cellB : Cell} (hcell : T.heap[b]? = some cellB) (hobj : cellB.vm.isStatics = false) (hcls : s.vm.findClass C = some cellB.cls)
    {g : JFrame} (hg : g.method = m) (hsize : g.locals.size = c.maxLocals) {argsL rest : List Value} (hlen : ∀ sig, parseMethodDescriptor x.desc = some sig → argsL.length = sig.parameters.length)
    (hstack : g.stack = argsL.reverse ++ .ref b :: rest) (hW : 2 * g.monitorRoom + (rest.map fun v => v.category).sum ≤ W) (hdg : decode c.code g.pc = .ok (.invokevirtual index, 3))
    (hpre : ∀ vm₁, s.WarmedH vm₁ → Pre ⟨T.setVm vm₁, locs, cells, slots⟩ (Value.ref b :: argsL).toArray) :
    (∃ (v : Option Value) (vm₁ : Vm) (B : Pt), s.WarmedH vm₁ ∧ Stand p l e R s m args below meth c B.U B.locs B.cells B.slots ∧ Post ⟨T.setVm vm₁, locs, cells, slots⟩ (Value.ref b :: argsL).toArray v B ∧
      ∀ target, Steps p.tables e below (B.U.setTop { g with pc := g.pc + 3, stack := v.toList ++ rest }) target → Steps p.tables e below (T.setTop g) target) ∨
    (∃ (q : Addr) (vm₁ : Vm) (B : Pt), s.WarmedH vm₁ ∧ Stand p l e R s m args below meth c B.U B.locs B.cells B.slots ∧ PostX ⟨T.setVm vm₁, locs, cells, slots⟩ (Value.ref b :: argsL).toArray q B ∧
      Steps p.tables e below (T.setTop g) ((B.U.setTop { g with stack := rest }).pushFrame (.throwing q))) := by
  obtain ⟨r0, r, hn, hrm, hstR, hsigR⟩ := hd0
  obtain ⟨cn, ck, r1, hcn, hck, hni, hf, hn1⟩ := Cond.sameMethod_found hsame
  cases hn.symm.trans hn1
  obtain ⟨mk, methM, hnamed, hmethM, -, habM⟩ := Cond.instanceMethod_spec hinst
  obtain ⟨c2, r2, m2, q1, q2, q3, q4, kP, hkP, hkPi⟩ := Cond.selects_spec hsel
  cases hcls.symm.trans q1
  cases hf.symm.trans q2
  cases hnamed.symm.trans q3
  have hselP : selectMethod e.platform s.vm cellB.cls r0 = .method mk := by rw [Launch.admits_selectMethod X.admits]; exact q4
  obtain ⟨vm₁, X₁, hstep₁⟩ := X.invokevirtualUp hexec hown hlink hsame howner hn hrm hstR (a := b) (cell := cellB) hcell
    (fun z h => by rw [h] at hobj; cases hobj) hselP hmethM habM hkP hkPi (g := g) hg (argsL := argsL) (rest := rest) (hlen _ hsigR) hstack hdg
  rcases hK m meth c ⟨T.setVm vm₁, locs, cells, slots⟩ { g with stack := rest } (.invokevirtual index) mk (Value.ref b :: argsL).toArray X₁ hg hsize hdg hW (X₁.named hnamed) (hpre vm₁ X₁.warmed) with ⟨v, B, X', hpost, hsteps⟩ | ⟨q, B, X', hpost, hsteps⟩
  · exact Or.inl ⟨v, vm₁, B, X₁.warmed, X', hpost, fun target h => hstep₁ _ fun acts => by rw [doInvoke_state]; exact hsteps.trans h⟩
  · exact Or.inr ⟨q, vm₁, B, X₁.warmed, X', hpost, hstep₁ _ fun acts => by rw [doInvoke_state]; exact hsteps⟩
theorem vx_runU {x y : MethodName} {bytes cc : ByteArray} {maxL nL mc ms n index : Nat} {ret : Option FieldType} {ws : List Cond} {rm : Room} {Pc : Array Value → State → Prop} {Qc : Array Value → State → Outcome → State → Prop} {XC : String → State → State → Prop} {free : Addr → Prop} {Ts : List Cond} {own C owner : String} {b : Addr} {As rest : List Value} {g : JFrame}
    (S : CallFix p m c cc nL s args Ts own) (hM : vx_Met l y ws rm Pc Qc XC mc ms free) (cw : va_CU R s args own C owner index x y bytes maxL ret ws rm mc ms n) (hp : PreV s H C b Pc As)
    (hg : g.method = m) (hn : As.length = n) (hsize : g.locals.size = nL) (hstack : g.stack = As.reverse ++ .ref b :: rest) (hW : 2 * g.monitorRoom + (rest.map fun v => v.category).sum ≤ 8) (hdg : decode cc g.pc = .ok (.invokevirtual index, 3)) (hf : cells + mc ≤ R.cells ∧ slots + ms ≤ R.slots) :
    vx_Run p l e R s m args below meth c H locs cells slots mc ms g rest (Qc (Value.ref b :: As).toArray) XC free := by
  obtain ⟨hrc, hrs, hfr, hlo, hws, hcw⟩ := cw.back
  have hini := cw.init
  have hK : vx_Back l R p e below s args y 3 8 (PreOf R mc ms Pc) (PostOf Qc mc ms free) (vx_Post XC mc ms free) := vx_back (bytes := bytes) (maxL := maxL) (ret := ret) hM hp.1 hrc hrs hfr hlo hws hcw (fun a' U hW => word_at hW (Or.inl (by first | rfl | simp [Cond.onTables, Cond.keeps, Cond.steady])) hini)
  obtain ⟨hx, hb, hml, ho, -⟩ := S
  obtain ⟨-, ⟨cellB, hcB, hoB, hclB⟩, hPc⟩ := hp
  intro T hT X
  rcases vx_callVU X hx (C := C) (owner := owner) (bytes := bytes) (maxL := maxL) (ret := ret) ho cw.link cw.same cw.decl cw.notMH cw.sel cw.inst cw.code hK (by rw [hT]; exact hcB) hoB hclB hg (hsize.trans hml.symm) (argsL := As) (rest := rest) (fun sig h => hn.trans (cw.len sig h)) hstack hW (by rw [hb]; exact hdg)
    (fun vm₁ hW₁ => ⟨hf.1, hf.2, hPc (T.setVm vm₁) hT hW₁⟩) with ⟨v, vm₁, ⟨U', l2, c2, s2⟩, hW₁, X', ⟨g', mk, t, L, e1, e2, hq, h1, hL, h2, h3⟩, st⟩ | ⟨q, vm₁, ⟨U', l2, c2, s2⟩, hW₁, X', ⟨g', mk, t, L, E, ce, e1, e2, hq, hce, hcv, hcl, h1, hL, h2, h3⟩, st⟩
  · dsimp only [Pt.U, Pt.locs, Pt.cells, Pt.slots] at X' e1 e2 h1 h2 h3 st
    subst h1; subst h2; subst h3
    exact Or.inl ⟨v, (T.setVm vm₁).calling g' mk (Value.ref b :: As).toArray, t, U', L, hT, X', hL, e1, e2, hq, st⟩
  · dsimp only [Pt.U, Pt.locs, Pt.cells, Pt.slots] at X' e1 e2 h1 h2 h3 st hcl
    subst h1; subst h2; subst h3
    exact Or.inr ⟨q, (T.setVm vm₁).calling g' mk (Value.ref b :: As).toArray, t, U', L, E, ce, hT, X', hL, e1, e2, hq, hce, hcv, vx_cls hW₁ hcl, st⟩
end
/-! ===== END ===== -/
/-! ===== BEGIN super.m(..) that may throw (follows va_callSU, va_runSU) ===== -/
section
variable {p : Program} {l : Launch} {e : Env} {R : Room} {s : State} {m : MethodId} {args : Array Value} {below : List Frame} {meth : Method} {c : Code} {H : Heap} {locs : List Loc} {cells slots : Nat}
theorem vx_callSU {T : State} {locs : List Loc} {cells slots : Nat} (X : Stand p l e R s m args below meth c T locs cells slots) (hexec : p.tables.exec = Jvm.exec) {own : String} {index : Nat} {y : MethodName} {bytes : ByteArray} {maxL : Nat} {ret : Option FieldType}
    (hown : s.vm.findClass own = some m.cls) (hlink : (Cond.methodLink own index y).before args s = true) (hsame : (Cond.sameMethod y.cls y.cls y.name y.desc).before args s = true) (hsup : (Cond.superclass own y.cls).before args s = true)
    (hinst : (Cond.instanceMethod y).before args s = true) (hcode : (Cond.code y bytes maxL ret).before args s = true) (hno : y.name ≠ "<init>")
    {W : Nat} {Pre : Pt → Array Value → Prop} {Post : Pt → Array Value → Option Value → Pt → Prop} {PostX : Pt → Array Value → Addr → Pt → Prop} (hK : vx_Back l R p e below s args y 3 W Pre Post PostX)
    {b : Addr} {cellB : Cell} {kB : Class} (hcell : T.heap[b]? = some cellB) (hobj : cellB.vm.isStatics = false) (hkB : s.vm.classes[cellB.cls]? = some kB)
    {g : JFrame} (hg : g.method = m) (hsize : g.locals.size = c.maxLocals) {argsL rest : List Value} (hlen : ∀ sig, parseMethodDescriptor y.desc = some sig → argsL.length = sig.parameters.length)
    (hstack : g.stack = argsL.reverse ++ .ref b :: rest) (hW : 2 * g.monitorRoom + (rest.map fun v => v.category).sum ≤ W) (hdg : decode c.code g.pc = .ok (.invokespecial index, 3))
    (hpre : ∀ vm₁, s.WarmedH vm₁ → Pre ⟨T.setVm vm₁, locs, cells, slots⟩ (Value.ref b :: argsL).toArray) :
    (∃ (v : Option Value) (vm₁ : Vm) (B : Pt), s.WarmedH vm₁ ∧ Stand p l e R s m args below meth c B.U B.locs B.cells B.slots ∧ Post ⟨T.setVm vm₁, locs, cells, slots⟩ (Value.ref b :: argsL).toArray v B ∧
      ∀ target, Steps p.tables e below (B.U.setTop { g with pc := g.pc + 3, stack := v.toList ++ rest }) target → Steps p.tables e below (T.setTop g) target) ∨
    (∃ (q : Addr) (vm₁ : Vm) (B : Pt), s.WarmedH vm₁ ∧ Stand p l e R s m args below meth c B.U B.locs B.cells B.slots ∧ PostX ⟨T.setVm vm₁, locs, cells, slots⟩ (Value.ref b :: argsL).toArray q B ∧
      Steps p.tables e below (T.setTop g) ((B.U.setTop { g with stack := rest }).pushFrame (.throwing q))) := by
  obtain ⟨mk, methM, hnamed, hmethM, hstM, habM⟩ := Cond.instanceMethod_spec hinst
  obtain ⟨methM', cM, hmethM', -, -, -, -, -, -, hsigM⟩ := Cond.code_spec hnamed hcode
  cases hmethM.symm.trans hmethM'
  obtain ⟨ps, dk, kp, hps, hdk, hkp, hsuper, -, -, hnid⟩ := Cond.superclass_spec hown hsup
  have hn : s.methodNamed? ⟨y.cls, y.name, y.desc⟩ = some mk := hnamed
  have hpm : ps = mk.cls := Option.some.inj (hps.symm.trans (findClass_of_methodNamed hnamed))
  have hsub : s.vm.isSubclass ps mk.cls = true := by rw [hpm]; simp [Vm.isSubclass, Vm.isSubclassAux]
  obtain ⟨vm₁, X₁, hstep₁⟩ := X.invokespecialUp hexec hown hlink hsame hn hmethM hstM habM hno hdk hnid hps hsuper hsub (a := b) (cell := cellB) hcell
    (fun z h => by rw [h] at hobj; cases hobj) hkB (g := g) hg (argsL := argsL) (rest := rest) (hlen _ hsigM) hstack hdg
  rcases hK m meth c ⟨T.setVm vm₁, locs, cells, slots⟩ { g with stack := rest } (.invokespecial index) mk (Value.ref b :: argsL).toArray X₁ hg hsize hdg hW (X₁.named hnamed) (hpre vm₁ X₁.warmed) with ⟨v, B, X', hpost, hsteps⟩ | ⟨q, B, X', hpost, hsteps⟩
  · exact Or.inl ⟨v, vm₁, B, X₁.warmed, X', hpost, fun target h => hstep₁ _ (by rw [doInvoke_state]; exact hsteps.trans h)⟩
  · exact Or.inr ⟨q, vm₁, B, X₁.warmed, X', hpost, hstep₁ _ (by rw [doInvoke_state]; exact hsteps)⟩
theorem vx_runSU {y : MethodName} {bytes cc : ByteArray} {maxL nL mc ms n index : Nat} {ret : Option FieldType} {ws : List Cond} {rm : Room} {Pc : Array Value → State → Prop} {Qc : Array Value → State → Outcome → State → Prop} {XC : String → State → State → Prop} {free : Addr → Prop} {Ts : List Cond} {own C : String} {cC : ClassId} {b : Addr} {As rest : List Value} {g : JFrame}
    (hat : ClassAt s C cC) (S : CallFix p m c cc nL s args Ts own) (hM : vx_Met l y ws rm Pc Qc XC mc ms free) (cw : va_CS R s args own index y bytes maxL ret ws rm mc ms n) (hp : PreV s H C b Pc As)
    (hg : g.method = m) (hn : As.length = n) (hsize : g.locals.size = nL) (hstack : g.stack = As.reverse ++ .ref b :: rest) (hW : 2 * g.monitorRoom + (rest.map fun v => v.category).sum ≤ 8) (hdg : decode cc g.pc = .ok (.invokespecial index, 3)) (hf : cells + mc ≤ R.cells ∧ slots + ms ≤ R.slots) :
    vx_Run p l e R s m args below meth c H locs cells slots mc ms g rest (Qc (Value.ref b :: As).toArray) XC free := by
  obtain ⟨⟨hrc, hrs, hfr, hlo, hws, hcw⟩, hl1, hl2, hl3, hl4, hini, hcode, hno, hlen⟩ := cw
  have hK : vx_Back l R p e below s args y 3 8 (PreOf R mc ms Pc) (PostOf Qc mc ms free) (vx_Post XC mc ms free) := vx_back (bytes := bytes) (maxL := maxL) (ret := ret) hM hp.1 hrc hrs hfr hlo hws hcw (fun a' U hW => word_at hW (Or.inl (by first | rfl | simp [Cond.onTables, Cond.keeps, Cond.steady])) hini)
  obtain ⟨hx, hb, hml, ho, -⟩ := S
  obtain ⟨-, ⟨cellB, hcB, hoB, hclB⟩, hPc⟩ := hp
  obtain ⟨hfc, kB, hkB, -⟩ := hat
  cases hfc.symm.trans hclB
  intro T hT X
  rcases vx_callSU X hx (bytes := bytes) (maxL := maxL) (ret := ret) ho hl1 hl2 hl3 hl4 hcode hno hK (by rw [hT]; exact hcB) hoB hkB hg (hsize.trans hml.symm) (argsL := As) (rest := rest) (fun sig h => hn.trans (hlen sig h)) hstack hW (by rw [hb]; exact hdg)
    (fun vm₁ hW₁ => ⟨hf.1, hf.2, hPc (T.setVm vm₁) hT hW₁⟩) with ⟨v, vm₁, ⟨U', l2, c2, s2⟩, hW₁, X', ⟨g', mk, t, L, e1, e2, hq, h1, hL, h2, h3⟩, st⟩ | ⟨q, vm₁, ⟨U', l2, c2, s2⟩, hW₁, X', ⟨g', mk, t, L, E, ce, e1, e2, hq, hce, hcv, hcl, h1, hL, h2, h3⟩, st⟩
  · dsimp only [Pt.U, Pt.locs, Pt.cells, Pt.slots] at X' e1 e2 h1 h2 h3 st
    subst h1; subst h2; subst h3
    exact Or.inl ⟨v, (T.setVm vm₁).calling g' mk (Value.ref b :: As).toArray, t, U', L, hT, X', hL, e1, e2, hq, st⟩
  · dsimp only [Pt.U, Pt.locs, Pt.cells, Pt.slots] at X' e1 e2 h1 h2 h3 st hcl
    subst h1; subst h2; subst h3
    exact Or.inr ⟨q, (T.setVm vm₁).calling g' mk (Value.ref b :: As).toArray, t, U', L, E, ce, hT, X', hL, e1, e2, hq, hce, hcv, vx_cls hW₁ hcl, st⟩
end
/-! ===== END ===== -/
/-! ===== BEGIN a private method of a nest mate that may throw (follows va_callVN, va_callSN, va_runVN, va_runSN) ===== -/
section
variable {p : Program} {l : Launch} {e : Env} {R : Room} {s : State} {m : MethodId} {args : Array Value} {below : List Frame} {meth : Method} {c : Code} {H : Heap} {locs : List Loc} {cells slots : Nat}
variable {T : State}
theorem vx_callVN (X : Stand p l e R s m args below meth c T locs cells slots) (hexec : p.tables.exec = Jvm.exec) {own C : String} {index : Nat} {host : String} {y : MethodName} {bytes : ByteArray} {maxL : Nat} {ret : Option FieldType}
    (hown : s.vm.findClass own = some m.cls) (hlink : (Cond.methodLinkNest own index y host).before args s = true) (hinst : (Cond.instanceMethod y).before args s = true) (hsel : (Cond.selects C y y).before args s = true)
    (hcode : (Cond.code y bytes maxL ret).before args s = true) (hy : y.cls ≠ "java/lang/invoke/MethodHandle" ∧ y.cls ≠ "java/lang/invoke/VarHandle")
    {W : Nat} {Pre : Pt → Array Value → Prop} {Post : Pt → Array Value → Option Value → Pt → Prop} {PostX : Pt → Array Value → Addr → Pt → Prop} (hK : vx_Back l R p e below s args y 3 W Pre Post PostX)
    {b : Addr} {cellB : Cell} (hcell : T.heap[b]? = some cellB) (hobj : cellB.vm.isStatics = false) (hcls : s.vm.findClass C = some cellB.cls)
    {g : JFrame} (hg : g.method = m) (hsize : g.locals.size = c.maxLocals) {argsL rest : List Value} (hlen : ∀ sig, parseMethodDescriptor y.desc = some sig → argsL.length = sig.parameters.length)
    (hstack : g.stack = argsL.reverse ++ .ref b :: rest) (hW : 2 * g.monitorRoom + (rest.map fun v => v.category).sum ≤ W) (hdg : decode c.code g.pc = .ok (.invokevirtual index, 3))
    (hpre : ∀ vm₁, s.WarmedH vm₁ → Pre ⟨T.setVm vm₁, locs, cells, slots⟩ (Value.ref b :: argsL).toArray) :
    (∃ (v : Option Value) (vm₁ : Vm) (B : Pt), s.WarmedH vm₁ ∧ Stand p l e R s m args below meth c B.U B.locs B.cells B.slots ∧ Post ⟨T.setVm vm₁, locs, cells, slots⟩ (Value.ref b :: argsL).toArray v B ∧
      ∀ target, Steps p.tables e below (B.U.setTop { g with pc := g.pc + 3, stack := v.toList ++ rest }) target → Steps p.tables e below (T.setTop g) target) ∨
    (∃ (q : Addr) (vm₁ : Vm) (B : Pt), s.WarmedH vm₁ ∧ Stand p l e R s m args below meth c B.U B.locs B.cells B.slots ∧ PostX ⟨T.setVm vm₁, locs, cells, slots⟩ (Value.ref b :: argsL).toArray q B ∧
      Steps p.tables e below (T.setTop g) ((B.U.setTop { g with stack := rest }).pushFrame (.throwing q))) := by
  obtain ⟨mk, methM, hnamed, hmethM, hstM, habM⟩ := Cond.instanceMethod_spec hinst
  obtain ⟨methM', cM, hmethM', -, -, -, -, -, -, hsigM⟩ := Cond.code_spec hnamed hcode
  cases hmethM.symm.trans hmethM'
  obtain ⟨c2, r2, m2, q1, q2, q3, q4, kP, hkP, hkPi⟩ := Cond.selects_spec hsel
  cases hcls.symm.trans q1
  cases (State.methodFound?_of_named hnamed hy).symm.trans q2
  cases hnamed.symm.trans q3
  have hselP : selectMethod e.platform s.vm cellB.cls mk = .method mk := by rw [Launch.admits_selectMethod X.admits]; exact q4
  obtain ⟨vm₁, X₁, hstep₁⟩ := X.invokevirtualNest hexec hown hlink hnamed hmethM hstM hkP hkPi hy (a := b) (cell := cellB) hcell
    (fun z h => by rw [h] at hobj; cases hobj) hselP hmethM habM hkP hkPi (g := g) hg (argsL := argsL) (rest := rest) (hlen _ hsigM) hstack hdg
  rcases hK m meth c ⟨T.setVm vm₁, locs, cells, slots⟩ { g with stack := rest } (.invokevirtual index) mk (Value.ref b :: argsL).toArray X₁ hg hsize hdg hW (X₁.named hnamed) (hpre vm₁ X₁.warmed) with ⟨v, B, X', hpost, hsteps⟩ | ⟨q, B, X', hpost, hsteps⟩
  · exact Or.inl ⟨v, vm₁, B, X₁.warmed, X', hpost, fun target h => hstep₁ _ fun acts => by rw [doInvoke_state]; exact hsteps.trans h⟩
  · exact Or.inr ⟨q, vm₁, B, X₁.warmed, X', hpost, hstep₁ _ fun acts => by rw [doInvoke_state]; exact hsteps⟩
theorem vx_callSN (X : Stand p l e R s m args below meth c T locs cells slots) (hexec : p.tables.exec = Jvm.exec) {own : String} {index : Nat} {host : String} {y : MethodName} {bytes : ByteArray} {maxL : Nat} {ret : Option FieldType}
    (hown : s.vm.findClass own = some m.cls) (hlink : (Cond.methodLinkNest own index y host).before args s = true) (hstat : (Cond.static y).before args s = true) (hinit : (Cond.initialized y.cls).before args s = true)
    (hcode : (Cond.code y bytes maxL ret).before args s = true) (hy : y.cls ≠ "java/lang/invoke/MethodHandle" ∧ y.cls ≠ "java/lang/invoke/VarHandle")
    {W : Nat} {Pre : Pt → Array Value → Prop} {Post : Pt → Array Value → Option Value → Pt → Prop} {PostX : Pt → Array Value → Addr → Pt → Prop} (hK : vx_Back l R p e below s args y 3 W Pre Post PostX)
    {g : JFrame} (hg : g.method = m) (hsize : g.locals.size = c.maxLocals) {argsL rest : List Value} (hlen : ∀ sig, parseMethodDescriptor y.desc = some sig → argsL.length = sig.parameters.length)
    (hstack : g.stack = argsL.reverse ++ rest) (hW : 2 * g.monitorRoom + (rest.map fun v => v.category).sum ≤ W) (hdg : decode c.code g.pc = .ok (.invokestatic index, 3))
    (hpre : ∀ vm₁, s.WarmedH vm₁ → Pre ⟨T.setVm vm₁, locs, cells, slots⟩ argsL.toArray) :
    (∃ (v : Option Value) (vm₁ : Vm) (B : Pt), s.WarmedH vm₁ ∧ Stand p l e R s m args below meth c B.U B.locs B.cells B.slots ∧ Post ⟨T.setVm vm₁, locs, cells, slots⟩ argsL.toArray v B ∧
      ∀ target, Steps p.tables e below (B.U.setTop { g with pc := g.pc + 3, stack := v.toList ++ rest }) target → Steps p.tables e below (T.setTop g) target) ∨
    (∃ (q : Addr) (vm₁ : Vm) (B : Pt), s.WarmedH vm₁ ∧ Stand p l e R s m args below meth c B.U B.locs B.cells B.slots ∧ PostX ⟨T.setVm vm₁, locs, cells, slots⟩ argsL.toArray q B ∧
      Steps p.tables e below (T.setTop g) ((B.U.setTop { g with stack := rest }).pushFrame (.throwing q))) := by
  obtain ⟨mk, hnamed⟩ := Cond.code_named hcode
  obtain ⟨methM, cM, hmethM, -, -, -, -, -, -, hsigM⟩ := Cond.code_spec hnamed hcode
  have hstatic : methM.isStatic = true := Cond.static_spec hnamed hmethM hstat
  obtain ⟨kP, hkP, -⟩ := className_of_methodNamed hnamed
  have hinitP : kP.init = .initialized := Cond.initialized_spec (findClass_of_methodNamed hnamed) hkP hinit
  obtain ⟨vm₁, X₁, hstep₁⟩ := X.invokestaticNest hexec hown hlink hnamed hmethM hstatic hkP hinitP hy (g := g) hg (argsL := argsL) (rest := rest) (hlen _ hsigM) hstack hdg
  rcases hK m meth c ⟨T.setVm vm₁, locs, cells, slots⟩ { g with stack := rest } (.invokestatic index) mk argsL.toArray X₁ hg hsize hdg hW (X₁.named hnamed) (hpre vm₁ X₁.warmed) with ⟨v, B, X', hpost, hsteps⟩ | ⟨q, B, X', hpost, hsteps⟩
  · exact Or.inl ⟨v, vm₁, B, X₁.warmed, X', hpost, fun target h => hstep₁ _ fun acts => by rw [doInvoke_state]; exact hsteps.trans h⟩
  · exact Or.inr ⟨q, vm₁, B, X₁.warmed, X', hpost, hstep₁ _ fun acts => by rw [doInvoke_state]; exact hsteps⟩
theorem vx_runVN {y : MethodName} {bytes cc : ByteArray} {maxL nL mc ms n index : Nat} {ret : Option FieldType} {ws : List Cond} {rm : Room} {Pc : Array Value → State → Prop} {Qc : Array Value → State → Outcome → State → Prop} {XC : String → State → State → Prop} {free : Addr → Prop} {Ts : List Cond} {own C host : String} {b : Addr} {As rest : List Value} {g : JFrame}
    (S : CallFix p m c cc nL s args Ts own) (hM : vx_Met l y ws rm Pc Qc XC mc ms free) (cw : va_CN R s args own index y host bytes maxL ret ws rm mc ms n ∧ (Cond.instanceMethod y).before args s = true ∧ (Cond.selects C y y).before args s = true) (hp : PreV s H C b Pc As)
    (hg : g.method = m) (hn : As.length = n) (hsize : g.locals.size = nL) (hstack : g.stack = As.reverse ++ .ref b :: rest) (hW : 2 * g.monitorRoom + (rest.map fun v => v.category).sum ≤ 8) (hdg : decode cc g.pc = .ok (.invokevirtual index, 3)) (hf : cells + mc ≤ R.cells ∧ slots + ms ≤ R.slots) :
    vx_Run p l e R s m args below meth c H locs cells slots mc ms g rest (Qc (Value.ref b :: As).toArray) XC free := by
  obtain ⟨⟨⟨hrc, hrs, hfr, hlo, hws, hcw⟩, hcode, hini, hy, hlen, hl⟩, hx1, hx2⟩ := cw
  have hK : vx_Back l R p e below s args y 3 8 (PreOf R mc ms Pc) (PostOf Qc mc ms free) (vx_Post XC mc ms free) := vx_back (bytes := bytes) (maxL := maxL) (ret := ret) hM hp.1 hrc hrs hfr hlo hws hcw (fun a' U hW => word_at hW (Or.inl (by first | rfl | simp [Cond.onTables, Cond.keeps, Cond.steady])) hini)
  obtain ⟨hx, hb, hml, ho, -⟩ := S
  obtain ⟨-, ⟨cellB, hcB, hoB, hclB⟩, hPc⟩ := hp
  intro T hT X
  rcases vx_callVN X hx (C := C) (bytes := bytes) (maxL := maxL) (ret := ret) ho hl hx1 hx2 hcode hy hK (by rw [hT]; exact hcB) hoB hclB hg (hsize.trans hml.symm) (argsL := As) (rest := rest) (fun sig h => hn.trans (hlen sig h)) hstack hW (by rw [hb]; exact hdg)
    (fun vm₁ hW₁ => ⟨hf.1, hf.2, hPc (T.setVm vm₁) hT hW₁⟩) with ⟨v, vm₁, ⟨U', l2, c2, s2⟩, hW₁, X', ⟨g', mk, t, L, e1, e2, hq, h1, hL, h2, h3⟩, st⟩ | ⟨q, vm₁, ⟨U', l2, c2, s2⟩, hW₁, X', ⟨g', mk, t, L, E, ce, e1, e2, hq, hce, hcv, hcl, h1, hL, h2, h3⟩, st⟩
  · dsimp only [Pt.U, Pt.locs, Pt.cells, Pt.slots] at X' e1 e2 h1 h2 h3 st
    subst h1; subst h2; subst h3
    exact Or.inl ⟨v, (T.setVm vm₁).calling g' mk (Value.ref b :: As).toArray, t, U', L, hT, X', hL, e1, e2, hq, st⟩
  · dsimp only [Pt.U, Pt.locs, Pt.cells, Pt.slots] at X' e1 e2 h1 h2 h3 st hcl
    subst h1; subst h2; subst h3
    exact Or.inr ⟨q, (T.setVm vm₁).calling g' mk (Value.ref b :: As).toArray, t, U', L, E, ce, hT, X', hL, e1, e2, hq, hce, hcv, vx_cls hW₁ hcl, st⟩
theorem vx_runSN {y : MethodName} {bytes cc : ByteArray} {maxL nL mc ms n index : Nat} {ret : Option FieldType} {ws : List Cond} {rm : Room} {Pc : Array Value → State → Prop} {Qc : Array Value → State → Outcome → State → Prop} {XC : String → State → State → Prop} {free : Addr → Prop} {Ts : List Cond} {own host : String} {As rest : List Value} {g : JFrame}
    (S : CallFix p m c cc nL s args Ts own) (hM : vx_Met l y ws rm Pc Qc XC mc ms free) (cw : va_CN R s args own index y host bytes maxL ret ws rm mc ms n ∧ (Cond.static y).before args s = true ∧ True) (hp : PreS s H Pc As)
    (hg : g.method = m) (hn : As.length = n) (hsize : g.locals.size = nL) (hstack : g.stack = As.reverse ++ rest) (hW : 2 * g.monitorRoom + (rest.map fun v => v.category).sum ≤ 8) (hdg : decode cc g.pc = .ok (.invokestatic index, 3)) (hf : cells + mc ≤ R.cells ∧ slots + ms ≤ R.slots) :
    vx_Run p l e R s m args below meth c H locs cells slots mc ms g rest (Qc As.toArray) XC free := by
  obtain ⟨⟨⟨hrc, hrs, hfr, hlo, hws, hcw⟩, hcode, hini, hy, hlen, hl⟩, hx1, hx2⟩ := cw
  have hK : vx_Back l R p e below s args y 3 8 (PreOf R mc ms Pc) (PostOf Qc mc ms free) (vx_Post XC mc ms free) := vx_back (bytes := bytes) (maxL := maxL) (ret := ret) hM hp.1 hrc hrs hfr hlo hws hcw (fun a' U hW => word_at hW (Or.inl (by first | rfl | simp [Cond.onTables, Cond.keeps, Cond.steady])) hini)
  obtain ⟨hx, hb, hml, ho, -⟩ := S
  have hPc := hp.2
  intro T hT X
  rcases vx_callSN X hx (bytes := bytes) (maxL := maxL) (ret := ret) ho hl hx1 hini hcode hy hK hg (hsize.trans hml.symm) (argsL := As) (rest := rest) (fun sig h => hn.trans (hlen sig h)) hstack hW (by rw [hb]; exact hdg)
    (fun vm₁ hW₁ => ⟨hf.1, hf.2, hPc (T.setVm vm₁) hT hW₁⟩) with ⟨v, vm₁, ⟨U', l2, c2, s2⟩, hW₁, X', ⟨g', mk, t, L, e1, e2, hq, h1, hL, h2, h3⟩, st⟩ | ⟨q, vm₁, ⟨U', l2, c2, s2⟩, hW₁, X', ⟨g', mk, t, L, E, ce, e1, e2, hq, hce, hcv, hcl, h1, hL, h2, h3⟩, st⟩
  · dsimp only [Pt.U, Pt.locs, Pt.cells, Pt.slots] at X' e1 e2 h1 h2 h3 st
    subst h1; subst h2; subst h3
    exact Or.inl ⟨v, (T.setVm vm₁).calling g' mk As.toArray, t, U', L, hT, X', hL, e1, e2, hq, st⟩
  · dsimp only [Pt.U, Pt.locs, Pt.cells, Pt.slots] at X' e1 e2 h1 h2 h3 st hcl
    subst h1; subst h2; subst h3
    exact Or.inr ⟨q, (T.setVm vm₁).calling g' mk As.toArray, t, U', L, E, ce, hT, X', hL, e1, e2, hq, hce, hcv, vx_cls hW₁ hcl, st⟩
end
/-! ===== END ===== -/
/-! ===== BEGIN calls by an interface of methods that may throw (vx_callIF, vx_runF follow va_callIF, va_runF of this kit) ===== -/
section
variable {p : Program} {l : Launch} {e : Env} {R : Room} {s : State} {m : MethodId} {args : Array Value} {below : List Frame} {meth : Method} {c : Code} {H : Heap} {locs : List Loc} {cells slots : Nat} {Q : State → Prop}
variable {mc ms : Nat} {free : Addr → Prop} {A0 A1 : Nat → Prop} {H0 : Heap} {a : Array Value} {pc : Nat} {ls : Array Slot} {st0 rest : List Value}
def vx_Run5 (p : Program) (l : Launch) (e : Env) (R : Room) (s : State) (m : MethodId) (args : Array Value) (below : List Frame) (meth : Method) (c : Code) (H : Heap) (locs : List Loc) (cells slots mc ms : Nat) (g : JFrame) (rest : List Value) (Qa : State → Outcome → State → Prop) (XC : String → State → State → Prop) (free : Addr → Prop) : Prop :=
  ∀ T : State, T.heap = H → Stand p l e R s m args below meth c T locs cells slots →
    (∃ (v : Option Value) (st₀ t T' : State) (L : List Loc), st₀.heap = H ∧ Stand p l e R s m args below meth c T' (locs ++ L) (cells + mc) (slots + ms) ∧ (∀ q ∈ L, free q.base) ∧ T'.heap = t.heap ∧ T'.vm = t.vm ∧ Qa st₀ (.returned v) t ∧
      Goes p e below T g T' { g with pc := g.pc + 5, stack := v.toList ++ rest }) ∨
    (∃ (q : Addr) (st₀ t T' : State) (L : List Loc) (E : String) (ce : Cell), st₀.heap = H ∧ Stand p l e R s m args below meth c T' (locs ++ L) (cells + mc) (slots + ms) ∧ (∀ z ∈ L, free z.base) ∧ T'.heap = t.heap ∧ T'.vm = t.vm ∧ XC E st₀ t ∧ t.heap[q]? = some ce ∧ ce.vm = .none ∧ s.vm.findClass E = some ce.cls ∧
      Steps p.tables e below (T.setTop g) ((T'.setTop { g with stack := rest }).pushFrame (.throwing q)))
theorem vx_callIF {T : State} (X : Stand p l e R s m args below meth c T locs cells slots) (hexec : p.tables.exec = Jvm.exec) {own C : String} {index count : Nat} {x y : MethodName} {bytes : ByteArray} {maxL : Nat} {ret : Option FieldType}
    (hown : s.vm.findClass own = some m.cls) (hlink : (Cond.methodLink own index x).before args s = true) (hdecl : (Cond.declares x).before args s = true) (hface : (Cond.interfaceMethod x.cls x.cls x.name x.desc).before args s = true)
    (hsel : (Cond.selects C x y).before args s = true) (hinst : (Cond.instanceMethod y).before args s = true) (hpub : (Cond.publicMethod y).before args s = true) (hunh : (Cond.unhidden C x.name x.desc).before args s = true)
    (hcast : (Cond.castable C x.cls).before args s = true) (hcode : (Cond.code y bytes maxL ret).before args s = true) (hx : x.cls ≠ "java/lang/invoke/MethodHandle" ∧ x.cls ≠ "java/lang/invoke/VarHandle")
    {W9 : Nat} {Pre : Pt → Array Value → Prop} {Post : Pt → Array Value → Option Value → Pt → Prop} {PostX : Pt → Array Value → Addr → Pt → Prop} (hK : vx_Back l R p e below s args y 5 W9 Pre Post PostX)
    {b : Addr} {cellB : Cell} {kB : Class} (hcell : T.heap[b]? = some cellB) (hobj : cellB.vm.isStatics = false) (hcls : s.vm.findClass C = some cellB.cls) (hkB : s.vm.classes[cellB.cls]? = some kB)
    {g : JFrame} (hg : g.method = m) (hsize : g.locals.size = c.maxLocals) {argsL rest : List Value} (hlen : ∀ sig, parseMethodDescriptor x.desc = some sig → argsL.length = sig.parameters.length)
    (hstack : g.stack = argsL.reverse ++ .ref b :: rest) (hW : 2 * g.monitorRoom + (rest.map fun v => v.category).sum ≤ W9) (hdg : decode c.code g.pc = .ok (.invokeinterface index count, 5))
    (hpre : ∀ vm₁, s.WarmedH vm₁ → Pre ⟨T.setVm vm₁, locs, cells, slots⟩ (Value.ref b :: argsL).toArray) :
    (∃ (v : Option Value) (vm₁ : Vm) (B : Pt), s.WarmedH vm₁ ∧ Stand p l e R s m args below meth c B.U B.locs B.cells B.slots ∧ Post ⟨T.setVm vm₁, locs, cells, slots⟩ (Value.ref b :: argsL).toArray v B ∧
      ∀ target, Steps p.tables e below (B.U.setTop { g with pc := g.pc + 5, stack := v.toList ++ rest }) target → Steps p.tables e below (T.setTop g) target) ∨
    (∃ (q : Addr) (vm₁ : Vm) (B : Pt), s.WarmedH vm₁ ∧ Stand p l e R s m args below meth c B.U B.locs B.cells B.slots ∧ PostX ⟨T.setVm vm₁, locs, cells, slots⟩ (Value.ref b :: argsL).toArray q B ∧
      Steps p.tables e below (T.setTop g) ((B.U.setTop { g with stack := rest }).pushFrame (.throwing q))) := by
  obtain ⟨r0, r, hn, hrm, hstR, hsigR⟩ := Cond.declares_spec hdecl
  obtain ⟨cL, kL, r1, hcL, hkL, hiL, hfoundL, hn1⟩ := Cond.interfaceMethod_spec hface
  cases hn.symm.trans hn1
  have hr0cls : r0.cls = cL := Option.some.inj ((findClass_of_methodNamed hn).symm.trans hcL)
  obtain ⟨hnameR, hdescR⟩ := name_of_methodNamed hn hrm
  obtain ⟨mk, methM, hnamed, hmethM, -, habM⟩ := Cond.instanceMethod_spec hinst
  obtain ⟨c2, r2, m2, q1, q2, q3, q4, -⟩ := Cond.selects_spec hsel
  cases hcls.symm.trans q1
  cases hfoundL.symm.trans q2
  cases hnamed.symm.trans q3
  have hselP : selectMethod e.platform s.vm cellB.cls r0 = .method mk := by rw [Launch.admits_selectMethod X.admits]; exact q4
  have hpubM : hasFlag methM.accessFlags Acc.public_ = true := Cond.publicMethod_spec hnamed hmethM hpub
  have hway : ((cellB.cls :: s.vm.superclasses cellB.cls).any fun k => (declaredIn s.vm r.name r.desc k).any fun (_, z) => z.isPrivate || z.isStatic) = false := by
    rw [hnameR, hdescR]; exact Cond.unhidden_spec hcls hunh
  obtain ⟨c3, t3, w1, w2, w3⟩ := Cond.castable_spec hcast
  cases hcls.symm.trans w1
  cases hcL.symm.trans w2
  obtain ⟨vm₁, X₁, hstep₁⟩ := X.invokeinterface hexec hown hlink hn hrm hstR (by rw [hr0cls]; exact hkL) hiL hx (a := b) (cell := cellB) (kcell := kB) hcell
    (fun z h => by rw [h] at hobj; cases hobj) hkB (by rw [hr0cls]; exact w3) hselP hmethM hway hpubM habM (g := g) hg (argsL := argsL) (rest := rest) (hlen _ hsigR) hstack hdg
  rcases hK m meth c ⟨T.setVm vm₁, locs, cells, slots⟩ { g with stack := rest } (.invokeinterface index count) mk (Value.ref b :: argsL).toArray X₁ hg hsize hdg hW (X₁.named hnamed) (hpre vm₁ X₁.warmed) with ⟨v, B, X', hpost, hsteps⟩ | ⟨q, B, X', hpost, hsteps⟩
  · exact Or.inl ⟨v, vm₁, B, X₁.warmed, X', hpost, fun target h => hstep₁ _ fun acts => by rw [doInvoke_state]; exact hsteps.trans h⟩
  · exact Or.inr ⟨q, vm₁, B, X₁.warmed, X', hpost, hstep₁ _ fun acts => by rw [doInvoke_state]; exact hsteps⟩
theorem vx_runF {x y : MethodName} {bytes cc : ByteArray} {maxL nL mc ms n index count : Nat} {ret : Option FieldType} {ws : List Cond} {rm : Room} {Pc : Array Value → State → Prop} {Qc : Array Value → State → Outcome → State → Prop} {XC : String → State → State → Prop} {free : Addr → Prop} {Ts : List Cond} {own C : String} {cC : ClassId} {b : Addr} {As rest : List Value} {g : JFrame}
    (hat : ClassAt s C cC) (S : CallFix p m c cc nL s args Ts own) (hM : vx_Met l y ws rm Pc Qc XC mc ms free) (cw : va_CI R s args own C index x y bytes maxL ret ws rm mc ms n) (hp : PreV s H C b Pc As)
    (hg : g.method = m) (hn : As.length = n) (hsize : g.locals.size = nL) (hstack : g.stack = As.reverse ++ .ref b :: rest) (hW : 2 * g.monitorRoom + (rest.map fun v => v.category).sum ≤ 8) (hdg : decode cc g.pc = .ok (.invokeinterface index count, 5)) (hf : cells + mc ≤ R.cells ∧ slots + ms ≤ R.slots) :
    vx_Run5 p l e R s m args below meth c H locs cells slots mc ms g rest (Qc (Value.ref b :: As).toArray) XC free := by
  obtain ⟨hrc, hrs, hfr, hlo, hws, hcw⟩ := cw.back
  have hini := cw.init
  have hK : vx_Back l R p e below s args y 5 8 (PreOf R mc ms Pc) (PostOf Qc mc ms free) (vx_Post XC mc ms free) := vx_back (bytes := bytes) (maxL := maxL) (ret := ret) hM hp.1 hrc hrs hfr hlo hws hcw (fun a' U hW => word_at hW (Or.inl (by first | rfl | simp [Cond.onTables, Cond.keeps, Cond.steady])) hini)
  obtain ⟨hx, hb, hml, ho, -⟩ := S
  obtain ⟨-, ⟨cellB, hcB, hoB, hclB⟩, hPc⟩ := hp
  obtain ⟨hfc, kB, hkB, -⟩ := hat
  cases hfc.symm.trans hclB
  intro T hT X
  rcases vx_callIF X hx (C := C) (bytes := bytes) (maxL := maxL) (ret := ret) ho cw.link cw.decl cw.face cw.sel cw.inst cw.pub cw.unh cw.cast cw.code cw.notMH hK (by rw [hT]; exact hcB) hoB hclB hkB hg (hsize.trans hml.symm) (argsL := As) (rest := rest) (fun sig h => hn.trans (cw.len sig h)) hstack hW (by rw [hb]; exact hdg)
    (fun vm₁ hW₁ => ⟨hf.1, hf.2, hPc (T.setVm vm₁) hT hW₁⟩) with ⟨v, vm₁, ⟨U', l2, c2, s2⟩, hW₁, X', ⟨g', mk, t, L, e1, e2, hq, h1, hL, h2, h3⟩, st⟩ | ⟨q, vm₁, ⟨U', l2, c2, s2⟩, hW₁, X', ⟨g', mk, t, L, E, ce, e1, e2, hq, hce, hcv, hcl, h1, hL, h2, h3⟩, st⟩
  · dsimp only [Pt.U, Pt.locs, Pt.cells, Pt.slots] at X' e1 e2 h1 h2 h3 st
    subst h1; subst h2; subst h3
    exact Or.inl ⟨v, (T.setVm vm₁).calling g' mk (Value.ref b :: As).toArray, t, U', L, hT, X', hL, e1, e2, hq, st⟩
  · dsimp only [Pt.U, Pt.locs, Pt.cells, Pt.slots] at X' e1 e2 h1 h2 h3 st hcl
    subst h1; subst h2; subst h3
    exact Or.inr ⟨q, (T.setVm vm₁).calling g' mk (Value.ref b :: As).toArray, t, U', L, E, ce, hT, X', hL, e1, e2, hq, hce, hcv, vx_cls hW₁ hcl, st⟩
theorem vx_callFv {S SX : Type} {post : S → Prop} {px : SX → Prop} {B : S → State → Prop} {BX : String → SX → State → Prop} {AX : Nat → Prop} (hr : vx_Run5 p l e R s m args below meth c H locs cells slots mc ms (F0 m pc ls st0) rest (va_Qv post B A1 a) (vx_X px BX AX) free) (hS : va_S A0 H0 H locs) (hA : ∀ q, q < H.size → A1 q → A0 q) (hf : ∀ q, free q → A0 q) (hAX : ∀ q, q < H.size → AX q → A0 q)
    (kx : ∀ (E : String) (ce : Cell) (q9 : Addr) (u : SX) (t : State) (H1 : Heap) (locs1 : List Loc), t.heap = H1 → s.vm.Alike t.vm → px u → BX E u t → H.size ≤ H1.size → (∀ q : Nat, q < H.size → ¬ AX q → H1[q]? = H[q]?) → va_S A0 H0 H1 locs1 → H1[q9]? = some ce → ce.vm = .none → s.vm.findClass E = some ce.cls → vx_W p l e R s m args below meth c H1 locs1 (cells + mc) (slots + ms) Q (F0 m pc ls rest) q9)
    (kk : ∀ (u : S) (t : State) (H1 : Heap) (locs1 : List Loc), t.heap = H1 → s.vm.Alike t.vm → post u → B u t → H.size ≤ H1.size → (∀ q : Nat, q < H.size → ¬ A1 q → H1[q]? = H[q]?) → va_S A0 H0 H1 locs1 → W p l e R s m args below meth c H1 locs1 (cells + mc) (slots + ms) Q (F0 m (pc + 5) ls (rest))) : W p l e R s m args below meth c H locs cells slots Q (F0 m pc ls st0) := by
  intro T hT X
  rcases hr T hT X with ⟨v, st₀, t, T', L, h0, X', hL, e1, e2, ⟨⟨u, hv, hp, hb⟩, hF⟩, st⟩ | ⟨q, st₀, t, T', L, E, ce, h0, X', hL, e1, e2, ⟨u, hp, hb, hF⟩, hce, hcv, hcl, st⟩
  · cases hv
    obtain ⟨k1, k2, k3⟩ := vx_keep h0 e1 hS hA hf hL hF
    obtain ⟨t2, a1, b1⟩ := kk u t T'.heap (locs ++ L) e1.symm (by rw [← e2]; exact X'.warmed.alike) hp hb k1 k2 k3 T' rfl X'
    exact ⟨t2, st t2 a1, b1⟩
  · obtain ⟨k1, k2, k3⟩ := vx_keep h0 e1 hS hAX hf hL hF
    obtain ⟨t2, a1, b1⟩ := kx E ce q u t T'.heap (locs ++ L) e1.symm (by rw [← e2]; exact X'.warmed.alike) hp hb k1 k2 k3 (by rw [e1]; exact hce) hcv hcl T' rfl X'
    exact ⟨t2, st.trans a1, b1⟩
theorem vx_callFi {S SX : Type} {post : Int32 → S → Prop} {px : SX → Prop} {B : S → State → Prop} {BX : String → SX → State → Prop} {AX : Nat → Prop} (hr : vx_Run5 p l e R s m args below meth c H locs cells slots mc ms (F0 m pc ls st0) rest (va_Qi post B A1 a) (vx_X px BX AX) free) (hS : va_S A0 H0 H locs) (hA : ∀ q, q < H.size → A1 q → A0 q) (hf : ∀ q, free q → A0 q) (hAX : ∀ q, q < H.size → AX q → A0 q)
    (kx : ∀ (E : String) (ce : Cell) (q9 : Addr) (u : SX) (t : State) (H1 : Heap) (locs1 : List Loc), t.heap = H1 → s.vm.Alike t.vm → px u → BX E u t → H.size ≤ H1.size → (∀ q : Nat, q < H.size → ¬ AX q → H1[q]? = H[q]?) → va_S A0 H0 H1 locs1 → H1[q9]? = some ce → ce.vm = .none → s.vm.findClass E = some ce.cls → vx_W p l e R s m args below meth c H1 locs1 (cells + mc) (slots + ms) Q (F0 m pc ls rest) q9)
    (kk : ∀ (r : Int32) (u : S) (t : State) (H1 : Heap) (locs1 : List Loc), t.heap = H1 → s.vm.Alike t.vm → post r u → B u t → H.size ≤ H1.size → (∀ q : Nat, q < H.size → ¬ A1 q → H1[q]? = H[q]?) → va_S A0 H0 H1 locs1 → W p l e R s m args below meth c H1 locs1 (cells + mc) (slots + ms) Q (F0 m (pc + 5) ls (.int r :: rest))) : W p l e R s m args below meth c H locs cells slots Q (F0 m pc ls st0) := by
  intro T hT X
  rcases hr T hT X with ⟨v, st₀, t, T', L, h0, X', hL, e1, e2, ⟨⟨r, u, hv, hp, hb⟩, hF⟩, st⟩ | ⟨q, st₀, t, T', L, E, ce, h0, X', hL, e1, e2, ⟨u, hp, hb, hF⟩, hce, hcv, hcl, st⟩
  · cases hv
    obtain ⟨k1, k2, k3⟩ := vx_keep h0 e1 hS hA hf hL hF
    obtain ⟨t2, a1, b1⟩ := kk r u t T'.heap (locs ++ L) e1.symm (by rw [← e2]; exact X'.warmed.alike) hp hb k1 k2 k3 T' rfl X'
    exact ⟨t2, st t2 a1, b1⟩
  · obtain ⟨k1, k2, k3⟩ := vx_keep h0 e1 hS hAX hf hL hF
    obtain ⟨t2, a1, b1⟩ := kx E ce q u t T'.heap (locs ++ L) e1.symm (by rw [← e2]; exact X'.warmed.alike) hp hb k1 k2 k3 (by rw [e1]; exact hce) hcv hcl T' rfl X'
    exact ⟨t2, st.trans a1, b1⟩
theorem vx_callFl {S SX : Type} {post : Int64 → S → Prop} {px : SX → Prop} {B : S → State → Prop} {BX : String → SX → State → Prop} {AX : Nat → Prop} (hr : vx_Run5 p l e R s m args below meth c H locs cells slots mc ms (F0 m pc ls st0) rest (va_Ql post B A1 a) (vx_X px BX AX) free) (hS : va_S A0 H0 H locs) (hA : ∀ q, q < H.size → A1 q → A0 q) (hf : ∀ q, free q → A0 q) (hAX : ∀ q, q < H.size → AX q → A0 q)
    (kx : ∀ (E : String) (ce : Cell) (q9 : Addr) (u : SX) (t : State) (H1 : Heap) (locs1 : List Loc), t.heap = H1 → s.vm.Alike t.vm → px u → BX E u t → H.size ≤ H1.size → (∀ q : Nat, q < H.size → ¬ AX q → H1[q]? = H[q]?) → va_S A0 H0 H1 locs1 → H1[q9]? = some ce → ce.vm = .none → s.vm.findClass E = some ce.cls → vx_W p l e R s m args below meth c H1 locs1 (cells + mc) (slots + ms) Q (F0 m pc ls rest) q9)
    (kk : ∀ (r : Int64) (u : S) (t : State) (H1 : Heap) (locs1 : List Loc), t.heap = H1 → s.vm.Alike t.vm → post r u → B u t → H.size ≤ H1.size → (∀ q : Nat, q < H.size → ¬ A1 q → H1[q]? = H[q]?) → va_S A0 H0 H1 locs1 → W p l e R s m args below meth c H1 locs1 (cells + mc) (slots + ms) Q (F0 m (pc + 5) ls (.long r :: rest))) : W p l e R s m args below meth c H locs cells slots Q (F0 m pc ls st0) := by
  intro T hT X
  rcases hr T hT X with ⟨v, st₀, t, T', L, h0, X', hL, e1, e2, ⟨⟨r, u, hv, hp, hb⟩, hF⟩, st⟩ | ⟨q, st₀, t, T', L, E, ce, h0, X', hL, e1, e2, ⟨u, hp, hb, hF⟩, hce, hcv, hcl, st⟩
  · cases hv
    obtain ⟨k1, k2, k3⟩ := vx_keep h0 e1 hS hA hf hL hF
    obtain ⟨t2, a1, b1⟩ := kk r u t T'.heap (locs ++ L) e1.symm (by rw [← e2]; exact X'.warmed.alike) hp hb k1 k2 k3 T' rfl X'
    exact ⟨t2, st t2 a1, b1⟩
  · obtain ⟨k1, k2, k3⟩ := vx_keep h0 e1 hS hAX hf hL hF
    obtain ⟨t2, a1, b1⟩ := kx E ce q u t T'.heap (locs ++ L) e1.symm (by rw [← e2]; exact X'.warmed.alike) hp hb k1 k2 k3 (by rw [e1]; exact hce) hcv hcl T' rfl X'
    exact ⟨t2, st.trans a1, b1⟩
theorem vx_callFf {S SX : Type} {post : UInt32 → S → Prop} {px : SX → Prop} {B : S → State → Prop} {BX : String → SX → State → Prop} {AX : Nat → Prop} (hr : vx_Run5 p l e R s m args below meth c H locs cells slots mc ms (F0 m pc ls st0) rest (va_Qf post B A1 a) (vx_X px BX AX) free) (hS : va_S A0 H0 H locs) (hA : ∀ q, q < H.size → A1 q → A0 q) (hf : ∀ q, free q → A0 q) (hAX : ∀ q, q < H.size → AX q → A0 q)
    (kx : ∀ (E : String) (ce : Cell) (q9 : Addr) (u : SX) (t : State) (H1 : Heap) (locs1 : List Loc), t.heap = H1 → s.vm.Alike t.vm → px u → BX E u t → H.size ≤ H1.size → (∀ q : Nat, q < H.size → ¬ AX q → H1[q]? = H[q]?) → va_S A0 H0 H1 locs1 → H1[q9]? = some ce → ce.vm = .none → s.vm.findClass E = some ce.cls → vx_W p l e R s m args below meth c H1 locs1 (cells + mc) (slots + ms) Q (F0 m pc ls rest) q9)
    (kk : ∀ (r : UInt32) (u : S) (t : State) (H1 : Heap) (locs1 : List Loc), t.heap = H1 → s.vm.Alike t.vm → post r u → B u t → H.size ≤ H1.size → (∀ q : Nat, q < H.size → ¬ A1 q → H1[q]? = H[q]?) → va_S A0 H0 H1 locs1 → W p l e R s m args below meth c H1 locs1 (cells + mc) (slots + ms) Q (F0 m (pc + 5) ls (.float r :: rest))) : W p l e R s m args below meth c H locs cells slots Q (F0 m pc ls st0) := by
  intro T hT X
  rcases hr T hT X with ⟨v, st₀, t, T', L, h0, X', hL, e1, e2, ⟨⟨r, u, hv, hp, hb⟩, hF⟩, st⟩ | ⟨q, st₀, t, T', L, E, ce, h0, X', hL, e1, e2, ⟨u, hp, hb, hF⟩, hce, hcv, hcl, st⟩
  · cases hv
    obtain ⟨k1, k2, k3⟩ := vx_keep h0 e1 hS hA hf hL hF
    obtain ⟨t2, a1, b1⟩ := kk r u t T'.heap (locs ++ L) e1.symm (by rw [← e2]; exact X'.warmed.alike) hp hb k1 k2 k3 T' rfl X'
    exact ⟨t2, st t2 a1, b1⟩
  · obtain ⟨k1, k2, k3⟩ := vx_keep h0 e1 hS hAX hf hL hF
    obtain ⟨t2, a1, b1⟩ := kx E ce q u t T'.heap (locs ++ L) e1.symm (by rw [← e2]; exact X'.warmed.alike) hp hb k1 k2 k3 (by rw [e1]; exact hce) hcv hcl T' rfl X'
    exact ⟨t2, st.trans a1, b1⟩
theorem vx_callFd {S SX : Type} {post : UInt64 → S → Prop} {px : SX → Prop} {B : S → State → Prop} {BX : String → SX → State → Prop} {AX : Nat → Prop} (hr : vx_Run5 p l e R s m args below meth c H locs cells slots mc ms (F0 m pc ls st0) rest (va_Qd post B A1 a) (vx_X px BX AX) free) (hS : va_S A0 H0 H locs) (hA : ∀ q, q < H.size → A1 q → A0 q) (hf : ∀ q, free q → A0 q) (hAX : ∀ q, q < H.size → AX q → A0 q)
    (kx : ∀ (E : String) (ce : Cell) (q9 : Addr) (u : SX) (t : State) (H1 : Heap) (locs1 : List Loc), t.heap = H1 → s.vm.Alike t.vm → px u → BX E u t → H.size ≤ H1.size → (∀ q : Nat, q < H.size → ¬ AX q → H1[q]? = H[q]?) → va_S A0 H0 H1 locs1 → H1[q9]? = some ce → ce.vm = .none → s.vm.findClass E = some ce.cls → vx_W p l e R s m args below meth c H1 locs1 (cells + mc) (slots + ms) Q (F0 m pc ls rest) q9)
    (kk : ∀ (r : UInt64) (u : S) (t : State) (H1 : Heap) (locs1 : List Loc), t.heap = H1 → s.vm.Alike t.vm → post r u → B u t → H.size ≤ H1.size → (∀ q : Nat, q < H.size → ¬ A1 q → H1[q]? = H[q]?) → va_S A0 H0 H1 locs1 → W p l e R s m args below meth c H1 locs1 (cells + mc) (slots + ms) Q (F0 m (pc + 5) ls (.double r :: rest))) : W p l e R s m args below meth c H locs cells slots Q (F0 m pc ls st0) := by
  intro T hT X
  rcases hr T hT X with ⟨v, st₀, t, T', L, h0, X', hL, e1, e2, ⟨⟨r, u, hv, hp, hb⟩, hF⟩, st⟩ | ⟨q, st₀, t, T', L, E, ce, h0, X', hL, e1, e2, ⟨u, hp, hb, hF⟩, hce, hcv, hcl, st⟩
  · cases hv
    obtain ⟨k1, k2, k3⟩ := vx_keep h0 e1 hS hA hf hL hF
    obtain ⟨t2, a1, b1⟩ := kk r u t T'.heap (locs ++ L) e1.symm (by rw [← e2]; exact X'.warmed.alike) hp hb k1 k2 k3 T' rfl X'
    exact ⟨t2, st t2 a1, b1⟩
  · obtain ⟨k1, k2, k3⟩ := vx_keep h0 e1 hS hAX hf hL hF
    obtain ⟨t2, a1, b1⟩ := kx E ce q u t T'.heap (locs ++ L) e1.symm (by rw [← e2]; exact X'.warmed.alike) hp hb k1 k2 k3 (by rw [e1]; exact hce) hcv hcl T' rfl X'
    exact ⟨t2, st.trans a1, b1⟩
end
/-! ===== END ===== -/
/-! ===== BEGIN by an interface, a method with a table of its own that may throw (follows va_callIFW, va_runFW) ===== -/
section
variable {p : Program} {l : Launch} {e : Env} {R : Room} {s : State} {m : MethodId} {args : Array Value} {below : List Frame} {meth : Method} {c : Code} {H : Heap} {locs : List Loc} {cells slots : Nat}
theorem vx_callIFW {T : State} (X : Stand p l e R s m args below meth c T locs cells slots) (hexec : p.tables.exec = Jvm.exec) {own C : String} {index count : Nat} {x y : MethodName} {bytes : ByteArray} {maxL : Nat} {ret : Option FieldType} {hh : List (Nat × Nat × Nat × Nat)}
    (hown : s.vm.findClass own = some m.cls) (hlink : (Cond.methodLink own index x).before args s = true) (hdecl : (Cond.declares x).before args s = true) (hface : (Cond.interfaceMethod x.cls x.cls x.name x.desc).before args s = true)
    (hsel : (Cond.selects C x y).before args s = true) (hinst : (Cond.instanceMethod y).before args s = true) (hpub : (Cond.publicMethod y).before args s = true) (hunh : (Cond.unhidden C x.name x.desc).before args s = true)
    (hcast : (Cond.castable C x.cls).before args s = true) (hcode : (Cond.codeWith y bytes maxL ret hh).before args s = true) (hx : x.cls ≠ "java/lang/invoke/MethodHandle" ∧ x.cls ≠ "java/lang/invoke/VarHandle")
    {W : Nat} {Pre : Pt → Array Value → Prop} {Post : Pt → Array Value → Option Value → Pt → Prop} {PostX : Pt → Array Value → Addr → Pt → Prop} (hK : vx_Back l R p e below s args y 5 W Pre Post PostX)
    {b : Addr} {cellB : Cell} {kB : Class} (hcell : T.heap[b]? = some cellB) (hobj : cellB.vm.isStatics = false) (hcls : s.vm.findClass C = some cellB.cls) (hkB : s.vm.classes[cellB.cls]? = some kB)
    {g : JFrame} (hg : g.method = m) (hsize : g.locals.size = c.maxLocals) {argsL rest : List Value} (hlen : ∀ sig, parseMethodDescriptor x.desc = some sig → argsL.length = sig.parameters.length)
    (hstack : g.stack = argsL.reverse ++ .ref b :: rest) (hW : 2 * g.monitorRoom + (rest.map fun v => v.category).sum ≤ W) (hdg : decode c.code g.pc = .ok (.invokeinterface index count, 5))
    (hpre : ∀ vm₁, s.WarmedH vm₁ → Pre ⟨T.setVm vm₁, locs, cells, slots⟩ (Value.ref b :: argsL).toArray) :
    (∃ (v : Option Value) (vm₁ : Vm) (B : Pt), s.WarmedH vm₁ ∧ Stand p l e R s m args below meth c B.U B.locs B.cells B.slots ∧ Post ⟨T.setVm vm₁, locs, cells, slots⟩ (Value.ref b :: argsL).toArray v B ∧
      ∀ target, Steps p.tables e below (B.U.setTop { g with pc := g.pc + 5, stack := v.toList ++ rest }) target → Steps p.tables e below (T.setTop g) target) ∨
    (∃ (q : Addr) (vm₁ : Vm) (B : Pt), s.WarmedH vm₁ ∧ Stand p l e R s m args below meth c B.U B.locs B.cells B.slots ∧ PostX ⟨T.setVm vm₁, locs, cells, slots⟩ (Value.ref b :: argsL).toArray q B ∧
      Steps p.tables e below (T.setTop g) ((B.U.setTop { g with stack := rest }).pushFrame (.throwing q))) := by
  obtain ⟨r0, r, hn, hrm, hstR, hsigR⟩ := Cond.declares_spec hdecl
  obtain ⟨cL, kL, r1, hcL, hkL, hiL, hfoundL, hn1⟩ := Cond.interfaceMethod_spec hface
  cases hn.symm.trans hn1
  have hr0cls : r0.cls = cL := Option.some.inj ((findClass_of_methodNamed hn).symm.trans hcL)
  obtain ⟨hnameR, hdescR⟩ := name_of_methodNamed hn hrm
  obtain ⟨mk, methM, hnamed, hmethM, -, habM⟩ := Cond.instanceMethod_spec hinst
  obtain ⟨c2, r2, m2, q1, q2, q3, q4, -⟩ := Cond.selects_spec hsel
  cases hcls.symm.trans q1
  cases hfoundL.symm.trans q2
  cases hnamed.symm.trans q3
  have hselP : selectMethod e.platform s.vm cellB.cls r0 = .method mk := by rw [Launch.admits_selectMethod X.admits]; exact q4
  have hpubM : hasFlag methM.accessFlags Acc.public_ = true := Cond.publicMethod_spec hnamed hmethM hpub
  have hway : ((cellB.cls :: s.vm.superclasses cellB.cls).any fun k => (declaredIn s.vm r.name r.desc k).any fun (_, z) => z.isPrivate || z.isStatic) = false := by
    rw [hnameR, hdescR]; exact Cond.unhidden_spec hcls hunh
  obtain ⟨c3, t3, w1, w2, w3⟩ := Cond.castable_spec hcast
  cases hcls.symm.trans w1
  cases hcL.symm.trans w2
  obtain ⟨vm₁, X₁, hstep₁⟩ := X.invokeinterface hexec hown hlink hn hrm hstR (by rw [hr0cls]; exact hkL) hiL hx (a := b) (cell := cellB) (kcell := kB) hcell
    (fun z h => by rw [h] at hobj; cases hobj) hkB (by rw [hr0cls]; exact w3) hselP hmethM hway hpubM habM (g := g) hg (argsL := argsL) (rest := rest) (hlen _ hsigR) hstack hdg
  rcases hK m meth c ⟨T.setVm vm₁, locs, cells, slots⟩ { g with stack := rest } (.invokeinterface index count) mk (Value.ref b :: argsL).toArray X₁ hg hsize hdg hW (X₁.named hnamed) (hpre vm₁ X₁.warmed) with ⟨v, B, X', hpost, hsteps⟩ | ⟨q, B, X', hpost, hsteps⟩
  · exact Or.inl ⟨v, vm₁, B, X₁.warmed, X', hpost, fun target h => hstep₁ _ fun acts => by rw [doInvoke_state]; exact hsteps.trans h⟩
  · exact Or.inr ⟨q, vm₁, B, X₁.warmed, X', hpost, hstep₁ _ fun acts => by rw [doInvoke_state]; exact hsteps⟩
theorem vx_runFW {x y : MethodName} {bytes cc : ByteArray} {maxL nL mc ms n index count : Nat} {ret : Option FieldType} {hh : List (Nat × Nat × Nat × Nat)} {ws : List Cond} {rm : Room} {Pc : Array Value → State → Prop} {Qc : Array Value → State → Outcome → State → Prop} {XC : String → State → State → Prop} {free : Addr → Prop} {Ts : List Cond} {own C : String} {cC : ClassId} {b : Addr} {As rest : List Value} {g : JFrame}
    (hat : ClassAt s C cC) (S : CallFix p m c cc nL s args Ts own) (hM : vx_Met l y ws rm Pc Qc XC mc ms free) (cw : va_CIW R s args own C index x y bytes maxL ret hh ws rm mc ms n) (hp : PreV s H C b Pc As)
    (hg : g.method = m) (hn : As.length = n) (hsize : g.locals.size = nL) (hstack : g.stack = As.reverse ++ .ref b :: rest) (hW : 2 * g.monitorRoom + (rest.map fun v => v.category).sum ≤ 8) (hdg : decode cc g.pc = .ok (.invokeinterface index count, 5)) (hf : cells + mc ≤ R.cells ∧ slots + ms ≤ R.slots) :
    vx_Run5 p l e R s m args below meth c H locs cells slots mc ms g rest (Qc (Value.ref b :: As).toArray) XC free := by
  obtain ⟨hrc, hrs, hfr, hlo, hws, hcw⟩ := cw.back
  have hini := cw.init
  have hK : vx_Back l R p e below s args y 5 8 (PreOf R mc ms Pc) (PostOf Qc mc ms free) (vx_Post XC mc ms free) := vx_backW (hh := hh) (bytes := bytes) (maxL := maxL) (ret := ret) hM hp.1 hrc hrs hfr hlo hws hcw (fun a' U hW => word_at hW (Or.inl (by first | rfl | simp [Cond.onTables, Cond.keeps, Cond.steady])) hini)
  obtain ⟨hx, hb, hml, ho, -⟩ := S
  obtain ⟨-, ⟨cellB, hcB, hoB, hclB⟩, hPc⟩ := hp
  obtain ⟨hfc, kB, hkB, -⟩ := hat
  cases hfc.symm.trans hclB
  intro T hT X
  rcases vx_callIFW X hx (C := C) (hh := hh) (bytes := bytes) (maxL := maxL) (ret := ret) ho cw.link cw.decl cw.face cw.sel cw.inst cw.pub cw.unh cw.cast cw.code cw.notMH hK (by rw [hT]; exact hcB) hoB hclB hkB hg (hsize.trans hml.symm) (argsL := As) (rest := rest) (fun sig h => hn.trans (cw.len sig h)) hstack hW (by rw [hb]; exact hdg)
    (fun vm₁ hW₁ => ⟨hf.1, hf.2, hPc (T.setVm vm₁) hT hW₁⟩) with ⟨v, vm₁, ⟨U', l2, c2, s2⟩, hW₁, X', ⟨g', mk, t, L, e1, e2, hq, h1, hL, h2, h3⟩, st⟩ | ⟨q, vm₁, ⟨U', l2, c2, s2⟩, hW₁, X', ⟨g', mk, t, L, E, ce, e1, e2, hq, hce, hcv, hcl, h1, hL, h2, h3⟩, st⟩
  · dsimp only [Pt.U, Pt.locs, Pt.cells, Pt.slots] at X' e1 e2 h1 h2 h3 st
    subst h1; subst h2; subst h3
    exact Or.inl ⟨v, (T.setVm vm₁).calling g' mk (Value.ref b :: As).toArray, t, U', L, hT, X', hL, e1, e2, hq, st⟩
  · dsimp only [Pt.U, Pt.locs, Pt.cells, Pt.slots] at X' e1 e2 h1 h2 h3 st hcl
    subst h1; subst h2; subst h3
    exact Or.inr ⟨q, (T.setVm vm₁).calling g' mk (Value.ref b :: As).toArray, t, U', L, E, ce, hT, X', hL, e1, e2, hq, hce, hcv, vx_cls hW₁ hcl, st⟩
end
/-! ===== END ===== -/
/-! ===== BEGIN .. of methods that hand back an object of the pool ===== -/
section
variable {p : Program} {l : Launch} {e : Env} {R : Room} {s : State} {m : MethodId} {args : Array Value} {below : List Frame} {meth : Method} {c : Code} {H : Heap} {locs : List Loc} {cells slots : Nat} {Q : State → Prop}
variable {mc ms : Nat} {free : Addr → Prop} {A0 A1 : Nat → Prop} {H0 : Heap} {a : Array Value} {pc : Nat} {ls : Array Slot} {st0 rest : List Value}
theorem vx_callq {S SX : Type} {post : Option Nat → S → Prop} {px : SX → Prop} {B : S → State → Prop} {BX : String → SX → State → Prop} {AX : Nat → Prop} (hr : vx_Run p l e R s m args below meth c H locs cells slots mc ms (F0 m pc ls st0) rest (va_Qq post B A1 a) (vx_X px BX AX) free) (hS : va_S A0 H0 H locs) (hA : ∀ q, q < H.size → A1 q → A0 q) (hf : ∀ q, free q → A0 q) (hAX : ∀ q, q < H.size → AX q → A0 q)
    (kx : ∀ (E : String) (ce : Cell) (q9 : Addr) (u : SX) (t : State) (H1 : Heap) (locs1 : List Loc), t.heap = H1 → s.vm.Alike t.vm → px u → BX E u t → H.size ≤ H1.size → (∀ q : Nat, q < H.size → ¬ AX q → H1[q]? = H[q]?) → va_S A0 H0 H1 locs1 → H1[q9]? = some ce → ce.vm = .none → s.vm.findClass E = some ce.cls → vx_W p l e R s m args below meth c H1 locs1 (cells + mc) (slots + ms) Q (F0 m pc ls rest) q9)
    (kk : ∀ (r : Option Nat) (u : S) (t : State) (H1 : Heap) (locs1 : List Loc), t.heap = H1 → s.vm.Alike t.vm → post r u → B u t → H.size ≤ H1.size → (∀ q : Nat, q < H.size → ¬ A1 q → H1[q]? = H[q]?) → va_S A0 H0 H1 locs1 → W p l e R s m args below meth c H1 locs1 (cells + mc) (slots + ms) Q (F0 m (pc + 3) ls (va_rf r :: rest))) : W p l e R s m args below meth c H locs cells slots Q (F0 m pc ls st0) := by
  intro T hT X
  rcases hr T hT X with ⟨v, st₀, t, T', L, h0, X', hL, e1, e2, ⟨⟨r, u, hv, hp, hb⟩, hF⟩, st⟩ | ⟨q, st₀, t, T', L, E, ce, h0, X', hL, e1, e2, ⟨u, hp, hb, hF⟩, hce, hcv, hcl, st⟩
  · cases hv
    obtain ⟨k1, k2, k3⟩ := vx_keep h0 e1 hS hA hf hL hF
    obtain ⟨t2, a1, b1⟩ := kk r u t T'.heap (locs ++ L) e1.symm (by rw [← e2]; exact X'.warmed.alike) hp hb k1 k2 k3 T' rfl X'
    exact ⟨t2, st t2 a1, b1⟩
  · obtain ⟨k1, k2, k3⟩ := vx_keep h0 e1 hS hAX hf hL hF
    obtain ⟨t2, a1, b1⟩ := kx E ce q u t T'.heap (locs ++ L) e1.symm (by rw [← e2]; exact X'.warmed.alike) hp hb k1 k2 k3 (by rw [e1]; exact hce) hcv hcl T' rfl X'
    exact ⟨t2, st.trans a1, b1⟩
end
/-! ===== END ===== -/
/-! ===== BEGIN .. a constant ===== -/
section
variable {p : Program} {l : Launch} {e : Env} {R : Room} {s : State} {m : MethodId} {args : Array Value} {below : List Frame} {meth : Method} {c : Code} {H : Heap} {locs : List Loc} {cells slots : Nat} {Q : State → Prop}
variable {mc ms : Nat} {free : Addr → Prop} {A0 A1 : Nat → Prop} {H0 : Heap} {a : Array Value} {pc : Nat} {ls : Array Slot} {st0 rest : List Value}
theorem vx_calle {ad : Nat → Nat} {S SX : Type} {post : Option Nat → S → Prop} {px : SX → Prop} {B : S → State → Prop} {BX : String → SX → State → Prop} {AX : Nat → Prop} (hr : vx_Run p l e R s m args below meth c H locs cells slots mc ms (F0 m pc ls st0) rest (va_Qe ad post B A1 a) (vx_X px BX AX) free) (hS : va_S A0 H0 H locs) (hA : ∀ q, q < H.size → A1 q → A0 q) (hf : ∀ q, free q → A0 q) (hAX : ∀ q, q < H.size → AX q → A0 q)
    (kx : ∀ (E : String) (ce : Cell) (q9 : Addr) (u : SX) (t : State) (H1 : Heap) (locs1 : List Loc), t.heap = H1 → s.vm.Alike t.vm → px u → BX E u t → H.size ≤ H1.size → (∀ q : Nat, q < H.size → ¬ AX q → H1[q]? = H[q]?) → va_S A0 H0 H1 locs1 → H1[q9]? = some ce → ce.vm = .none → s.vm.findClass E = some ce.cls → vx_W p l e R s m args below meth c H1 locs1 (cells + mc) (slots + ms) Q (F0 m pc ls rest) q9)
    (kk : ∀ (r : Option Nat) (u : S) (t : State) (H1 : Heap) (locs1 : List Loc), t.heap = H1 → s.vm.Alike t.vm → post r u → B u t → H.size ≤ H1.size → (∀ q : Nat, q < H.size → ¬ A1 q → H1[q]? = H[q]?) → va_S A0 H0 H1 locs1 → W p l e R s m args below meth c H1 locs1 (cells + mc) (slots + ms) Q (F0 m (pc + 3) ls (va_re ad r :: rest))) : W p l e R s m args below meth c H locs cells slots Q (F0 m pc ls st0) := by
  intro T hT X
  rcases hr T hT X with ⟨v, st₀, t, T', L, h0, X', hL, e1, e2, ⟨⟨r, u, hv, hp, hb⟩, hF⟩, st⟩ | ⟨q, st₀, t, T', L, E, ce, h0, X', hL, e1, e2, ⟨u, hp, hb, hF⟩, hce, hcv, hcl, st⟩
  · cases hv
    obtain ⟨k1, k2, k3⟩ := vx_keep h0 e1 hS hA hf hL hF
    obtain ⟨t2, a1, b1⟩ := kk r u t T'.heap (locs ++ L) e1.symm (by rw [← e2]; exact X'.warmed.alike) hp hb k1 k2 k3 T' rfl X'
    exact ⟨t2, st t2 a1, b1⟩
  · obtain ⟨k1, k2, k3⟩ := vx_keep h0 e1 hS hAX hf hL hF
    obtain ⟨t2, a1, b1⟩ := kx E ce q u t T'.heap (locs ++ L) e1.symm (by rw [← e2]; exact X'.warmed.alike) hp hb k1 k2 k3 (by rw [e1]; exact hce) hcv hcl T' rfl X'
    exact ⟨t2, st.trans a1, b1⟩
end
/-! ===== END ===== -/
/-! ===== BEGIN .. by an interface, an object ===== -/
section
variable {p : Program} {l : Launch} {e : Env} {R : Room} {s : State} {m : MethodId} {args : Array Value} {below : List Frame} {meth : Method} {c : Code} {H : Heap} {locs : List Loc} {cells slots : Nat} {Q : State → Prop}
variable {mc ms : Nat} {free : Addr → Prop} {A0 A1 : Nat → Prop} {H0 : Heap} {a : Array Value} {pc : Nat} {ls : Array Slot} {st0 rest : List Value}
theorem vx_callFq {S SX : Type} {post : Option Nat → S → Prop} {px : SX → Prop} {B : S → State → Prop} {BX : String → SX → State → Prop} {AX : Nat → Prop} (hr : vx_Run5 p l e R s m args below meth c H locs cells slots mc ms (F0 m pc ls st0) rest (va_Qq post B A1 a) (vx_X px BX AX) free) (hS : va_S A0 H0 H locs) (hA : ∀ q, q < H.size → A1 q → A0 q) (hf : ∀ q, free q → A0 q) (hAX : ∀ q, q < H.size → AX q → A0 q)
    (kx : ∀ (E : String) (ce : Cell) (q9 : Addr) (u : SX) (t : State) (H1 : Heap) (locs1 : List Loc), t.heap = H1 → s.vm.Alike t.vm → px u → BX E u t → H.size ≤ H1.size → (∀ q : Nat, q < H.size → ¬ AX q → H1[q]? = H[q]?) → va_S A0 H0 H1 locs1 → H1[q9]? = some ce → ce.vm = .none → s.vm.findClass E = some ce.cls → vx_W p l e R s m args below meth c H1 locs1 (cells + mc) (slots + ms) Q (F0 m pc ls rest) q9)
    (kk : ∀ (r : Option Nat) (u : S) (t : State) (H1 : Heap) (locs1 : List Loc), t.heap = H1 → s.vm.Alike t.vm → post r u → B u t → H.size ≤ H1.size → (∀ q : Nat, q < H.size → ¬ A1 q → H1[q]? = H[q]?) → va_S A0 H0 H1 locs1 → W p l e R s m args below meth c H1 locs1 (cells + mc) (slots + ms) Q (F0 m (pc + 5) ls (va_rf r :: rest))) : W p l e R s m args below meth c H locs cells slots Q (F0 m pc ls st0) := by
  intro T hT X
  rcases hr T hT X with ⟨v, st₀, t, T', L, h0, X', hL, e1, e2, ⟨⟨r, u, hv, hp, hb⟩, hF⟩, st⟩ | ⟨q, st₀, t, T', L, E, ce, h0, X', hL, e1, e2, ⟨u, hp, hb, hF⟩, hce, hcv, hcl, st⟩
  · cases hv
    obtain ⟨k1, k2, k3⟩ := vx_keep h0 e1 hS hA hf hL hF
    obtain ⟨t2, a1, b1⟩ := kk r u t T'.heap (locs ++ L) e1.symm (by rw [← e2]; exact X'.warmed.alike) hp hb k1 k2 k3 T' rfl X'
    exact ⟨t2, st t2 a1, b1⟩
  · obtain ⟨k1, k2, k3⟩ := vx_keep h0 e1 hS hAX hf hL hF
    obtain ⟨t2, a1, b1⟩ := kx E ce q u t T'.heap (locs ++ L) e1.symm (by rw [← e2]; exact X'.warmed.alike) hp hb k1 k2 k3 (by rw [e1]; exact hce) hcv hcl T' rfl X'
    exact ⟨t2, st.trans a1, b1⟩
end
/-! ===== END ===== -/
/-! ===== BEGIN .. by an interface, a constant ===== -/
section
variable {p : Program} {l : Launch} {e : Env} {R : Room} {s : State} {m : MethodId} {args : Array Value} {below : List Frame} {meth : Method} {c : Code} {H : Heap} {locs : List Loc} {cells slots : Nat} {Q : State → Prop}
variable {mc ms : Nat} {free : Addr → Prop} {A0 A1 : Nat → Prop} {H0 : Heap} {a : Array Value} {pc : Nat} {ls : Array Slot} {st0 rest : List Value}
theorem vx_callFe {ad : Nat → Nat} {S SX : Type} {post : Option Nat → S → Prop} {px : SX → Prop} {B : S → State → Prop} {BX : String → SX → State → Prop} {AX : Nat → Prop} (hr : vx_Run5 p l e R s m args below meth c H locs cells slots mc ms (F0 m pc ls st0) rest (va_Qe ad post B A1 a) (vx_X px BX AX) free) (hS : va_S A0 H0 H locs) (hA : ∀ q, q < H.size → A1 q → A0 q) (hf : ∀ q, free q → A0 q) (hAX : ∀ q, q < H.size → AX q → A0 q)
    (kx : ∀ (E : String) (ce : Cell) (q9 : Addr) (u : SX) (t : State) (H1 : Heap) (locs1 : List Loc), t.heap = H1 → s.vm.Alike t.vm → px u → BX E u t → H.size ≤ H1.size → (∀ q : Nat, q < H.size → ¬ AX q → H1[q]? = H[q]?) → va_S A0 H0 H1 locs1 → H1[q9]? = some ce → ce.vm = .none → s.vm.findClass E = some ce.cls → vx_W p l e R s m args below meth c H1 locs1 (cells + mc) (slots + ms) Q (F0 m pc ls rest) q9)
    (kk : ∀ (r : Option Nat) (u : S) (t : State) (H1 : Heap) (locs1 : List Loc), t.heap = H1 → s.vm.Alike t.vm → post r u → B u t → H.size ≤ H1.size → (∀ q : Nat, q < H.size → ¬ A1 q → H1[q]? = H[q]?) → va_S A0 H0 H1 locs1 → W p l e R s m args below meth c H1 locs1 (cells + mc) (slots + ms) Q (F0 m (pc + 5) ls (va_re ad r :: rest))) : W p l e R s m args below meth c H locs cells slots Q (F0 m pc ls st0) := by
  intro T hT X
  rcases hr T hT X with ⟨v, st₀, t, T', L, h0, X', hL, e1, e2, ⟨⟨r, u, hv, hp, hb⟩, hF⟩, st⟩ | ⟨q, st₀, t, T', L, E, ce, h0, X', hL, e1, e2, ⟨u, hp, hb, hF⟩, hce, hcv, hcl, st⟩
  · cases hv
    obtain ⟨k1, k2, k3⟩ := vx_keep h0 e1 hS hA hf hL hF
    obtain ⟨t2, a1, b1⟩ := kk r u t T'.heap (locs ++ L) e1.symm (by rw [← e2]; exact X'.warmed.alike) hp hb k1 k2 k3 T' rfl X'
    exact ⟨t2, st t2 a1, b1⟩
  · obtain ⟨k1, k2, k3⟩ := vx_keep h0 e1 hS hAX hf hL hF
    obtain ⟨t2, a1, b1⟩ := kx E ce q u t T'.heap (locs ++ L) e1.symm (by rw [← e2]; exact X'.warmed.alike) hp hb k1 k2 k3 (by rw [e1]; exact hce) hcv hcl T' rfl X'
    exact ⟨t2, st.trans a1, b1⟩
end
/-! ===== END ===== -/
/-! ===== BEGIN what the machine throws by itself: null at a field, at athrow ===== -/
section VXM2
variable {p : Program} {l : Launch} {e : Env} {R : Room} {s : State} {m : MethodId} {args : Array Value} {below : List Frame} {meth : Method} {c : Code} {H : Heap} {locs : List Loc} {cells slots : Nat}
variable {Q : State → Prop} {cc : ByteArray} {pc : Nat} {ls : Array Slot} {rest : List Value}
theorem vx_getfN {D cl tys} {own ref C : String} {T : u_T} {N ci index : Nat} {Ts : List Cond} (hexec : p.tables.exec = Jvm.exec) (hb : c.code = cc) (hts : ∀ w ∈ Ts, w.before args s = true) (hin : ∀ w ∈ u_ws C T N, w ∈ Ts) (hown : s.vm.findClass own = some m.cls) (hK : va_K D cl tys s) (hc : cl[ci]? = some (C, T, N)) (k : Nat) (hk : k < N) (hlink : (Cond.fieldLink own index ref (T k).2.1 (T k).2.2.1).before args s = true) (hsame : ∀ x, s.fieldFound? (T k).1 (T k).2.1 (T k).2.2.1 = some x → s.fieldFound? ref (T k).2.1 (T k).2.2.1 = some x) (hdg : decode cc pc = .ok (.getfield index, 3)) (kk : vx_NoteN p l e R s m args below meth c H locs cells slots Q (F0 m pc ls rest)) : W p l e R s m args below meth c H locs cells slots Q (F0 m pc ls (.null :: rest)) := by
  obtain ⟨hS, hfc, kC, hkC, -⟩ := hK.1 ci _ hc
  obtain ⟨cf, kf, fi, f, hi, -⟩ := hS k hk
  intro U hU X
  obtain ⟨vm', X1, st1⟩ := X.getfieldNull hexec hown hlink (hsame _ hi) (u_facts hfc hkC (u_lays hts hin hk) hi).1 (g := F0 m pc ls (.null :: rest)) rfl (rest := rest) rfl (by rw [hb]; exact hdg)
  obtain ⟨t, st, q⟩ := kk (U.setVm vm') hU X1
  exact ⟨t, st1 t st, q⟩
theorem vx_getfNN {D cl tys} {own ref C host : String} {T : u_T} {N ci index : Nat} {Ts : List Cond} (hexec : p.tables.exec = Jvm.exec) (hb : c.code = cc) (hts : ∀ w ∈ Ts, w.before args s = true) (hin : ∀ w ∈ u_ws C T N, w ∈ Ts) (hown : s.vm.findClass own = some m.cls) (hK : va_K D cl tys s) (hc : cl[ci]? = some (C, T, N)) (k : Nat) (hk : k < N) (hlink : (Cond.fieldLinkNest own index ref (T k).2.1 (T k).2.2.1 host).before args s = true) (hsame : ∀ x, s.fieldFound? (T k).1 (T k).2.1 (T k).2.2.1 = some x → s.fieldFound? ref (T k).2.1 (T k).2.2.1 = some x) (hdg : decode cc pc = .ok (.getfield index, 3)) (kk : vx_NoteN p l e R s m args below meth c H locs cells slots Q (F0 m pc ls rest)) : W p l e R s m args below meth c H locs cells slots Q (F0 m pc ls (.null :: rest)) := by
  obtain ⟨hS, hfc, kC, hkC, -⟩ := hK.1 ci _ hc
  obtain ⟨cf, kf, fi, f, hi, -⟩ := hS k hk
  intro U hU X
  obtain ⟨vm', X1, st1⟩ := X.getfieldNullNest hexec hown hlink (hsame _ hi) (u_facts hfc hkC (u_lays hts hin hk) hi).1 (g := F0 m pc ls (.null :: rest)) rfl (rest := rest) rfl (by rw [hb]; exact hdg)
  obtain ⟨t, st, q⟩ := kk (U.setVm vm') hU X1
  exact ⟨t, st1 t st, q⟩
theorem vx_putfN {D cl tys} {own ref C : String} {T : u_T} {N ci index : Nat} {Ts : List Cond} (hexec : p.tables.exec = Jvm.exec) (hb : c.code = cc) (hts : ∀ w ∈ Ts, w.before args s = true) (hin : ∀ w ∈ u_ws C T N, w ∈ Ts) (hown : s.vm.findClass own = some m.cls) (hK : va_K D cl tys s) (hc : cl[ci]? = some (C, T, N)) (k : Nat) (hk : k < N) (hlink : (Cond.fieldLink own index ref (T k).2.1 (T k).2.2.1).before args s = true) (hsame : ∀ x, s.fieldFound? (T k).1 (T k).2.1 (T k).2.2.1 = some x → s.fieldFound? ref (T k).2.1 (T k).2.2.1 = some x) (hfin : (T k).2.2.2 = false) {v : Value} (hdg : decode cc pc = .ok (.putfield index, 3)) (kk : vx_NoteN p l e R s m args below meth c H locs cells slots Q (F0 m pc ls rest)) : W p l e R s m args below meth c H locs cells slots Q (F0 m pc ls (v :: .null :: rest)) := by
  obtain ⟨hS, hfc, kC, hkC, -⟩ := hK.1 ci _ hc
  obtain ⟨cf, kf, fi, f, hi, -⟩ := hS k hk
  have hlay := hts _ (hin _ (u_in_lay hk))
  unfold u_lay at hlay
  rw [if_neg (by rw [hfin]; decide)] at hlay
  obtain ⟨c9, k9, cf9, kf9, fi9, f9, -, -, hi9, hst9, hnf9, -⟩ := Cond.lays_spec hlay
  cases hi.symm.trans hi9
  intro U hU X
  obtain ⟨vm', X1, st1⟩ := X.putfieldNull hexec hown hlink (hsame _ hi) hst9 hnf9 (g := F0 m pc ls (v :: .null :: rest)) rfl (v := v) (rest := rest) rfl (by rw [hb]; exact hdg)
  obtain ⟨t, st, q⟩ := kk (U.setVm vm') hU X1
  exact ⟨t, st1 t st, q⟩
theorem vx_putfNN {D cl tys} {own ref C host : String} {T : u_T} {N ci index : Nat} {Ts : List Cond} (hexec : p.tables.exec = Jvm.exec) (hb : c.code = cc) (hts : ∀ w ∈ Ts, w.before args s = true) (hin : ∀ w ∈ u_ws C T N, w ∈ Ts) (hown : s.vm.findClass own = some m.cls) (hK : va_K D cl tys s) (hc : cl[ci]? = some (C, T, N)) (k : Nat) (hk : k < N) (hlink : (Cond.fieldLinkNest own index ref (T k).2.1 (T k).2.2.1 host).before args s = true) (hsame : ∀ x, s.fieldFound? (T k).1 (T k).2.1 (T k).2.2.1 = some x → s.fieldFound? ref (T k).2.1 (T k).2.2.1 = some x) (hfin : (T k).2.2.2 = false) {v : Value} (hdg : decode cc pc = .ok (.putfield index, 3)) (kk : vx_NoteN p l e R s m args below meth c H locs cells slots Q (F0 m pc ls rest)) : W p l e R s m args below meth c H locs cells slots Q (F0 m pc ls (v :: .null :: rest)) := by
  obtain ⟨hS, hfc, kC, hkC, -⟩ := hK.1 ci _ hc
  obtain ⟨cf, kf, fi, f, hi, -⟩ := hS k hk
  have hlay := hts _ (hin _ (u_in_lay hk))
  unfold u_lay at hlay
  rw [if_neg (by rw [hfin]; decide)] at hlay
  obtain ⟨c9, k9, cf9, kf9, fi9, f9, -, -, hi9, hst9, hnf9, -⟩ := Cond.lays_spec hlay
  cases hi.symm.trans hi9
  intro U hU X
  obtain ⟨vm', X1, st1⟩ := X.putfieldNullNest hexec hown hlink (hsame _ hi) hst9 hnf9 (g := F0 m pc ls (v :: .null :: rest)) rfl (v := v) (rest := rest) rfl (by rw [hb]; exact hdg)
  obtain ⟨t, st, q⟩ := kk (U.setVm vm') hU X1
  exact ⟨t, st1 t st, q⟩
theorem vx_athrowN (hexec : p.tables.exec = Jvm.exec) (hb : c.code = cc) (hdg : decode cc pc = .ok (.athrow, 1)) (k : vx_NoteN p l e R s m args below meth c H locs cells slots Q (F0 m pc ls rest)) : W p l e R s m args below meth c H locs cells slots Q (F0 m pc ls (.null :: rest)) := by
  intro T hT X
  obtain ⟨t, st, q⟩ := k T hT X
  exact ⟨t, X.athrowNull hexec (g := F0 m pc ls (.null :: rest)) rfl (rest := rest) rfl (by rw [hb]; exact hdg) t st, q⟩
end VXM2
/-! ===== END ===== -/
end
section
def RX0 : String := "TwoEndQueues$HeapLayout"
def TX0 : u_T := fun k => match k with
  | 0 => ("TwoEndQueues$Layout", "items", "[I", true)
  | 1 => ("TwoEndQueues$Layout", "length", "I", false)
  | 2 => ("TwoEndQueues$Layout", "counted", "I", false)
  | _ => ("TwoEndQueues$HeapLayout", "forLeast", "Z", true)
def tyX0 : Nat → FieldType := fun k => match k with
  | 0 => .array .int
  | 1 => .int
  | 2 => .int
  | _ => .boolean
abbrev wsX00 : List Cond := u_ws RX0 TX0 4
theorem nmX0 : ∀ a, a < 4 → ∀ b, b < 4 → a ≠ b → (TX0 a).2.1 ≠ (TX0 b).2.1 := by decide +kernel
theorem tyX0_ok : ∀ k, k < 4 → parseFieldDescriptor (TX0 k).2.2.1 = some (tyX0 k) := by decide +kernel
abbrev cX0_init : ByteArray := prog_2_method_1_code
def yX0_init : MethodName := ⟨RX0, "<init>", "(Z)V"⟩
abbrev cX0_handlesAbove : ByteArray := prog_2_method_2_code
def yX0_handlesAbove : MethodName := ⟨RX0, "handlesAbove", "(I)I"⟩
abbrev cX0_down : ByteArray := prog_2_method_3_code
def yX0_down : MethodName := ⟨RX0, "down", "(I)V"⟩
abbrev cX0_enter : ByteArray := prog_2_method_4_code
def yX0_enter : MethodName := ⟨RX0, "enter", "(I)V"⟩
abbrev cX0_settle : ByteArray := prog_2_method_5_code
def yX0_settle : MethodName := ⟨RX0, "settle", "(I)V"⟩
abbrev cX0_settleAll : ByteArray := prog_2_method_6_code
def yX0_settleAll : MethodName := ⟨RX0, "settleAll", "()V"⟩
abbrev cX0_brokenPairs : ByteArray := prog_2_method_7_code
def yX0_brokenPairs : MethodName := ⟨RX0, "brokenPairs", "()I"⟩
def RX1 : String := "TwoEndQueues$History"
def TX1 : u_T := fun k => match k with
  | 0 => ("TwoEndQueues$History", "ring", "[LTwoEndQueues$Queues;", true)
  | 1 => ("TwoEndQueues$History", "next", "I", false)
  | _ => ("TwoEndQueues$History", "kept", "I", false)
def tyX1 : Nat → FieldType := fun k => match k with
  | 0 => .array (.object "TwoEndQueues$Queues")
  | 1 => .int
  | _ => .int
abbrev wsX10 : List Cond := u_ws RX1 TX1 3
theorem nmX1 : ∀ a, a < 3 → ∀ b, b < 3 → a ≠ b → (TX1 a).2.1 ≠ (TX1 b).2.1 := by decide +kernel
theorem tyX1_ok : ∀ k, k < 3 → parseFieldDescriptor (TX1 k).2.2.1 = some (tyX1 k) := by decide +kernel
abbrev cX1_init : ByteArray := prog_3_method_1_code
def yX1_init : MethodName := ⟨RX1, "<init>", "()V"⟩
abbrev cX1_keep : ByteArray := prog_3_method_2_code
def yX1_keep : MethodName := ⟨RX1, "keep", "(LTwoEndQueues$Queues;)V"⟩
abbrev cX1_restore : ByteArray := prog_3_method_3_code
def yX1_restore : MethodName := ⟨RX1, "restore", "(LTwoEndQueues$Queues;)V"⟩
def RX2 : String := "TwoEndQueues$IntervalLayout"
def TX2 : u_T := fun k => match k with
  | 0 => ("TwoEndQueues$Layout", "items", "[I", true)
  | 1 => ("TwoEndQueues$Layout", "length", "I", false)
  | _ => ("TwoEndQueues$Layout", "counted", "I", false)
def tyX2 : Nat → FieldType := fun k => match k with
  | 0 => .array .int
  | 1 => .int
  | _ => .int
abbrev wsX20 : List Cond := u_ws RX2 TX2 3
theorem nmX2 : ∀ a, a < 3 → ∀ b, b < 3 → a ≠ b → (TX2 a).2.1 ≠ (TX2 b).2.1 := by decide +kernel
theorem tyX2_ok : ∀ k, k < 3 → parseFieldDescriptor (TX2 k).2.2.1 = some (tyX2 k) := by decide +kernel
abbrev cX2_init : ByteArray := prog_4_method_1_code
def yX2_init : MethodName := ⟨RX2, "<init>", "()V"⟩
abbrev cX2_low : ByteArray := prog_4_method_2_code
def yX2_low : MethodName := ⟨RX2, "low", "(I)I"⟩
abbrev cX2_high : ByteArray := prog_4_method_3_code
def yX2_high : MethodName := ⟨RX2, "high", "(I)I"⟩
abbrev cX2_top : ByteArray := prog_4_method_4_code
def yX2_top : MethodName := ⟨RX2, "top", "(I)I"⟩
abbrev cX2_greatestPosition : ByteArray := prog_4_method_5_code
def yX2_greatestPosition : MethodName := ⟨RX2, "greatestPosition", "()I"⟩
abbrev cX2_order : ByteArray := prog_4_method_6_code
def yX2_order : MethodName := ⟨RX2, "order", "(I)V"⟩
abbrev cX2_riseLow : ByteArray := prog_4_method_7_code
def yX2_riseLow : MethodName := ⟨RX2, "riseLow", "(I)V"⟩
abbrev cX2_riseHigh : ByteArray := prog_4_method_8_code
def yX2_riseHigh : MethodName := ⟨RX2, "riseHigh", "(II)V"⟩
abbrev cX2_sinkLow : ByteArray := prog_4_method_9_code
def yX2_sinkLow : MethodName := ⟨RX2, "sinkLow", "(I)V"⟩
abbrev cX2_sinkHigh : ByteArray := prog_4_method_10_code
def yX2_sinkHigh : MethodName := ⟨RX2, "sinkHigh", "(I)V"⟩
abbrev cX2_enter : ByteArray := prog_4_method_11_code
def yX2_enter : MethodName := ⟨RX2, "enter", "(I)V"⟩
abbrev cX2_settle : ByteArray := prog_4_method_12_code
def yX2_settle : MethodName := ⟨RX2, "settle", "(I)V"⟩
abbrev cX2_settleAll : ByteArray := prog_4_method_13_code
def yX2_settleAll : MethodName := ⟨RX2, "settleAll", "()V"⟩
abbrev cX2_brokenPairs : ByteArray := prog_4_method_14_code
def yX2_brokenPairs : MethodName := ⟨RX2, "brokenPairs", "()I"⟩
def RX3 : String := "TwoEndQueues$Layout"
def TX3 : u_T := fun k => match k with
  | _ => ("", "", "", false)
def tyX3 : Nat → FieldType := fun k => match k with
  | _ => .int
abbrev wsX30 : List Cond := u_ws RX3 TX3 0
theorem nmX3 : ∀ a, a < 0 → ∀ b, b < 0 → a ≠ b → (TX3 a).2.1 ≠ (TX3 b).2.1 := by decide +kernel
theorem tyX3_ok : ∀ k, k < 0 → parseFieldDescriptor (TX3 k).2.2.1 = some (tyX3 k) := by decide +kernel
abbrev cX3_init : ByteArray := prog_5_method_1_code
def yX3_init : MethodName := ⟨RX3, "<init>", "()V"⟩
abbrev cX3_parentOf : ByteArray := prog_5_method_6_code
def yX3_parentOf : MethodName := ⟨RX3, "parentOf", "(I)I"⟩
abbrev cX3_isPosition : ByteArray := prog_5_method_7_code
def yX3_isPosition : MethodName := ⟨RX3, "isPosition", "(I)Z"⟩
abbrev cX3_itemAt : ByteArray := prog_5_method_8_code
def yX3_itemAt : MethodName := ⟨RX3, "itemAt", "(I)I"⟩
abbrev cX3_handleAt : ByteArray := prog_5_method_9_code
def yX3_handleAt : MethodName := ⟨RX3, "handleAt", "(I)I"⟩
abbrev cX3_keyAt : ByteArray := prog_5_method_10_code
def yX3_keyAt : MethodName := ⟨RX3, "keyAt", "(I)I"⟩
abbrev cX3_find : ByteArray := prog_5_method_11_code
def yX3_find : MethodName := ⟨RX3, "find", "(I)I"⟩
abbrev cX3_ahead : ByteArray := prog_5_method_12_code
def yX3_ahead : MethodName := ⟨RX3, "ahead", "(IIZ)Z"⟩
abbrev cX3_exchange : ByteArray := prog_5_method_13_code
def yX3_exchange : MethodName := ⟨RX3, "exchange", "(II)V"⟩
abbrev cX3_putIn : ByteArray := prog_5_method_14_code
def yX3_putIn : MethodName := ⟨RX3, "putIn", "(II)V"⟩
abbrev cX3_takeOut : ByteArray := prog_5_method_15_code
def yX3_takeOut : MethodName := ⟨RX3, "takeOut", "(I)V"⟩
abbrev cX3_giveKey : ByteArray := prog_5_method_16_code
def yX3_giveKey : MethodName := ⟨RX3, "giveKey", "(II)V"⟩
abbrev cX3_arrange : ByteArray := prog_5_method_17_code
def yX3_arrange : MethodName := ⟨RX3, "arrange", "()V"⟩
abbrev cX3_lineUp : ByteArray := prog_5_method_18_code
def yX3_lineUp : MethodName := ⟨RX3, "lineUp", "()V"⟩
abbrev cX3_copyFrom : ByteArray := prog_5_method_19_code
def yX3_copyFrom : MethodName := ⟨RX3, "copyFrom", "(LTwoEndQueues$Layout;)V"⟩
def RX4 : String := "TwoEndQueues$LevelLayout"
def TX4 : u_T := fun k => match k with
  | 0 => ("TwoEndQueues$Layout", "items", "[I", true)
  | 1 => ("TwoEndQueues$Layout", "length", "I", false)
  | _ => ("TwoEndQueues$Layout", "counted", "I", false)
def tyX4 : Nat → FieldType := fun k => match k with
  | 0 => .array .int
  | 1 => .int
  | _ => .int
abbrev wsX40 : List Cond := u_ws RX4 TX4 3
theorem nmX4 : ∀ a, a < 3 → ∀ b, b < 3 → a ≠ b → (TX4 a).2.1 ≠ (TX4 b).2.1 := by decide +kernel
theorem tyX4_ok : ∀ k, k < 3 → parseFieldDescriptor (TX4 k).2.2.1 = some (tyX4 k) := by decide +kernel
abbrev cX4_init : ByteArray := prog_6_method_1_code
def yX4_init : MethodName := ⟨RX4, "<init>", "()V"⟩
abbrev cX4_levelOf : ByteArray := prog_6_method_2_code
def yX4_levelOf : MethodName := ⟨RX4, "levelOf", "(I)I"⟩
abbrev cX4_isLow : ByteArray := prog_6_method_3_code
def yX4_isLow : MethodName := ⟨RX4, "isLow", "(I)Z"⟩
abbrev cX4_greatestPosition : ByteArray := prog_6_method_4_code
def yX4_greatestPosition : MethodName := ⟨RX4, "greatestPosition", "()I"⟩
abbrev cX4_countFindingGreatest : ByteArray := prog_6_method_5_code
def yX4_countFindingGreatest : MethodName := ⟨RX4, "countFindingGreatest", "()V"⟩
abbrev cX4_rise : ByteArray := prog_6_method_6_code
def yX4_rise : MethodName := ⟨RX4, "rise", "(IZ)V"⟩
abbrev cX4_foremostBelow : ByteArray := prog_6_method_7_code
def yX4_foremostBelow : MethodName := ⟨RX4, "foremostBelow", "(IZ)I"⟩
abbrev cX4_sink : ByteArray := prog_6_method_8_code
def yX4_sink : MethodName := ⟨RX4, "sink", "(I)V"⟩
abbrev cX4_enter : ByteArray := prog_6_method_9_code
def yX4_enter : MethodName := ⟨RX4, "enter", "(I)V"⟩
abbrev cX4_settle : ByteArray := prog_6_method_10_code
def yX4_settle : MethodName := ⟨RX4, "settle", "(I)V"⟩
abbrev cX4_settleAll : ByteArray := prog_6_method_11_code
def yX4_settleAll : MethodName := ⟨RX4, "settleAll", "()V"⟩
abbrev cX4_brokenPairs : ByteArray := prog_6_method_12_code
def yX4_brokenPairs : MethodName := ⟨RX4, "brokenPairs", "()I"⟩
def RX5 : String := "TwoEndQueues$Queues"
def TX5 : u_T := fun k => match k with
  | 0 => ("TwoEndQueues$Queues", "interval", "LTwoEndQueues$IntervalLayout;", true)
  | 1 => ("TwoEndQueues$Queues", "levels", "LTwoEndQueues$LevelLayout;", true)
  | 2 => ("TwoEndQueues$Queues", "leastFirst", "LTwoEndQueues$HeapLayout;", true)
  | _ => ("TwoEndQueues$Queues", "greatestFirst", "LTwoEndQueues$HeapLayout;", true)
def tyX5 : Nat → FieldType := fun k => match k with
  | 0 => .object "TwoEndQueues$IntervalLayout"
  | 1 => .object "TwoEndQueues$LevelLayout"
  | 2 => .object "TwoEndQueues$HeapLayout"
  | _ => .object "TwoEndQueues$HeapLayout"
abbrev wsX50 : List Cond := u_ws RX5 TX5 4
theorem nmX5 : ∀ a, a < 4 → ∀ b, b < 4 → a ≠ b → (TX5 a).2.1 ≠ (TX5 b).2.1 := by decide +kernel
theorem tyX5_ok : ∀ k, k < 4 → parseFieldDescriptor (TX5 k).2.2.1 = some (tyX5 k) := by decide +kernel
abbrev cX5_init : ByteArray := prog_7_method_1_code
def yX5_init : MethodName := ⟨RX5, "<init>", "()V"⟩
abbrev cX5_layout : ByteArray := prog_7_method_2_code
def yX5_layout : MethodName := ⟨RX5, "layout", "(I)LTwoEndQueues$Layout;"⟩
abbrev cX5_itemCount : ByteArray := prog_7_method_3_code
def yX5_itemCount : MethodName := ⟨RX5, "itemCount", "()I"⟩
abbrev cX5_has : ByteArray := prog_7_method_4_code
def yX5_has : MethodName := ⟨RX5, "has", "(I)Z"⟩
abbrev cX5_keyOf : ByteArray := prog_7_method_5_code
def yX5_keyOf : MethodName := ⟨RX5, "keyOf", "(I)I"⟩
abbrev cX5_handleSet : ByteArray := prog_7_method_6_code
def yX5_handleSet : MethodName := ⟨RX5, "handleSet", "()I"⟩
abbrev cX5_countLess : ByteArray := prog_7_method_7_code
def yX5_countLess : MethodName := ⟨RX5, "countLess", "(I)I"⟩
abbrev cX5_leastOf : ByteArray := prog_7_method_8_code
def yX5_leastOf : MethodName := ⟨RX5, "leastOf", "(I)I"⟩
abbrev cX5_greatestOf : ByteArray := prog_7_method_9_code
def yX5_greatestOf : MethodName := ⟨RX5, "greatestOf", "(I)I"⟩
abbrev cX5_countedIn : ByteArray := prog_7_method_10_code
def yX5_countedIn : MethodName := ⟨RX5, "countedIn", "(I)I"⟩
abbrev cX5_countedInAll : ByteArray := prog_7_method_11_code
def yX5_countedInAll : MethodName := ⟨RX5, "countedInAll", "()I"⟩
abbrev cX5_forgetCounts : ByteArray := prog_7_method_12_code
def yX5_forgetCounts : MethodName := ⟨RX5, "forgetCounts", "()V"⟩
abbrev cX5_lowestFreeHandle : ByteArray := prog_7_method_13_code
def yX5_lowestFreeHandle : MethodName := ⟨RX5, "lowestFreeHandle", "()I"⟩
abbrev cX5_putIn : ByteArray := prog_7_method_14_code
def yX5_putIn : MethodName := ⟨RX5, "putIn", "(I)I"⟩
abbrev cX5_takeOut : ByteArray := prog_7_method_15_code
def yX5_takeOut : MethodName := ⟨RX5, "takeOut", "(I)V"⟩
abbrev cX5_takeOutOf : ByteArray := prog_7_method_16_code
def yX5_takeOutOf : MethodName := ⟨RX5, "takeOutOf", "(II)V"⟩
abbrev cX5_giveKey : ByteArray := prog_7_method_17_code
def yX5_giveKey : MethodName := ⟨RX5, "giveKey", "(II)V"⟩
abbrev cX5_arrange : ByteArray := prog_7_method_18_code
def yX5_arrange : MethodName := ⟨RX5, "arrange", "()V"⟩
abbrev cX5_empty : ByteArray := prog_7_method_19_code
def yX5_empty : MethodName := ⟨RX5, "empty", "()V"⟩
abbrev cX5_copyFrom : ByteArray := prog_7_method_20_code
def yX5_copyFrom : MethodName := ⟨RX5, "copyFrom", "(LTwoEndQueues$Queues;)V"⟩
abbrev cX5_isPossible : ByteArray := prog_7_method_21_code
def yX5_isPossible : MethodName := ⟨RX5, "isPossible", "(III)Z"⟩
abbrev cX5_carryOut : ByteArray := prog_7_method_22_code
def yX5_carryOut : MethodName := ⟨RX5, "carryOut", "(III)Z"⟩
def RX6 : String := "TwoEndQueues$Script"
def TX6 : u_T := fun k => match k with
  | 0 => ("TwoEndQueues$Script", "signs", "[C", true)
  | 1 => ("TwoEndQueues$Script", "cursor", "I", false)
  | 2 => ("TwoEndQueues$Script", "number", "I", false)
  | 3 => ("TwoEndQueues$Script", "length", "I", false)
  | 4 => ("TwoEndQueues$Script", "command", "I", false)
  | 5 => ("TwoEndQueues$Script", "handle", "I", false)
  | _ => ("TwoEndQueues$Script", "key", "I", false)
def tyX6 : Nat → FieldType := fun k => match k with
  | 0 => .array .char
  | 1 => .int
  | 2 => .int
  | 3 => .int
  | 4 => .int
  | 5 => .int
  | _ => .int
abbrev wsX60 : List Cond := u_ws RX6 TX6 7
theorem nmX6 : ∀ a, a < 7 → ∀ b, b < 7 → a ≠ b → (TX6 a).2.1 ≠ (TX6 b).2.1 := by decide +kernel
theorem tyX6_ok : ∀ k, k < 7 → parseFieldDescriptor (TX6 k).2.2.1 = some (tyX6 k) := by decide +kernel
abbrev cX6_init : ByteArray := prog_8_method_1_code
def yX6_init : MethodName := ⟨RX6, "<init>", "()V"⟩
abbrev cX6_append : ByteArray := prog_8_method_2_code
def yX6_append : MethodName := ⟨RX6, "append", "(C)V"⟩
abbrev cX6_rewind : ByteArray := prog_8_method_3_code
def yX6_rewind : MethodName := ⟨RX6, "rewind", "()V"⟩
abbrev cX6_firstFault : ByteArray := prog_8_method_4_code
def yX6_firstFault : MethodName := ⟨RX6, "firstFault", "()I"⟩
abbrev cX6_readCommand : ByteArray := prog_8_method_5_code
def yX6_readCommand : MethodName := ⟨RX6, "readCommand", "()Z"⟩
abbrev cX6_commandOf : ByteArray := prog_8_method_6_code
def yX6_commandOf : MethodName := ⟨RX6, "commandOf", "(C)I"⟩
abbrev cX6_readArguments : ByteArray := prog_8_method_7_code
def yX6_readArguments : MethodName := ⟨RX6, "readArguments", "()Z"⟩
abbrev cX6_readKey : ByteArray := prog_8_method_8_code
def yX6_readKey : MethodName := ⟨RX6, "readKey", "()Z"⟩
abbrev cX6_readHandle : ByteArray := prog_8_method_9_code
def yX6_readHandle : MethodName := ⟨RX6, "readHandle", "()Z"⟩
abbrev cX6_readNumber : ByteArray := prog_8_method_10_code
def yX6_readNumber : MethodName := ⟨RX6, "readNumber", "(I)Z"⟩
abbrev cX6_readSign : ByteArray := prog_8_method_11_code
def yX6_readSign : MethodName := ⟨RX6, "readSign", "(C)Z"⟩
abbrev cX6_current : ByteArray := prog_8_method_12_code
def yX6_current : MethodName := ⟨RX6, "current", "()C"⟩
def RX7 : String := "TwoEndQueues"
def TX7 : u_T := fun k => match k with
  | 0 => ("TwoEndQueues", "queues", "LTwoEndQueues$Queues;", true)
  | 1 => ("TwoEndQueues", "thought", "LTwoEndQueues$Queues;", true)
  | 2 => ("TwoEndQueues", "history", "LTwoEndQueues$History;", true)
  | _ => ("TwoEndQueues", "script", "LTwoEndQueues$Script;", true)
def tyX7 : Nat → FieldType := fun k => match k with
  | 0 => .object "TwoEndQueues$Queues"
  | 1 => .object "TwoEndQueues$Queues"
  | 2 => .object "TwoEndQueues$History"
  | _ => .object "TwoEndQueues$Script"
abbrev wsX70 : List Cond := u_ws RX7 TX7 4
theorem nmX7 : ∀ a, a < 4 → ∀ b, b < 4 → a ≠ b → (TX7 a).2.1 ≠ (TX7 b).2.1 := by decide +kernel
theorem tyX7_ok : ∀ k, k < 4 → parseFieldDescriptor (TX7 k).2.2.1 = some (tyX7 k) := by decide +kernel
abbrev cX7_init : ByteArray := prog_1_method_1_code
def yX7_init : MethodName := ⟨RX7, "<init>", "()V"⟩
abbrev cX7_insert : ByteArray := prog_1_method_2_code
def yX7_insert : MethodName := ⟨RX7, "insert", "(I)I"⟩
abbrev cX7_takeLeast : ByteArray := prog_1_method_3_code
def yX7_takeLeast : MethodName := ⟨RX7, "takeLeast", "()I"⟩
abbrev cX7_takeGreatest : ByteArray := prog_1_method_4_code
def yX7_takeGreatest : MethodName := ⟨RX7, "takeGreatest", "()I"⟩
abbrev cX7_remove : ByteArray := prog_1_method_5_code
def yX7_remove : MethodName := ⟨RX7, "remove", "(I)I"⟩
abbrev cX7_change : ByteArray := prog_1_method_6_code
def yX7_change : MethodName := ⟨RX7, "change", "(II)I"⟩
abbrev cX7_build : ByteArray := prog_1_method_7_code
def yX7_build : MethodName := ⟨RX7, "build", "()I"⟩
abbrev cX7_clear : ByteArray := prog_1_method_8_code
def yX7_clear : MethodName := ⟨RX7, "clear", "()I"⟩
abbrev cX7_size : ByteArray := prog_1_method_9_code
def yX7_size : MethodName := ⟨RX7, "size", "()I"⟩
abbrev cX7_handles : ByteArray := prog_1_method_10_code
def yX7_handles : MethodName := ⟨RX7, "handles", "()I"⟩
abbrev cX7_key : ByteArray := prog_1_method_11_code
def yX7_key : MethodName := ⟨RX7, "key", "(I)I"⟩
abbrev cX7_fill : ByteArray := prog_1_method_12_code
def yX7_fill : MethodName := ⟨RX7, "fill", "(II)I"⟩
abbrev cX7_least : ByteArray := prog_1_method_13_code
def yX7_least : MethodName := ⟨RX7, "least", "(I)I"⟩
abbrev cX7_greatest : ByteArray := prog_1_method_14_code
def yX7_greatest : MethodName := ⟨RX7, "greatest", "(I)I"⟩
abbrev cX7_ranked : ByteArray := prog_1_method_15_code
def yX7_ranked : MethodName := ⟨RX7, "ranked", "(I)I"⟩
abbrev cX7_rank : ByteArray := prog_1_method_16_code
def yX7_rank : MethodName := ⟨RX7, "rank", "(I)I"⟩
abbrev cX7_between : ByteArray := prog_1_method_17_code
def yX7_between : MethodName := ⟨RX7, "between", "(II)I"⟩
abbrev cX7_at : ByteArray := prog_1_method_18_code
def yX7_at : MethodName := ⟨RX7, "at", "(II)I"⟩
abbrev cX7_where : ByteArray := prog_1_method_19_code
def yX7_where : MethodName := ⟨RX7, "where", "(II)I"⟩
abbrev cX7_violations : ByteArray := prog_1_method_20_code
def yX7_violations : MethodName := ⟨RX7, "violations", "(I)I"⟩
abbrev cX7_disturb : ByteArray := prog_1_method_21_code
def yX7_disturb : MethodName := ⟨RX7, "disturb", "(III)I"⟩
abbrev cX7_level : ByteArray := prog_1_method_22_code
def yX7_level : MethodName := ⟨RX7, "level", "(I)I"⟩
abbrev cX7_ancestors : ByteArray := prog_1_method_23_code
def yX7_ancestors : MethodName := ⟨RX7, "ancestors", "(I)I"⟩
abbrev cX7_comparisons : ByteArray := prog_1_method_24_code
def yX7_comparisons : MethodName := ⟨RX7, "comparisons", "(I)I"⟩
abbrev cX7_forget : ByteArray := prog_1_method_25_code
def yX7_forget : MethodName := ⟨RX7, "forget", "()I"⟩
abbrev cX7_wouldNeed : ByteArray := prog_1_method_26_code
def yX7_wouldNeed : MethodName := ⟨RX7, "wouldNeed", "(III)I"⟩
abbrev cX7_sortingNeeds : ByteArray := prog_1_method_27_code
def yX7_sortingNeeds : MethodName := ⟨RX7, "sortingNeeds", "(I)I"⟩
abbrev cX7_fewest : ByteArray := prog_1_method_28_code
def yX7_fewest : MethodName := ⟨RX7, "fewest", "()I"⟩
abbrev cX7_type : ByteArray := prog_1_method_29_code
def yX7_type : MethodName := ⟨RX7, "type", "(I)I"⟩
abbrev cX7_clearText : ByteArray := prog_1_method_30_code
def yX7_clearText : MethodName := ⟨RX7, "clearText", "()I"⟩
abbrev cX7_fault : ByteArray := prog_1_method_31_code
def yX7_fault : MethodName := ⟨RX7, "fault", "()I"⟩
abbrev cX7_run : ByteArray := prog_1_method_32_code
def yX7_run : MethodName := ⟨RX7, "run", "()I"⟩
abbrev cX7_undo : ByteArray := prog_1_method_33_code
def yX7_undo : MethodName := ⟨RX7, "undo", "()I"⟩
abbrev cX7_checksum : ByteArray := prog_1_method_34_code
def yX7_checksum : MethodName := ⟨RX7, "checksum", "()J"⟩
abbrev cX7_requireKey : ByteArray := prog_1_method_35_code
def yX7_requireKey : MethodName := ⟨RX7, "requireKey", "(I)V"⟩
abbrev cX7_requireQueue : ByteArray := prog_1_method_36_code
def yX7_requireQueue : MethodName := ⟨RX7, "requireQueue", "(I)V"⟩
abbrev cX7_requireLayout : ByteArray := prog_1_method_37_code
def yX7_requireLayout : MethodName := ⟨RX7, "requireLayout", "(I)V"⟩
abbrev cX7_requireItem : ByteArray := prog_1_method_38_code
def yX7_requireItem : MethodName := ⟨RX7, "requireItem", "(I)V"⟩
abbrev cX7_requirePosition : ByteArray := prog_1_method_39_code
def yX7_requirePosition : MethodName := ⟨RX7, "requirePosition", "(I)V"⟩
abbrev cX7_requireItems : ByteArray := prog_1_method_40_code
def yX7_requireItems : MethodName := ⟨RX7, "requireItems", "()V"⟩
abbrev cX7_isKey : ByteArray := prog_1_method_41_code
def yX7_isKey : MethodName := ⟨RX7, "isKey", "(I)Z"⟩
def RX8 : String := "TwoEndQueuesModel"
def TX8 : u_T := fun k => match k with
  | 0 => ("TwoEndQueuesModel", "now", "[I", true)
  | 1 => ("TwoEndQueuesModel", "past", "[I", true)
  | 2 => ("TwoEndQueuesModel", "kept", "[I", true)
  | 3 => ("TwoEndQueuesModel", "saved", "I", false)
  | 4 => ("TwoEndQueuesModel", "refusal", "I", false)
  | 5 => ("TwoEndQueuesModel", "text", "[I", true)
  | 6 => ("TwoEndQueuesModel", "length", "I", false)
  | 7 => ("TwoEndQueuesModel", "place", "I", false)
  | 8 => ("TwoEndQueuesModel", "wrong", "I", false)
  | 9 => ("TwoEndQueuesModel", "done", "I", false)
  | _ => ("TwoEndQueuesModel", "hash", "J", false)
def tyX8 : Nat → FieldType := fun k => match k with
  | 0 => .array .int
  | 1 => .array .int
  | 2 => .array .int
  | 3 => .int
  | 4 => .int
  | 5 => .array .int
  | 6 => .int
  | 7 => .int
  | 8 => .int
  | 9 => .int
  | _ => .long
abbrev wsX80 : List Cond := u_ws RX8 TX8 11
theorem nmX8 : ∀ a, a < 11 → ∀ b, b < 11 → a ≠ b → (TX8 a).2.1 ≠ (TX8 b).2.1 := by decide +kernel
theorem tyX8_ok : ∀ k, k < 11 → parseFieldDescriptor (TX8 k).2.2.1 = some (tyX8 k) := by decide +kernel
abbrev cX8_init : ByteArray := prog_10_method_1_code
def yX8_init : MethodName := ⟨RX8, "<init>", "()V"⟩
abbrev cX8_thrown : ByteArray := prog_10_method_2_code
def yX8_thrown : MethodName := ⟨RX8, "thrown", "()I"⟩
abbrev cX8_refused : ByteArray := prog_10_method_3_code
def yX8_refused : MethodName := ⟨RX8, "refused", "(I)Z"⟩
abbrev cX8_within : ByteArray := prog_10_method_4_code
def yX8_within : MethodName := ⟨RX8, "within", "(III)Z"⟩
abbrev cX8_saves : ByteArray := prog_10_method_5_code
def yX8_saves : MethodName := ⟨RX8, "saves", "()V"⟩
abbrev cX8_undo : ByteArray := prog_10_method_6_code
def yX8_undo : MethodName := ⟨RX8, "undo", "()I"⟩
abbrev cX8_many : ByteArray := prog_10_method_7_code
def yX8_many : MethodName := ⟨RX8, "many", "()I"⟩
abbrev cX8_item : ByteArray := prog_10_method_8_code
def yX8_item : MethodName := ⟨RX8, "item", "(II)I"⟩
abbrev cX8_lays : ByteArray := prog_10_method_9_code
def yX8_lays : MethodName := ⟨RX8, "lays", "(III)V"⟩
abbrev cX8_isItem : ByteArray := prog_10_method_10_code
def yX8_isItem : MethodName := ⟨RX8, "isItem", "(I)Z"⟩
abbrev cX8_isLayout : ByteArray := prog_10_method_11_code
def yX8_isLayout : MethodName := ⟨RX8, "isLayout", "(I)Z"⟩
abbrev cX8_isLess : ByteArray := prog_10_method_12_code
def yX8_isLess : MethodName := ⟨RX8, "isLess", "(II)Z"⟩
abbrev cX8_less : ByteArray := prog_10_method_13_code
def yX8_less : MethodName := ⟨RX8, "less", "(III)Z"⟩
abbrev cX8_exchange : ByteArray := prog_10_method_14_code
def yX8_exchange : MethodName := ⟨RX8, "exchange", "(III)V"⟩
abbrev cX8_placeOf : ByteArray := prog_10_method_15_code
def yX8_placeOf : MethodName := ⟨RX8, "placeOf", "(II)I"⟩
abbrev cX8_closes : ByteArray := prog_10_method_16_code
def yX8_closes : MethodName := ⟨RX8, "closes", "(III)I"⟩
abbrev cX8_laysAll : ByteArray := prog_10_method_17_code
def yX8_laysAll : MethodName := ⟨RX8, "laysAll", "(I)V"⟩
abbrev cX8_topOf : ByteArray := prog_10_method_18_code
def yX8_topOf : MethodName := ⟨RX8, "topOf", "(II)I"⟩
abbrev cX8_orders : ByteArray := prog_10_method_19_code
def yX8_orders : MethodName := ⟨RX8, "orders", "(II)V"⟩
abbrev cX8_risesLow : ByteArray := prog_10_method_20_code
def yX8_risesLow : MethodName := ⟨RX8, "risesLow", "(I)V"⟩
abbrev cX8_risesHigh : ByteArray := prog_10_method_21_code
def yX8_risesHigh : MethodName := ⟨RX8, "risesHigh", "(II)V"⟩
abbrev cX8_sinksLow : ByteArray := prog_10_method_22_code
def yX8_sinksLow : MethodName := ⟨RX8, "sinksLow", "(II)V"⟩
abbrev cX8_sinksHigh : ByteArray := prog_10_method_23_code
def yX8_sinksHigh : MethodName := ⟨RX8, "sinksHigh", "(II)V"⟩
abbrev cX8_settles : ByteArray := prog_10_method_24_code
def yX8_settles : MethodName := ⟨RX8, "settles", "(II)V"⟩
abbrev cX8_comesFirst : ByteArray := prog_10_method_25_code
def yX8_comesFirst : MethodName := ⟨RX8, "comesFirst", "(I)V"⟩
abbrev cX8_levelOf : ByteArray := prog_10_method_26_code
def yX8_levelOf : MethodName := ⟨RX8, "levelOf", "(I)I"⟩
abbrev cX8_leads : ByteArray := prog_10_method_27_code
def yX8_leads : MethodName := ⟨RX8, "leads", "(ZII)Z"⟩
abbrev cX8_isLow : ByteArray := prog_10_method_28_code
def yX8_isLow : MethodName := ⟨RX8, "isLow", "(I)Z"⟩
abbrev cX8_rises : ByteArray := prog_10_method_29_code
def yX8_rises : MethodName := ⟨RX8, "rises", "(I)V"⟩
abbrev cX8_sinks : ByteArray := prog_10_method_30_code
def yX8_sinks : MethodName := ⟨RX8, "sinks", "(II)V"⟩
abbrev cX8_enters : ByteArray := prog_10_method_31_code
def yX8_enters : MethodName := ⟨RX8, "enters", "(I)V"⟩
abbrev cX8_isAhead : ByteArray := prog_10_method_32_code
def yX8_isAhead : MethodName := ⟨RX8, "isAhead", "(III)Z"⟩
abbrev cX8_up : ByteArray := prog_10_method_33_code
def yX8_up : MethodName := ⟨RX8, "up", "(II)V"⟩
abbrev cX8_down : ByteArray := prog_10_method_34_code
def yX8_down : MethodName := ⟨RX8, "down", "(III)V"⟩
abbrev cX8_enters_ : ByteArray := prog_10_method_35_code
def yX8_enters_ : MethodName := ⟨RX8, "enters", "(II)V"⟩
abbrev cX8_moves : ByteArray := prog_10_method_36_code
def yX8_moves : MethodName := ⟨RX8, "moves", "(III)V"⟩
abbrev cX8_goes : ByteArray := prog_10_method_37_code
def yX8_goes : MethodName := ⟨RX8, "goes", "(II)V"⟩
abbrev cX8_builds : ByteArray := prog_10_method_38_code
def yX8_builds : MethodName := ⟨RX8, "builds", "(I)V"⟩
abbrev cX8_buildsAt : ByteArray := prog_10_method_39_code
def yX8_buildsAt : MethodName := ⟨RX8, "buildsAt", "(III)V"⟩
abbrev cX8_counts : ByteArray := prog_10_method_40_code
def yX8_counts : MethodName := ⟨RX8, "counts", "()I"⟩
abbrev cX8_freeHandle : ByteArray := prog_10_method_41_code
def yX8_freeHandle : MethodName := ⟨RX8, "freeHandle", "()I"⟩
abbrev cX8_inserts : ByteArray := prog_10_method_42_code
def yX8_inserts : MethodName := ⟨RX8, "inserts", "(II)I"⟩
abbrev cX8_isKey : ByteArray := prog_10_method_43_code
def yX8_isKey : MethodName := ⟨RX8, "isKey", "(I)Z"⟩
abbrev cX8_insert : ByteArray := prog_10_method_44_code
def yX8_insert : MethodName := ⟨RX8, "insert", "(I)I"⟩
abbrev cX8_leastOf : ByteArray := prog_10_method_45_code
def yX8_leastOf : MethodName := ⟨RX8, "leastOf", "(I)I"⟩
abbrev cX8_greatestOf : ByteArray := prog_10_method_46_code
def yX8_greatestOf : MethodName := ⟨RX8, "greatestOf", "(I)I"⟩
abbrev cX8_takeLeast : ByteArray := prog_10_method_47_code
def yX8_takeLeast : MethodName := ⟨RX8, "takeLeast", "()I"⟩
abbrev cX8_takesGreatest : ByteArray := prog_10_method_48_code
def yX8_takesGreatest : MethodName := ⟨RX8, "takesGreatest", "(I)I"⟩
abbrev cX8_takeGreatest : ByteArray := prog_10_method_49_code
def yX8_takeGreatest : MethodName := ⟨RX8, "takeGreatest", "()I"⟩
abbrev cX8_remove : ByteArray := prog_10_method_50_code
def yX8_remove : MethodName := ⟨RX8, "remove", "(I)I"⟩
abbrev cX8_changes : ByteArray := prog_10_method_51_code
def yX8_changes : MethodName := ⟨RX8, "changes", "(II)V"⟩
abbrev cX8_change : ByteArray := prog_10_method_52_code
def yX8_change : MethodName := ⟨RX8, "change", "(II)I"⟩
abbrev cX8_build : ByteArray := prog_10_method_53_code
def yX8_build : MethodName := ⟨RX8, "build", "()I"⟩
abbrev cX8_clear : ByteArray := prog_10_method_54_code
def yX8_clear : MethodName := ⟨RX8, "clear", "()I"⟩
abbrev cX8_size : ByteArray := prog_10_method_55_code
def yX8_size : MethodName := ⟨RX8, "size", "()I"⟩
abbrev cX8_handleSet : ByteArray := prog_10_method_56_code
def yX8_handleSet : MethodName := ⟨RX8, "handleSet", "()I"⟩
abbrev cX8_handles : ByteArray := prog_10_method_57_code
def yX8_handles : MethodName := ⟨RX8, "handles", "()I"⟩
abbrev cX8_key : ByteArray := prog_10_method_58_code
def yX8_key : MethodName := ⟨RX8, "key", "(I)I"⟩
abbrev cX8_fill : ByteArray := prog_10_method_59_code
def yX8_fill : MethodName := ⟨RX8, "fill", "(II)I"⟩
abbrev cX8_least : ByteArray := prog_10_method_60_code
def yX8_least : MethodName := ⟨RX8, "least", "(I)I"⟩
abbrev cX8_greatest : ByteArray := prog_10_method_61_code
def yX8_greatest : MethodName := ⟨RX8, "greatest", "(I)I"⟩
abbrev cX8_rankOf : ByteArray := prog_10_method_62_code
def yX8_rankOf : MethodName := ⟨RX8, "rankOf", "(I)I"⟩
abbrev cX8_ranked : ByteArray := prog_10_method_63_code
def yX8_ranked : MethodName := ⟨RX8, "ranked", "(I)I"⟩
abbrev cX8_rank : ByteArray := prog_10_method_64_code
def yX8_rank : MethodName := ⟨RX8, "rank", "(I)I"⟩
abbrev cX8_between : ByteArray := prog_10_method_65_code
def yX8_between : MethodName := ⟨RX8, "between", "(II)I"⟩
abbrev cX8_at : ByteArray := prog_10_method_66_code
def yX8_at : MethodName := ⟨RX8, "at", "(II)I"⟩
abbrev cX8_where : ByteArray := prog_10_method_67_code
def yX8_where : MethodName := ⟨RX8, "where", "(II)I"⟩
abbrev cX8_wrong : ByteArray := prog_10_method_68_code
def yX8_wrong : MethodName := ⟨RX8, "wrong", "(III)I"⟩
abbrev cX8_wrongNodes : ByteArray := prog_10_method_69_code
def yX8_wrongNodes : MethodName := ⟨RX8, "wrongNodes", "()I"⟩
abbrev cX8_wrongLevels : ByteArray := prog_10_method_70_code
def yX8_wrongLevels : MethodName := ⟨RX8, "wrongLevels", "()I"⟩
abbrev cX8_wrongIn : ByteArray := prog_10_method_71_code
def yX8_wrongIn : MethodName := ⟨RX8, "wrongIn", "(I)I"⟩
abbrev cX8_violations : ByteArray := prog_10_method_72_code
def yX8_violations : MethodName := ⟨RX8, "violations", "(I)I"⟩
abbrev cX8_disturb : ByteArray := prog_10_method_73_code
def yX8_disturb : MethodName := ⟨RX8, "disturb", "(III)I"⟩
abbrev cX8_level : ByteArray := prog_10_method_74_code
def yX8_level : MethodName := ⟨RX8, "level", "(I)I"⟩
abbrev cX8_above : ByteArray := prog_10_method_75_code
def yX8_above : MethodName := ⟨RX8, "above", "(II)I"⟩
abbrev cX8_ancestors : ByteArray := prog_10_method_76_code
def yX8_ancestors : MethodName := ⟨RX8, "ancestors", "(I)I"⟩
abbrev cX8_comparisons : ByteArray := prog_10_method_77_code
def yX8_comparisons : MethodName := ⟨RX8, "comparisons", "(I)I"⟩
abbrev cX8_forget : ByteArray := prog_10_method_78_code
def yX8_forget : MethodName := ⟨RX8, "forget", "()I"⟩
abbrev cX8_keeps : ByteArray := prog_10_method_79_code
def yX8_keeps : MethodName := ⟨RX8, "keeps", "()V"⟩
abbrev cX8_returns : ByteArray := prog_10_method_80_code
def yX8_returns : MethodName := ⟨RX8, "returns", "()V"⟩
abbrev cX8_canDo : ByteArray := prog_10_method_81_code
def yX8_canDo : MethodName := ⟨RX8, "canDo", "(II)Z"⟩
abbrev cX8_does : ByteArray := prog_10_method_82_code
def yX8_does : MethodName := ⟨RX8, "does", "(III)V"⟩
abbrev cX8_wouldNeed : ByteArray := prog_10_method_83_code
def yX8_wouldNeed : MethodName := ⟨RX8, "wouldNeed", "(III)I"⟩
abbrev cX8_sortingNeeds : ByteArray := prog_10_method_84_code
def yX8_sortingNeeds : MethodName := ⟨RX8, "sortingNeeds", "(I)I"⟩
abbrev cX8_fewest : ByteArray := prog_10_method_85_code
def yX8_fewest : MethodName := ⟨RX8, "fewest", "()I"⟩
abbrev cX8_type : ByteArray := prog_10_method_86_code
def yX8_type : MethodName := ⟨RX8, "type", "(I)I"⟩
abbrev cX8_clearText : ByteArray := prog_10_method_87_code
def yX8_clearText : MethodName := ⟨RX8, "clearText", "()I"⟩
abbrev cX8_next : ByteArray := prog_10_method_88_code
def yX8_next : MethodName := ⟨RX8, "next", "()I"⟩
abbrev cX8_fails : ByteArray := prog_10_method_89_code
def yX8_fails : MethodName := ⟨RX8, "fails", "()V"⟩
abbrev cX8_takes : ByteArray := prog_10_method_90_code
def yX8_takes : MethodName := ⟨RX8, "takes", "(I)V"⟩
abbrev cX8_number : ByteArray := prog_10_method_91_code
def yX8_number : MethodName := ⟨RX8, "number", "(IZ)I"⟩
abbrev cX8_reads : ByteArray := prog_10_method_92_code
def yX8_reads : MethodName := ⟨RX8, "reads", "(Z)I"⟩
abbrev cX8_isDone : ByteArray := prog_10_method_93_code
def yX8_isDone : MethodName := ⟨RX8, "isDone", "(III)Z"⟩
abbrev cX8_fault : ByteArray := prog_10_method_94_code
def yX8_fault : MethodName := ⟨RX8, "fault", "()I"⟩
abbrev cX8_run : ByteArray := prog_10_method_95_code
def yX8_run : MethodName := ⟨RX8, "run", "()I"⟩
abbrev cX8_mix : ByteArray := prog_10_method_96_code
def yX8_mix : MethodName := ⟨RX8, "mix", "(J)V"⟩
abbrev cX8_checksum : ByteArray := prog_10_method_97_code
def yX8_checksum : MethodName := ⟨RX8, "checksum", "()J"⟩
def RJ6 : String := "java/lang/Integer"
def TJ6 : u_T := fun k => match k with
  | _ => ("", "", "", false)
def tyJ6 : Nat → FieldType := fun k => match k with
  | _ => .int
abbrev wsJ60 : List Cond := u_ws RJ6 TJ6 0
theorem nmJ6 : ∀ a, a < 0 → ∀ b, b < 0 → a ≠ b → (TJ6 a).2.1 ≠ (TJ6 b).2.1 := by decide +kernel
theorem tyJ6_ok : ∀ k, k < 0 → parseFieldDescriptor (TJ6 k).2.2.1 = some (tyJ6 k) := by decide +kernel
abbrev cJ6_bitCount_0f7a4 : ByteArray := prog_15_method_49_code
def yJ6_bitCount_0f7a4 : MethodName := ⟨RJ6, "bitCount", "(I)I"⟩
def RJ9 : String := "java/lang/Math"
def TJ9 : u_T := fun k => match k with
  | _ => ("", "", "", false)
def tyJ9 : Nat → FieldType := fun k => match k with
  | _ => .int
abbrev wsJ90 : List Cond := u_ws RJ9 TJ9 0
theorem nmJ9 : ∀ a, a < 0 → ∀ b, b < 0 → a ≠ b → (TJ9 a).2.1 ≠ (TJ9 b).2.1 := by decide +kernel
theorem tyJ9_ok : ∀ k, k < 0 → parseFieldDescriptor (TJ9 k).2.2.1 = some (tyJ9 k) := by decide +kernel
abbrev cJ9_min_7cf53 : ByteArray := prog_16_method_69_code
def yJ9_min_7cf53 : MethodName := ⟨RJ9, "min", "(II)I"⟩
def RJ0 : String := "java/lang/String"
def TJ0 : u_T := fun k => match k with
  | _ => ("", "", "", false)
def tyJ0 : Nat → FieldType := fun k => match k with
  | _ => .int
abbrev wsJ00 : List Cond := u_ws RJ0 TJ0 0
theorem nmJ0 : ∀ a, a < 0 → ∀ b, b < 0 → a ≠ b → (TJ0 a).2.1 ≠ (TJ0 b).2.1 := by decide +kernel
theorem tyJ0_ok : ∀ k, k < 0 → parseFieldDescriptor (TJ0 k).2.2.1 = some (tyJ0 k) := by decide +kernel
def RJ10 : String := "java/lang/System"
def TJ10 : u_T := fun k => match k with
  | _ => ("", "", "", false)
def tyJ10 : Nat → FieldType := fun k => match k with
  | _ => .int
abbrev wsJ100 : List Cond := u_ws RJ10 TJ10 0
theorem nmJ10 : ∀ a, a < 0 → ∀ b, b < 0 → a ≠ b → (TJ10 a).2.1 ≠ (TJ10 b).2.1 := by decide +kernel
theorem tyJ10_ok : ∀ k, k < 0 → parseFieldDescriptor (TJ10 k).2.2.1 = some (tyJ10 k) := by decide +kernel
def RL : String := "TwoEndQueuesLaw"
abbrev cL_insert : ByteArray := method_3_code
def yL_insert : MethodName := ⟨RL, "insert", "(LTwoEndQueues;I[J)I"⟩
abbrev cL_takeLeast : ByteArray := method_4_code
def yL_takeLeast : MethodName := ⟨RL, "takeLeast", "(LTwoEndQueues;[J)I"⟩
abbrev cL_takeGreatest : ByteArray := method_5_code
def yL_takeGreatest : MethodName := ⟨RL, "takeGreatest", "(LTwoEndQueues;[J)I"⟩
abbrev cL_remove : ByteArray := method_6_code
def yL_remove : MethodName := ⟨RL, "remove", "(LTwoEndQueues;I[J)I"⟩
abbrev cL_change : ByteArray := method_7_code
def yL_change : MethodName := ⟨RL, "change", "(LTwoEndQueues;II[J)I"⟩
abbrev cL_key : ByteArray := method_8_code
def yL_key : MethodName := ⟨RL, "key", "(LTwoEndQueues;I[J)I"⟩
abbrev cL_fill : ByteArray := method_9_code
def yL_fill : MethodName := ⟨RL, "fill", "(LTwoEndQueues;II[J)I"⟩
abbrev cL_least : ByteArray := method_10_code
def yL_least : MethodName := ⟨RL, "least", "(LTwoEndQueues;I[J)I"⟩
abbrev cL_greatest : ByteArray := method_11_code
def yL_greatest : MethodName := ⟨RL, "greatest", "(LTwoEndQueues;I[J)I"⟩
abbrev cL_rank : ByteArray := method_12_code
def yL_rank : MethodName := ⟨RL, "rank", "(LTwoEndQueues;I[J)I"⟩
abbrev cL_at : ByteArray := method_13_code
def yL_at : MethodName := ⟨RL, "at", "(LTwoEndQueues;II[J)I"⟩
abbrev cL_where : ByteArray := method_14_code
def yL_where : MethodName := ⟨RL, "where", "(LTwoEndQueues;II[J)I"⟩
abbrev cL_violations : ByteArray := method_15_code
def yL_violations : MethodName := ⟨RL, "violations", "(LTwoEndQueues;I[J)I"⟩
abbrev cL_disturb : ByteArray := method_16_code
def yL_disturb : MethodName := ⟨RL, "disturb", "(LTwoEndQueues;III[J)I"⟩
abbrev cL_level : ByteArray := method_17_code
def yL_level : MethodName := ⟨RL, "level", "(LTwoEndQueues;I[J)I"⟩
abbrev cL_ancestors : ByteArray := method_18_code
def yL_ancestors : MethodName := ⟨RL, "ancestors", "(LTwoEndQueues;I[J)I"⟩
abbrev cL_comparisons : ByteArray := method_19_code
def yL_comparisons : MethodName := ⟨RL, "comparisons", "(LTwoEndQueues;I[J)I"⟩
abbrev cL_wouldNeed : ByteArray := method_20_code
def yL_wouldNeed : MethodName := ⟨RL, "wouldNeed", "(LTwoEndQueues;III[J)I"⟩
abbrev cL_sortingNeeds : ByteArray := method_21_code
def yL_sortingNeeds : MethodName := ⟨RL, "sortingNeeds", "(LTwoEndQueues;I[J)I"⟩
abbrev cL_type : ByteArray := method_22_code
def yL_type : MethodName := ⟨RL, "type", "(LTwoEndQueues;I[J)I"⟩
abbrev cL_run : ByteArray := method_23_code
def yL_run : MethodName := ⟨RL, "run", "(LTwoEndQueues;[J)I"⟩
abbrev cL_undo : ByteArray := method_24_code
def yL_undo : MethodName := ⟨RL, "undo", "(LTwoEndQueues;[J)I"⟩
abbrev cL_law : ByteArray := code
def yL_law : MethodName := ⟨RL, "law", "([I)Z"⟩
end
section
/-! MY OWN MACHINE WORDS: worlds by places, locals by lists, one predicate a program point. -/
abbrev MC : Type := (FieldType × vp_A) ⊕ (Nat × List Value)
abbrev MW : Type := Nat × (Nat → MC)
abbrev MO : Type := (Option Value) ⊕ String
def mm_XT : Nat := 1000000
abbrev mm_cl : List vw_C := [(RX0, TX0, 4), (RX1, TX1, 3), (RX2, TX2, 3), (RX4, TX4, 3), (RX5, TX5, 4), (RX6, TX6, 7), (RX7, TX7, 4), (RX8, TX8, 11)]
def mm_rv (ad : Nat → Nat) (v : Value) : Value := match v with
  | .ref k => .ref (ad k)
  | v => v
def mm_okv (N : Nat) (v : Value) : Prop := ∀ k, v = .ref k → k < N ∨ k = mm_XT
def mm_okf (N : Nat) (v : Value) : Prop := ∀ k, v = .ref k → k < N
def mm_okc (N : Nat) (c : MC) : Prop := match c with
  | .inl (_, _, .inr (.inr (.inr (.inr f)))) => ∀ j k, f j = some k → k < N
  | .inl _ => True
  | .inr o => ∀ v ∈ o.2, mm_okf N v
def mm_cv (ad : Nat → Nat) (dA : FieldType → ClassId) (c : MC) : va_E := match c with
  | .inl (ty, n, .inr (.inr (.inr (.inr f)))) => .inl (dA ty, n, .inr (.inr (.inr (.inr (fun j => (f j).map ad)))))
  | .inl a => .inl (dA a.1, a.2)
  | .inr o => .inr (o.1, o.2.map (mm_rv ad))
def mm_ws (ad : Nat → Nat) (dA : FieldType → ClassId) (w : MW) : va_W := (List.range w.1).map (fun k => (ad k, mm_cv ad dA (w.2 k)))
abbrev mm_tys (dA : FieldType → ClassId) : List (ClassId × FieldType) := [(dA .int, .int), (dA .long, .long), (dA .char, .char), (dA (.object RX5), .object RX5)]
theorem mm_ws_get {ad : Nat → Nat} {dA : FieldType → ClassId} {w : MW} {k : Nat} (h : k < w.1) : (mm_ws ad dA w)[k]? = some (ad k, mm_cv ad dA (w.2 k)) := by
  simp [mm_ws, h]
theorem mm_ws_len {ad : Nat → Nat} {dA : FieldType → ClassId} {w : MW} : (mm_ws ad dA w).length = w.1 := by simp [mm_ws]
theorem mm_ws_at {ad : Nat → Nat} {dA : FieldType → ClassId} {w : MW} {k : Nat} {q : Nat × va_E} (h : (mm_ws ad dA w)[k]? = some q) : k < w.1 ∧ q = (ad k, mm_cv ad dA (w.2 k)) := by
  have hk : k < w.1 := by rw [← mm_ws_len (ad := ad) (dA := dA)]; exact (List.getElem?_eq_some_iff.mp h).1
  refine ⟨hk, ?_⟩
  rw [mm_ws_get hk] at h
  exact (Option.some.inj h).symm
/-- setting a place -/
theorem mm_ws_set {ad : Nat → Nat} {dA : FieldType → ClassId} {w : MW} {k : Nat} (h : k < w.1) (c : MC) : (mm_ws ad dA w).set k (ad k, mm_cv ad dA c) = mm_ws ad dA (w.1, va_up w.2 k c) := by
  apply List.ext_getElem?
  intro j
  by_cases hj : j < w.1
  · rw [mm_ws_get (w := (w.1, va_up w.2 k c)) hj]
    by_cases e : k = j
    · subst e
      rw [List.getElem?_set_self (by rw [mm_ws_len]; exact h)]
      simp [va_up]
    · rw [List.getElem?_set_ne e, mm_ws_get hj]
      have e' : ¬ j = k := fun q => e q.symm
      simp [va_up, e']
  · rw [List.getElem?_eq_none (by rw [List.length_set, mm_ws_len]; omega), List.getElem?_eq_none (by rw [mm_ws_len]; show w.1 ≤ j; omega)]
theorem mm_rv_agree {ad ad' : Nat → Nat} {N : Nat} {v : Value} (h : ∀ k, k < N ∨ k = mm_XT → ad' k = ad k) (hv : mm_okv N v) : mm_rv ad' v = mm_rv ad v := by
  cases v with
  | ref k => simp only [mm_rv]; rw [h k (hv k rfl)]
  | _ => rfl
theorem mm_cv_agree {ad ad' : Nat → Nat} {dA : FieldType → ClassId} {N : Nat} {c : MC} (h : ∀ k, k < N → ad' k = ad k) (hc : mm_okc N c) : mm_cv ad' dA c = mm_cv ad dA c := by
  rcases c with ⟨ty, n, a⟩ | o
  · rcases a with a | a | a | a | f
    · rfl
    · rfl
    · rfl
    · rfl
    · simp only [mm_cv]
      have e : (fun j => (f j).map ad') = (fun j => (f j).map ad) := by
        funext j
        cases hj : f j with
        | none => rfl
        | some k => simp [h k (hc j k hj)]
      rw [e]
  · simp only [mm_cv]
    have e : o.2.map (mm_rv ad') = o.2.map (mm_rv ad) := by
      apply List.map_congr_left
      intro v hv
      exact mm_rv_agree (N := N) (v := v) (ad := ad) (ad' := ad) (fun _ _ => rfl) (fun k hk => Or.inl (hc v hv k hk)) ▸ (by
        cases v with
        | ref k => simp only [mm_rv]; rw [h k (hc _ hv k rfl)]
        | _ => rfl)
    rw [e]
/-- one cell more -/
theorem mm_ws_push {ad : Nat → Nat} {dA : FieldType → ClassId} {w : MW} {q : Nat} {c : MC} (hw : ∀ k, k < w.1 → mm_okc w.1 (w.2 k)) (hc : mm_okc w.1 c) : mm_ws ad dA w ++ [(q, mm_cv ad dA c)] = mm_ws (va_up ad w.1 q) dA (w.1 + 1, va_up w.2 w.1 c) := by
  have ha : ∀ k, k < w.1 → va_up ad w.1 q k = ad k := fun k hk => by simp [va_up, Nat.ne_of_lt hk]
  apply List.ext_getElem?
  intro j
  rcases Nat.lt_trichotomy j w.1 with hj | hj | hj
  · rw [List.getElem?_append_left (by rw [mm_ws_len]; exact hj), mm_ws_get hj, mm_ws_get (w := (w.1 + 1, va_up w.2 w.1 c)) (show j < w.1 + 1 by omega), ha j hj]
    have e : va_up w.2 w.1 c j = w.2 j := by simp [va_up, Nat.ne_of_lt hj]
    show some (ad j, mm_cv ad dA (w.2 j)) = some (ad j, mm_cv (va_up ad w.1 q) dA (va_up w.2 w.1 c j))
    rw [e, mm_cv_agree ha (hw j hj)]
  · subst hj
    rw [List.getElem?_append_right (by rw [mm_ws_len]; exact Nat.le_refl _), mm_ws_len, Nat.sub_self, mm_ws_get (w := (w.1 + 1, va_up w.2 w.1 c)) (show w.1 < w.1 + 1 by omega)]
    have e : va_up w.2 w.1 c w.1 = c := by simp [va_up]
    show some (q, mm_cv ad dA c) = some (va_up ad w.1 q w.1, mm_cv (va_up ad w.1 q) dA (va_up w.2 w.1 c w.1))
    rw [e, mm_cv_agree ha hc]
    simp [va_up]
  · rw [List.getElem?_eq_none (by simp [mm_ws_len]; omega), List.getElem?_eq_none (by rw [mm_ws_len]; show w.1 + 1 ≤ j; omega)]
theorem mm_okc_mono {N M : Nat} {c : MC} (h : N ≤ M) (hc : mm_okc N c) : mm_okc M c := by
  rcases c with ⟨ty, n, a⟩ | o
  · rcases a with a | a | a | a | f
    · trivial
    · trivial
    · trivial
    · trivial
    · exact fun j k hj => Nat.lt_of_lt_of_le (hc j k hj) h
  · exact fun v hv k hk => Nat.lt_of_lt_of_le (hc v hv k hk) h
/-- the tables' words, wherever the machine stands -/
def mm_GW : List Cond := lw_tbl.filter goodWord
def mm_ok (w : Cond) : Bool := match w with
  | .methodLinkNest .. => true
  | .declares _ => true
  | .castable .. => true
  | _ => false
def mm_strs : List (String × Nat × String) := lw_tbl.filterMap (fun w => match w with | .stringRef o k t => some (o, k, t) | _ => none)
def mm_ncs : List (String × String) := [("java/lang/IllegalStateException", "java/lang/IllegalArgumentException"), ("java/lang/IllegalArgumentException", "java/lang/IndexOutOfBoundsException"), ("java/lang/IndexOutOfBoundsException", "java/lang/IllegalArgumentException")]
def mm_Tab (s : State) : Prop := (∀ w ∈ mm_GW, w.before #[] s = true) ∧ (∀ w ∈ lw_tbl, mm_ok w = true → va_Nw w s) ∧ va_AO RX5 s ∧ (∀ q ∈ mm_strs, ∃ sa, vk_R q.1 q.2.1 q.2.2 sa s) ∧ ∀ q ∈ mm_ncs, va_Nc q.1 q.2 s
theorem mm_good {w : Cond} (h : w ∈ mm_GW) : (w.onTables && w.keeps) = true ∨ ∃ ty, w = .arrayClass ty := good_of_word (List.mem_filter.mp h).2
theorem mm_Tab.warm {s U : State} (hW : s.WarmedH U.vm) (h : mm_Tab s) : mm_Tab U := by
  obtain ⟨h1, h2, h3, h4, h5⟩ := h
  refine ⟨fun w hw => word_at hW (mm_good hw) (h1 w hw), fun w hw hk => ?_, h3.moved hW.alike, fun q hq => ?_, fun q hq => (h5 q hq).moved hW.alike⟩
  · have hz := h2 w hw hk
    cases w <;> first | exact va_Nw.warmM hW hz | exact va_Nw.warmD hW hz | exact va_Nw.warmC hW hz | cases hk
  · obtain ⟨sa, h⟩ := h4 q hq
    exact ⟨sa, vk_R.warm hW h⟩
theorem mm_Tab.hts {s : State} (h : mm_Tab s) {args : Array Value} : ∀ w ∈ mm_GW, w.before args s = true := fun w hw => word_at (State.WarmedH.refl s) (mm_good hw) (h.1 w hw)
def mm_S (D : va_G) (dA : FieldType → ClassId) (A : Nat → Prop) (U : State) (H : Heap) : Prop := mm_Tab U ∧ va_K D mm_cl (mm_tys dA) U ∧ vx_Zq Bundle.tN "UNASSIGNED_STACK" Bundle.steD A U H ∧ vx_Zq Bundle.tN "SUPPRESSED_SENTINEL" Bundle.listD A U H
theorem mm_S.warm {D : va_G} {dA : FieldType → ClassId} {A : Nat → Prop} {s U : State} {H : Heap} (hW : s.WarmedH U.vm) (h : mm_S D dA A s H) : mm_S D dA A U H := ⟨h.1.warm hW, va_K.moved hW.alike h.2.1, h.2.2.1.moved hW.alike, h.2.2.2.moved hW.alike⟩
theorem mm_S.kept {D : va_G} {dA : FieldType → ClassId} {A : Nat → Prop} {s : State} {H H1 : Heap} (h : mm_S D dA A s H) (hq : ∀ a : Nat, a < H.size → ¬ A a → H1[a]? = H[a]?) : mm_S D dA A s H1 := ⟨h.1, h.2.1, h.2.2.1.kept hq, h.2.2.2.kept hq⟩
theorem mm_S.narrow {D : va_G} {dA : FieldType → ClassId} {A B : Nat → Prop} {s : State} {H : Heap} (h : mm_S D dA A s H) (hq : ∀ q, B q → A q) : mm_S D dA B s H := ⟨h.1, h.2.1, h.2.2.1.narrow hq, h.2.2.2.narrow hq⟩
/-- a world in a heap -/
def mm_H (D : va_G) (dA : FieldType → ClassId) (ad : Nat → Nat) (w : MW) (H : Heap) : Prop := va_P D mm_cl (mm_ws ad dA w) H ∧ (∀ k, k < w.1 → mm_okc w.1 (w.2 k)) ∧ w.1 ≤ mm_XT
def mm_ag (ad0 ad : Nat → Nat) (N0 N : Nat) : Prop := N0 ≤ N ∧ ∀ k, k < N0 ∨ k = mm_XT → ad k = ad0 k
/-- locals: the first entry of a place counts -/
def mm_lk (lv : List (Nat × Value)) (i : Nat) : Option Value := match lv with
  | [] => none
  | q :: l => if q.1 = i then some q.2 else mm_lk l i
theorem mm_lk_mem {lv : List (Nat × Value)} {i : Nat} {v : Value} (h : mm_lk lv i = some v) : (i, v) ∈ lv := by
  induction lv with
  | nil => cases h
  | cons q l ih =>
    unfold mm_lk at h
    by_cases e : q.1 = i
    · rw [if_pos e] at h
      cases h
      rw [← e]
      exact List.mem_cons_self
    · rw [if_neg e] at h
      exact List.mem_cons_of_mem _ (ih h)
def mm_L (ad : Nat → Nat) (N nL : Nat) (lv : List (Nat × Value)) (ls : Array Slot) : Prop := ls.size = nL ∧ lv_wf ls ∧ ∀ i v, mm_lk lv i = some v → ls[i]? = some (.val (mm_rv ad v)) ∧ mm_okv N v
def mm_c1 (lv : List (Nat × Value)) (i : Nat) : Bool := match i with
  | 0 => true
  | j + 1 => match mm_lk lv j with
    | some v => v.category == 1
    | none => true
theorem mm_cat (ad : Nat → Nat) (v : Value) : (mm_rv ad v).category = v.category := by cases v <;> rfl
/-- what the kit's store rows are given, and give back -/
theorem mm_L.has {ad : Nat → Nat} {N nL : Nat} {lv : List (Nat × Value)} {ls : Array Slot} (h : mm_L ad N nL lv ls) : lv_has ls nL ((List.range nL).filterMap (fun j => (mm_lk lv j).map (fun v => (j, mm_rv ad v)))) := by
  refine ⟨h.1, h.2.1, fun q hq => ?_⟩
  obtain ⟨j, -, hj⟩ := List.mem_filterMap.mp hq
  cases e : mm_lk lv j with
  | none => rw [e] at hj; cases hj
  | some v =>
    rw [e] at hj
    cases hj
    exact (h.2.2 j v e).1
theorem mm_L.put {ad : Nat → Nat} {N nL : Nat} {lv : List (Nat × Value)} {ls ls' : Array Slot} {i : Nat} {v : Value} (h : mm_L ad N nL lv ls) (hc : mm_c1 lv i = true) (hv : mm_okv N v)
    (hs : lv_has ls' nL ((i, mm_rv ad v) :: ((List.range nL).filterMap (fun j => (mm_lk lv j).map (fun v => (j, mm_rv ad v)))).filter (fun q => !(q.1 == i) && !(q.1 + 1 == i && q.2.category == 2)))) : mm_L ad N nL ((i, v) :: lv) ls' := by
  refine ⟨hs.1, hs.2.1, fun j u hj => ?_⟩
  unfold mm_lk at hj
  by_cases e : i = j
  · rw [if_pos e] at hj
    cases hj
    subst e
    exact ⟨hs.2.2 (i, mm_rv ad v) List.mem_cons_self, hv⟩
  · rw [if_neg e] at hj
    obtain ⟨g1, g2⟩ := h.2.2 j u hj
    have hjn : j < nL := by rw [← h.1]; exact lv_lt g1
    refine ⟨hs.2.2 (j, mm_rv ad u) (List.mem_cons_of_mem _ (List.mem_filter.mpr ⟨List.mem_filterMap.mpr ⟨j, List.mem_range.mpr hjn, by rw [hj]; rfl⟩, ?_⟩)), g2⟩
    have e' : ¬ j = i := fun q => e q.symm
    rw [mm_cat]
    by_cases e2 : j + 1 = i
    · subst e2
      simp only [mm_c1, hj, beq_iff_eq] at hc
      simp [hc]
    · simp [e', e2]
theorem mm_L.put2 {ad : Nat → Nat} {N nL : Nat} {lv : List (Nat × Value)} {ls ls' : Array Slot} {i : Nat} {v : Value} (h : mm_L ad N nL lv ls) (hc : mm_c1 lv i = true) (hc2 : mm_lk lv (i + 1) = none) (hv : mm_okv N v)
    (hs : lv_has ls' nL ((i, mm_rv ad v) :: ((List.range nL).filterMap (fun j => (mm_lk lv j).map (fun v => (j, mm_rv ad v)))).filter (fun q => !(q.1 == i) && (!(q.1 == i + 1) && !(q.1 + 1 == i && q.2.category == 2))))) : mm_L ad N nL ((i, v) :: lv) ls' := by
  refine ⟨hs.1, hs.2.1, fun j u hj => ?_⟩
  unfold mm_lk at hj
  by_cases e : i = j
  · rw [if_pos e] at hj
    cases hj
    subst e
    exact ⟨hs.2.2 (i, mm_rv ad v) List.mem_cons_self, hv⟩
  · rw [if_neg e] at hj
    obtain ⟨g1, g2⟩ := h.2.2 j u hj
    have hjn : j < nL := by rw [← h.1]; exact lv_lt g1
    refine ⟨hs.2.2 (j, mm_rv ad u) (List.mem_cons_of_mem _ (List.mem_filter.mpr ⟨List.mem_filterMap.mpr ⟨j, List.mem_range.mpr hjn, by rw [hj]; rfl⟩, ?_⟩)), g2⟩
    have e' : ¬ j = i := fun q => e q.symm
    have e3 : ¬ j = i + 1 := fun q => by rw [q, hc2] at hj; cases hj
    rw [mm_cat]
    by_cases e2 : j + 1 = i
    · subst e2
      simp only [mm_c1, hj, beq_iff_eq] at hc
      simp [hc, e3]
    · simp [e', e2, e3]
theorem mm_L.agree {ad ad' : Nat → Nat} {N N' nL : Nat} {lv : List (Nat × Value)} {ls : Array Slot} (h : mm_L ad N nL lv ls) (hN : N ≤ N') (ha : ∀ k, k < N ∨ k = mm_XT → ad' k = ad k) : mm_L ad' N' nL lv ls := by
  refine ⟨h.1, h.2.1, fun i v hv => ?_⟩
  obtain ⟨g1, g2⟩ := h.2.2 i v hv
  refine ⟨by rw [mm_rv_agree ha g2]; exact g1, fun k hk => ?_⟩
  rcases g2 k hk with q | q
  · exact Or.inl (Nat.lt_of_lt_of_le q hN)
  · exact Or.inr q
def mm_O (N : Nat) (st : List Value) : Prop := ∀ v ∈ st, mm_okv N v
theorem mm_O.cons {N : Nat} {v : Value} {st : List Value} (hv : mm_okv N v) (h : mm_O N st) : mm_O N (v :: st) := fun u hu => by
  rcases List.mem_cons.mp hu with rfl | hu
  · exact hv
  · exact h u hu
theorem mm_O.tail {N : Nat} {v : Value} {st : List Value} (h : mm_O N (v :: st)) : mm_O N st := fun u hu => h u (List.mem_cons_of_mem _ hu)
theorem mm_O.head {N : Nat} {v : Value} {st : List Value} (h : mm_O N (v :: st)) : mm_okv N v := h v List.mem_cons_self
theorem mm_O.nil {N : Nat} : mm_O N [] := fun _ h => nomatch h
theorem mm_O.mono {N M : Nat} {st : List Value} (hN : N ≤ M) (h : mm_O N st) : mm_O M st := fun v hv k hk => by
  rcases h v hv k hk with q | q
  · exact Or.inl (Nat.lt_of_lt_of_le q hN)
  · exact Or.inr q
theorem mm_O.agree {ad ad' : Nat → Nat} {N : Nat} {st : List Value} (h : mm_O N st) (ha : ∀ k, k < N ∨ k = mm_XT → ad' k = ad k) : st.map (mm_rv ad') = st.map (mm_rv ad) := List.map_congr_left (fun v hv => mm_rv_agree ha (h v hv))
theorem mm_okv_int {N : Nat} {x : Int32} : mm_okv N (.int x) := fun _ h => nomatch h
theorem mm_okv_long {N : Nat} {x : Int64} : mm_okv N (.long x) := fun _ h => nomatch h
theorem mm_okv_null {N : Nat} : mm_okv N .null := fun _ h => nomatch h
theorem mm_okv_ref {N k : Nat} (hk : k < N) : mm_okv N (.ref k) := fun j h => by cases h; exact Or.inl hk
/-- what holds of a method all the while -/
def mm_C (l : Launch) (y : MethodName) (cc : ByteArray) (nL : Nat) (ret : Option FieldType) (hh : List (Nat × Nat × Nat × Nat)) (ext : Option (Nat × (Nat → Int32))) (d : Nat) (p : Program) (R : Room) (s : State) (m : MethodId) (meth : Method) (c : Code) (D : va_G) (dA : FieldType → ClassId) (A : Nat → Prop) (ad0 : Nat → Nat) : Prop :=
  p.tables.exec = Jvm.exec ∧ c.code = cc ∧ c.maxLocals = nL ∧ meth.sig.returnType = ret ∧ s.vm.findClass y.cls = some m.cls ∧ meth.name = y.name ∧ meth.locks = false ∧ c.exceptionTable.toList = tableOf hh ∧ l.stackTraces = false ∧ d ≤ R.frames ∧ 40 * d ≤ R.locals ∧ mm_S D dA A s s.heap ∧ (∀ q, s.heap.size ≤ q → A q) ∧
  ∀ L xs, ext = some (L, xs) → va_X (ad0 mm_XT) L xs s s.heap ∧ ad0 mm_XT < s.heap.size ∧ ¬ A (ad0 mm_XT)
abbrev MZ : Type := Room → va_G → (FieldType → ClassId) → (Nat → Prop) → (Nat → Nat) → Nat → List Frame → Array Value → State → State → Prop
/-- the machine at pc with these locals, this stack, this world comes to its end -/
def Go (l : Launch) (y : MethodName) (cc : ByteArray) (nL : Nat) (ret : Option FieldType) (hh : List (Nat × Nat × Nat × Nat)) (ext : Option (Nat × (Nat → Int32))) (Z : MZ) (d bc bs : Nat) (pc : Nat) (lv : List (Nat × Value)) (st : List Value) (w : MW) : Prop :=
  ∀ (p : Program) (e : Env) (R : Room) (s : State) (m : MethodId) (args : Array Value) (below : List Frame) (meth : Method) (c : Code) (D : va_G) (dA : FieldType → ClassId) (A : Nat → Prop) (ad0 : Nat → Nat) (N0 : Nat), mm_C l y cc nL ret hh ext d p R s m meth c D dA A ad0 →
  ∀ (H : Heap) (locs : List Loc) (cells slots : Nat) (ad : Nat → Nat) (ls : Array Slot), cells + bc ≤ R.cells → slots + bs ≤ R.slots → mm_H D dA ad w H → va_D A (mm_ws ad dA w) → va_S A s.heap H locs → mm_ag ad0 ad N0 w.1 → mm_L ad w.1 nL lv ls → mm_O w.1 st →
  W p l e R s m args below meth c H locs cells slots (Z R D dA A ad0 N0 below args s) (F0 m pc ls (st.map (mm_rv ad)))
/-- the same with an exception of class E over the frame -/
def GoX (l : Launch) (y : MethodName) (cc : ByteArray) (nL : Nat) (ret : Option FieldType) (hh : List (Nat × Nat × Nat × Nat)) (ext : Option (Nat × (Nat → Int32))) (Z : MZ) (d bc bs : Nat) (pc : Nat) (lv : List (Nat × Value)) (E : String) (w : MW) : Prop :=
  ∀ (p : Program) (e : Env) (R : Room) (s : State) (m : MethodId) (args : Array Value) (below : List Frame) (meth : Method) (c : Code) (D : va_G) (dA : FieldType → ClassId) (A : Nat → Prop) (ad0 : Nat → Nat) (N0 : Nat), mm_C l y cc nL ret hh ext d p R s m meth c D dA A ad0 →
  ∀ (H : Heap) (locs : List Loc) (cells slots : Nat) (ad : Nat → Nat) (ls : Array Slot), cells + bc ≤ R.cells → slots + bs ≤ R.slots → mm_H D dA ad w H → va_D A (mm_ws ad dA w) → va_S A s.heap H locs → mm_ag ad0 ad N0 w.1 → mm_L ad w.1 nL lv ls →
  ∀ (q : Addr) (ce : Cell) (st : List Value), H[q]? = some ce → ce.vm = .none → s.vm.findClass E = some ce.cls →
  vx_W p l e R s m args below meth c H locs cells slots (Z R D dA A ad0 N0 below args s) (F0 m pc ls st) q
/-- a method's end: what it answers, or throws, and the world behind it -/
def mm_Qc (Q : MO → MW → Prop) (D : va_G) (dA : FieldType → ClassId) (A : Nat → Prop) (ad0 : Nat → Nat) (N0 : Nat) : Array Value → State → Outcome → State → Prop := fun _ st o t =>
  ∃ (v : Option Value) (w : MW) (ad : Nat → Nat), o = .returned (v.map (mm_rv ad)) ∧ Q (.inl v) w ∧ (∀ x, v = some x → mm_okv w.1 x) ∧ mm_H D dA ad w t.heap ∧ va_D A (mm_ws ad dA w) ∧ mm_ag ad0 ad N0 w.1 ∧ va_F A st t
def mm_XC (Q : MO → MW → Prop) (D : va_G) (dA : FieldType → ClassId) (A : Nat → Prop) (ad0 : Nat → Nat) (N0 : Nat) : String → State → State → Prop := fun E st t =>
  ∃ (w : MW) (ad : Nat → Nat), Q (.inr E) w ∧ mm_H D dA ad w t.heap ∧ va_D A (mm_ws ad dA w) ∧ mm_ag ad0 ad N0 w.1 ∧ va_F A st t
def mm_Z (Q : MO → MW → Prop) : MZ := fun R D dA A ad0 N0 below args s => vx_MQ below (mm_Qc Q D dA A ad0 N0) (mm_XC Q D dA A ad0 N0) args s R.cells R.slots A
def mm_Pc (D : va_G) (dA : FieldType → ClassId) (ad : Nat → Nat) (sz : Nat) (as : List Value) (w : MW) : Array Value → State → Prop := fun v U =>
  v = (as.map (mm_rv ad)).toArray ∧ U.heap.size = sz ∧ mm_H D dA ad w U.heap ∧ mm_S D dA (va_A (mm_ws ad dA w) sz) U U.heap ∧ va_D (fun _ => True) (mm_ws ad dA w) ∧ mm_O w.1 as
def mm_rm (d mc ms : Nat) : Room := { frames := d, cells := mc, slots := ms, locals := 40 * d }
def mm_eq (o : MO) (w : MW) : MO → MW → Prop := fun o' w' => o' = o ∧ w' = w
/-- a contract: called with these arguments in this world it ends so -/
def Ct (l : Launch) (hd : Cond) (y : MethodName) (d mc ms : Nat) (as : List Value) (w : MW) (o : MO) (w' : MW) : Prop :=
  l.stackTraces = false → ∀ (D : va_G) (dA : FieldType → ClassId) (ad : Nat → Nat) (sz : Nat), vx_Met l y [hd] (mm_rm d mc ms) (mm_Pc D dA ad sz as w) (mm_Qc (mm_eq o w') D dA (va_A (mm_ws ad dA w) sz) ad w.1) (mm_XC (mm_eq o w') D dA (va_A (mm_ws ad dA w) sz) ad w.1) mc ms (va_A (mm_ws ad dA w) sz)
theorem mm_Pc.blind {D : va_G} {dA : FieldType → ClassId} {ad : Nat → Nat} {sz : Nat} {as : List Value} {w : MW} : FrameBlind (mm_Pc D dA ad sz as w) := by
  intro a U g mk h
  obtain ⟨h1, h2, h3, h4, h5, h6⟩ := h
  exact ⟨h1, h2, h3, mm_S.warm (s := U) (U := U.calling g mk a) (State.WarmedH.refl U) h4, h5, h6⟩
end
section
theorem mm_lkargs {i : Nat} {as : List Value} {j : Nat} {v : Value} (h : mm_lk (lv_args i as) j = some v) : v ∈ as := by
  induction as generalizing i with
  | nil => cases h
  | cons a l ih =>
    unfold lv_args mm_lk at h
    by_cases e : i = j
    · rw [if_pos e] at h; cases h; exact List.mem_cons_self
    · rw [if_neg e] at h; exact List.mem_cons_of_mem _ (ih h)
theorem mm_lvargs_map {ad : Nat → Nat} {i : Nat} {as : List Value} : lv_args i (as.map (mm_rv ad)) = (lv_args i as).map (fun q => (q.1, mm_rv ad q.2)) := by
  induction as generalizing i with
  | nil => rfl
  | cons a l ih => simp only [List.map_cons, lv_args, mm_cat, ih]
theorem mm_sl_len {ad : Nat → Nat} {as : List Value} : (lg_sl (as.map (mm_rv ad))).length = (lg_sl as).length := by
  induction as with
  | nil => rfl
  | cons a l ih =>
    simp only [lg_sl, List.map_cons, List.flatMap_cons, List.length_append, mm_cat] at ih ⊢
    rw [ih]
    by_cases h : a.category = 2
    · simp [h]
    · simp [h]
/-- where a method begins -/
theorem mm_begin {l : Launch} {y : MethodName} {cc : ByteArray} {nL : Nat} {ret : Option FieldType} {hh : List (Nat × Nat × Nat × Nat)} {d mc ms : Nat} {as : List Value} {w : MW} {o : MO} {w' : MW} (hlen : (lg_sl as).length ≤ nL) (G : Go l y cc nL ret hh none (mm_Z (mm_eq o w')) d mc ms 0 (lv_args 0 as) [] w) (hl : l.stackTraces = false)
    {D : va_G} {dA : FieldType → ClassId} {ad : Nat → Nat} {sz : Nat} {hd : Cond} {p : Program} {e : Env} {s : State} {m : MethodId} {args : Array Value} {below : List Frame} {meth : Method} {c : Code} {s₁ : State} (B : BodyLoose p l y (headSpec [hd] (mm_rm d mc ms)) cc nL ret e s m args below meth c s₁) (hml : c.maxLocals = nL) (ht : c.exceptionTable.toList = tableOf hh) (hv : mm_Pc D dA ad sz as w args s) :
    W p l e (headSpec [hd] (mm_rm d mc ms)).room s m args below meth c s.heap [] 0 0 (vx_MQ below (mm_Qc (mm_eq o w') D dA (va_A (mm_ws ad dA w) sz) ad w.1) (mm_XC (mm_eq o w') D dA (va_A (mm_ws ad dA w) sz) ad w.1) args s mc ms (va_A (mm_ws ad dA w) sz)) (entryFrame m args nL) := by
  obtain ⟨ha, hsz, hH, hS, hD, hO⟩ := hv
  subst hsz
  have hC : mm_C l y cc nL ret hh none d p (mm_rm d mc ms) s m meth c D dA (va_A (mm_ws ad dA w) s.heap.size) ad := ⟨B.exec, B.bytes, hml, B.returns, findClass_of_methodNamed B.named, (name_of_methodNamed B.named B.method).1, B.notSynchronized, ht, hl, Nat.le_refl _, Nat.le_refl _, hS, fun q h => Or.inr h, fun _ _ h => nomatch h⟩
  subst ha
  rw [lg_entry_eq]
  have he := lv_entry (as.map (mm_rv ad)) (n := nL) (by rw [mm_sl_len]; exact hlen)
  have hL : mm_L ad w.1 nL (lv_args 0 as) ((lg_sl (as.map (mm_rv ad)) ++ List.replicate (nL - (lg_sl (as.map (mm_rv ad))).length) Slot.unset).toArray) := by
    refine ⟨he.1, he.2.1, fun i v hv => ⟨?_, hO v (mm_lkargs hv)⟩⟩
    refine he.2.2 (i, mm_rv ad v) ?_
    rw [mm_lvargs_map]
    exact List.mem_map.mpr ⟨(i, v), mm_lk_mem hv, rfl⟩
  exact G p e (mm_rm d mc ms) s m _ below meth c D dA (va_A (mm_ws ad dA w) s.heap.size) ad w.1 hC s.heap [] 0 0 ad _ (by show 0 + mc ≤ mc; omega) (by show 0 + ms ≤ ms; omega) hH hD.self va_S.rf ⟨Nat.le_refl _, fun _ _ => rfl⟩ hL mm_O.nil
theorem ct_of {l : Launch} {y : MethodName} {cc : ByteArray} {nL : Nat} {ret : Option FieldType} {d mc ms : Nat} {as : List Value} {w : MW} {o : MO} {w' : MW} (hy : plainName y.cls = true) (hlen : (lg_sl as).length ≤ nL) (G : Go l y cc nL ret [] none (mm_Z (mm_eq o w')) d mc ms 0 (lv_args 0 as) [] w) : Ct l (.code y cc nL ret) y d mc ms as w o w' := by
  intro hl D dA ad sz
  refine vx_ofW (cc := cc) (maxL := nL) (ret := ret) hy rfl ?_
  intro p e s m args below meth c s₁ B hml ht hv
  have ht' : c.exceptionTable.toList = tableOf [] := by
    cases h : c.exceptionTable.toList with
    | nil => rfl
    | cons a b => exact (ht a (by rw [h]; exact List.mem_cons_self)).elim
  exact mm_begin hlen G hl B hml ht' hv
theorem ct_ofH {l : Launch} {y : MethodName} {cc : ByteArray} {nL : Nat} {ret : Option FieldType} {hh : List (Nat × Nat × Nat × Nat)} {d mc ms : Nat} {as : List Value} {w : MW} {o : MO} {w' : MW} (hy : plainName y.cls = true) (hlen : (lg_sl as).length ≤ nL) (G : Go l y cc nL ret hh none (mm_Z (mm_eq o w')) d mc ms 0 (lv_args 0 as) [] w) : Ct l (.codeWith y cc nL ret hh) y d mc ms as w o w' := by
  intro hl D dA ad sz
  refine vx_ofWH (cc := cc) (maxL := nL) (ret := ret) (hh := hh) hy rfl ?_
  intro p e s m args below meth c s₁ B hml hv
  exact mm_begin hlen G hl B hml (vx_table (x := y) B (atoms_spec (ws := [Cond.codeWith y cc nL ret hh]) B.pre _ List.mem_cons_self)) hv
section ROWS
variable {l : Launch} {y : MethodName} {cc : ByteArray} {nL : Nat} {ret : Option FieldType} {hh : List (Nat × Nat × Nat × Nat)} {ext : Option (Nat × (Nat → Int32))} {Z : MZ} {d bc bs : Nat} {pc : Nat} {lv : List (Nat × Value)} {st : List Value} {w : MW}
theorem go_lv (lv0 : List (Nat × Value)) (hs : ∀ q ∈ lv0, mm_lk lv q.1 = some q.2) (h : Go l y cc nL ret hh ext Z d bc bs pc lv0 st w) : Go l y cc nL ret hh ext Z d bc bs pc lv st w := by
  intro p e R s m args below meth c D dA A ad0 N0 C H locs cells slots ad ls h1 h2 h3 h4 h5 h6 h7 h8
  exact h p e R s m args below meth c D dA A ad0 N0 C H locs cells slots ad ls h1 h2 h3 h4 h5 h6 ⟨h7.1, h7.2.1, fun i v hv => h7.2.2 i v (hs _ (mm_lk_mem hv))⟩ h8
theorem go_room {bc' bs' : Nat} (h1 : bc' ≤ bc) (h2 : bs' ≤ bs) (h : Go l y cc nL ret hh ext Z d bc' bs' pc lv st w) : Go l y cc nL ret hh ext Z d bc bs pc lv st w := by
  intro p e R s m args below meth c D dA A ad0 N0 C H locs cells slots ad ls g1 g2
  exact h p e R s m args below meth c D dA A ad0 N0 C H locs cells slots ad ls (by omega) (by omega)
theorem go_iload_n {k : Fin 4} {x : Int32} (hd : decode cc pc = .ok (.iload_n k, 1)) (hx : mm_lk lv k = some (.int x)) (h : Go l y cc nL ret hh ext Z d bc bs (pc + 1) lv (.int x :: st) w) : Go l y cc nL ret hh ext Z d bc bs pc lv st w := by
  intro p e R s m args below meth c D dA A ad0 N0 C H locs cells slots ad ls h1 h2 h3 h4 h5 h6 h7 h8
  exact lv_iload_n C.1 C.2.1 hd rfl (h7.2.2 _ _ hx).1 (h p e R s m args below meth c D dA A ad0 N0 C H locs cells slots ad ls h1 h2 h3 h4 h5 h6 h7 (mm_O.cons mm_okv_int h8))
end ROWS
end
section
section ROWS
variable {l : Launch} {y : MethodName} {cc : ByteArray} {nL : Nat} {ret : Option FieldType} {hh : List (Nat × Nat × Nat × Nat)} {ext : Option (Nat × (Nat → Int32))} {Z : MZ} {d bc bs : Nat} {pc : Nat} {lv : List (Nat × Value)} {st : List Value} {w : MW}
theorem go_iload {k : Nat} {x : Int32} (hd : decode cc pc = .ok (.iload k, 2)) (hx : mm_lk lv k = some (.int x)) (h : Go l y cc nL ret hh ext Z d bc bs (pc + 2) lv (.int x :: st) w) : Go l y cc nL ret hh ext Z d bc bs pc lv st w := by
  intro p e R s m args below meth c D dA A ad0 N0 C H locs cells slots ad ls h1 h2 h3 h4 h5 h6 h7 h8
  exact lv_iload C.1 C.2.1 hd (h7.2.2 _ _ hx).1 (h p e R s m args below meth c D dA A ad0 N0 C H locs cells slots ad ls h1 h2 h3 h4 h5 h6 h7 (mm_O.cons mm_okv_int h8))
theorem go_lload_n {k : Fin 4} {x : Int64} (hd : decode cc pc = .ok (.lload_n k, 1)) (hx : mm_lk lv k = some (.long x)) (h : Go l y cc nL ret hh ext Z d bc bs (pc + 1) lv (.long x :: st) w) : Go l y cc nL ret hh ext Z d bc bs pc lv st w := by
  intro p e R s m args below meth c D dA A ad0 N0 C H locs cells slots ad ls h1 h2 h3 h4 h5 h6 h7 h8
  exact lv_lload_n C.1 C.2.1 hd rfl (h7.2.2 _ _ hx).1 (h p e R s m args below meth c D dA A ad0 N0 C H locs cells slots ad ls h1 h2 h3 h4 h5 h6 h7 (mm_O.cons mm_okv_long h8))
theorem go_aload_n {k : Fin 4} {x : Nat} (hd : decode cc pc = .ok (.aload_n k, 1)) (hx : mm_lk lv k = some (.ref x)) (h : Go l y cc nL ret hh ext Z d bc bs (pc + 1) lv (.ref x :: st) w) : Go l y cc nL ret hh ext Z d bc bs pc lv st w := by
  intro p e R s m args below meth c D dA A ad0 N0 C H locs cells slots ad ls h1 h2 h3 h4 h5 h6 h7 h8
  exact lv_aload_n C.1 C.2.1 hd rfl (h7.2.2 _ _ hx).1 (h p e R s m args below meth c D dA A ad0 N0 C H locs cells slots ad ls h1 h2 h3 h4 h5 h6 h7 (mm_O.cons (h7.2.2 _ _ hx).2 h8))
theorem go_aload {k : Nat} {x : Nat} (hd : decode cc pc = .ok (.aload k, 2)) (hx : mm_lk lv k = some (.ref x)) (h : Go l y cc nL ret hh ext Z d bc bs (pc + 2) lv (.ref x :: st) w) : Go l y cc nL ret hh ext Z d bc bs pc lv st w := by
  intro p e R s m args below meth c D dA A ad0 N0 C H locs cells slots ad ls h1 h2 h3 h4 h5 h6 h7 h8
  exact lv_aload C.1 C.2.1 hd (h7.2.2 _ _ hx).1 (h p e R s m args below meth c D dA A ad0 N0 C H locs cells slots ad ls h1 h2 h3 h4 h5 h6 h7 (mm_O.cons (h7.2.2 _ _ hx).2 h8))
theorem go_istore_n {k : Fin 4} {x : Int32} (hd : decode cc pc = .ok (.istore_n k, 1)) (hn : (k : Nat) < nL) (hc : mm_c1 lv k = true) (h : Go l y cc nL ret hh ext Z d bc bs (pc + 1) (((k : Nat), .int x) :: lv) st w) : Go l y cc nL ret hh ext Z d bc bs pc lv (.int x :: st) w := by
  intro p e R s m args below meth c D dA A ad0 N0 C H locs cells slots ad ls h1 h2 h3 h4 h5 h6 h7 h8
  exact lv_istore_n C.1 C.2.1 hd rfl h7.has hn rfl (fun ls' hl' => (h p e R s m args below meth c D dA A ad0 N0 C H locs cells slots ad ls' h1 h2 h3 h4 h5 h6 (h7.put hc h8.head hl') h8.tail))
theorem go_istore {k : Nat} {x : Int32} (hd : decode cc pc = .ok (.istore k, 2)) (hn : k < nL) (hc : mm_c1 lv k = true) (h : Go l y cc nL ret hh ext Z d bc bs (pc + 2) ((k, .int x) :: lv) st w) : Go l y cc nL ret hh ext Z d bc bs pc lv (.int x :: st) w := by
  intro p e R s m args below meth c D dA A ad0 N0 C H locs cells slots ad ls h1 h2 h3 h4 h5 h6 h7 h8
  exact lv_istore C.1 C.2.1 hd h7.has hn rfl (fun ls' hl' => (h p e R s m args below meth c D dA A ad0 N0 C H locs cells slots ad ls' h1 h2 h3 h4 h5 h6 (h7.put hc h8.head hl') h8.tail))
theorem go_astore_n {k : Fin 4} {x : Nat} (hd : decode cc pc = .ok (.astore_n k, 1)) (hn : (k : Nat) < nL) (hc : mm_c1 lv k = true) (h : Go l y cc nL ret hh ext Z d bc bs (pc + 1) (((k : Nat), .ref x) :: lv) st w) : Go l y cc nL ret hh ext Z d bc bs pc lv (.ref x :: st) w := by
  intro p e R s m args below meth c D dA A ad0 N0 C H locs cells slots ad ls h1 h2 h3 h4 h5 h6 h7 h8
  exact lv_astore_n C.1 C.2.1 hd rfl h7.has hn rfl (fun ls' hl' => (h p e R s m args below meth c D dA A ad0 N0 C H locs cells slots ad ls' h1 h2 h3 h4 h5 h6 (h7.put hc h8.head hl') h8.tail))
theorem go_astore {k : Nat} {x : Nat} (hd : decode cc pc = .ok (.astore k, 2)) (hn : k < nL) (hc : mm_c1 lv k = true) (h : Go l y cc nL ret hh ext Z d bc bs (pc + 2) ((k, .ref x) :: lv) st w) : Go l y cc nL ret hh ext Z d bc bs pc lv (.ref x :: st) w := by
  intro p e R s m args below meth c D dA A ad0 N0 C H locs cells slots ad ls h1 h2 h3 h4 h5 h6 h7 h8
  exact lv_astore C.1 C.2.1 hd h7.has hn rfl (fun ls' hl' => (h p e R s m args below meth c D dA A ad0 N0 C H locs cells slots ad ls' h1 h2 h3 h4 h5 h6 (h7.put hc h8.head hl') h8.tail))
theorem go_lstore_n {k : Fin 4} {x : Int64} (hd : decode cc pc = .ok (.lstore_n k, 1)) (hn : (k : Nat) + 1 < nL) (hc : mm_c1 lv k = true) (hc2 : mm_lk lv ((k : Nat) + 1) = none) (h : Go l y cc nL ret hh ext Z d bc bs (pc + 1) (((k : Nat), .long x) :: lv) st w) : Go l y cc nL ret hh ext Z d bc bs pc lv (.long x :: st) w := by
  intro p e R s m args below meth c D dA A ad0 N0 C H locs cells slots ad ls h1 h2 h3 h4 h5 h6 h7 h8
  exact lv_lstore_n C.1 C.2.1 hd rfl h7.has hn rfl (fun ls' hl' => (h p e R s m args below meth c D dA A ad0 N0 C H locs cells slots ad ls' h1 h2 h3 h4 h5 h6 (h7.put2 hc hc2 h8.head hl') h8.tail))
theorem go_iinc {i : Nat} {n : Int} {x v : Int32} (hd : decode cc pc = .ok (.iinc i n, 3)) (hx : mm_lk lv i = some (.int x)) (hn : i < nL) (hc : mm_c1 lv i = true) (hv : x + Int32.ofInt n = v) (h : Go l y cc nL ret hh ext Z d bc bs (pc + 3) ((i, .int v) :: lv) st w) : Go l y cc nL ret hh ext Z d bc bs pc lv st w := by
  intro p e R s m args below meth c D dA A ad0 N0 C H locs cells slots ad ls h1 h2 h3 h4 h5 h6 h7 h8
  have hm : (i, Value.int x) ∈ (List.range nL).filterMap (fun j => (mm_lk lv j).map (fun v => (j, mm_rv ad v))) := List.mem_filterMap.mpr ⟨i, List.mem_range.mpr hn, by rw [hx]; rfl⟩
  obtain ⟨k, hk⟩ := List.getElem?_of_mem hm
  exact lv_iinc C.1 C.2.1 hd h7.has hk hv hn rfl (fun ls' hl' => (h p e R s m args below meth c D dA A ad0 N0 C H locs cells slots ad ls' h1 h2 h3 h4 h5 h6 (h7.put hc mm_okv_int hl') h8))
theorem go_iconst {n : Int} (v : Int32) (hd : decode cc pc = .ok (.iconst n, 1)) (hv : Int32.ofInt n = v) (h : Go l y cc nL ret hh ext Z d bc bs (pc + 1) lv (.int v :: st) w) : Go l y cc nL ret hh ext Z d bc bs pc lv st w := by
  intro p e R s m args below meth c D dA A ad0 N0 C H locs cells slots ad ls h1 h2 h3 h4 h5 h6 h7 h8
  exact lv_iconst C.1 C.2.1 hd hv (h p e R s m args below meth c D dA A ad0 N0 C H locs cells slots ad ls h1 h2 h3 h4 h5 h6 h7 (mm_O.cons mm_okv_int h8))
theorem go_bipush {n : Int} (v : Int32) (hd : decode cc pc = .ok (.bipush n, 2)) (hv : (Int8.ofInt n).toInt32 = v) (h : Go l y cc nL ret hh ext Z d bc bs (pc + 2) lv (.int v :: st) w) : Go l y cc nL ret hh ext Z d bc bs pc lv st w := by
  intro p e R s m args below meth c D dA A ad0 N0 C H locs cells slots ad ls h1 h2 h3 h4 h5 h6 h7 h8
  exact lv_bipush C.1 C.2.1 hd hv (h p e R s m args below meth c D dA A ad0 N0 C H locs cells slots ad ls h1 h2 h3 h4 h5 h6 h7 (mm_O.cons mm_okv_int h8))
theorem go_sipush {n : Int} (v : Int32) (hd : decode cc pc = .ok (.sipush n, 3)) (hv : (Int16.ofInt n).toInt32 = v) (h : Go l y cc nL ret hh ext Z d bc bs (pc + 3) lv (.int v :: st) w) : Go l y cc nL ret hh ext Z d bc bs pc lv st w := by
  intro p e R s m args below meth c D dA A ad0 N0 C H locs cells slots ad ls h1 h2 h3 h4 h5 h6 h7 h8
  exact lv_sipush C.1 C.2.1 hd hv (h p e R s m args below meth c D dA A ad0 N0 C H locs cells slots ad ls h1 h2 h3 h4 h5 h6 h7 (mm_O.cons mm_okv_int h8))
theorem go_ldc {idx : Nat} {v : Int32} (hd : decode cc pc = .ok (.ldc idx, 2)) (hv : Cond.constant y.cls idx v ∈ mm_GW) (h : Go l y cc nL ret hh ext Z d bc bs (pc + 2) lv (.int v :: st) w) : Go l y cc nL ret hh ext Z d bc bs pc lv st w := by
  intro p e R s m args below meth c D dA A ad0 N0 C H locs cells slots ad ls h1 h2 h3 h4 h5 h6 h7 h8
  exact lv_ldc C.1 C.2.1 C.2.2.2.2.1 (C.2.2.2.2.2.2.2.2.2.2.2.1.1.hts _ hv) hd (h p e R s m args below meth c D dA A ad0 N0 C H locs cells slots ad ls h1 h2 h3 h4 h5 h6 h7 (mm_O.cons mm_okv_int h8))
theorem go_ldc2 {idx : Nat} {v : Int64} (hd : decode cc pc = .ok (.ldc2_w idx, 3)) (hv : Cond.constantLong y.cls idx v ∈ mm_GW) (h : Go l y cc nL ret hh ext Z d bc bs (pc + 3) lv (.long v :: st) w) : Go l y cc nL ret hh ext Z d bc bs pc lv st w := by
  intro p e R s m args below meth c D dA A ad0 N0 C H locs cells slots ad ls h1 h2 h3 h4 h5 h6 h7 h8
  exact lv_ldc2 C.1 C.2.1 C.2.2.2.2.1 (C.2.2.2.2.2.2.2.2.2.2.2.1.1.hts _ hv) hd (h p e R s m args below meth c D dA A ad0 N0 C H locs cells slots ad ls h1 h2 h3 h4 h5 h6 h7 (mm_O.cons mm_okv_long h8))
theorem go_iadd {x z : Int32} (hd : decode cc pc = .ok (.iadd, 1)) (h : Go l y cc nL ret hh ext Z d bc bs (pc + 1) lv (.int (x + z) :: st) w) : Go l y cc nL ret hh ext Z d bc bs pc lv (.int z :: .int x :: st) w := by
  intro p e R s m args below meth c D dA A ad0 N0 C H locs cells slots ad ls h1 h2 h3 h4 h5 h6 h7 h8
  exact lv_iadd C.1 C.2.1 hd (h p e R s m args below meth c D dA A ad0 N0 C H locs cells slots ad ls h1 h2 h3 h4 h5 h6 h7 (mm_O.cons mm_okv_int h8.tail.tail))
theorem go_isub {x z : Int32} (hd : decode cc pc = .ok (.isub, 1)) (h : Go l y cc nL ret hh ext Z d bc bs (pc + 1) lv (.int (x - z) :: st) w) : Go l y cc nL ret hh ext Z d bc bs pc lv (.int z :: .int x :: st) w := by
  intro p e R s m args below meth c D dA A ad0 N0 C H locs cells slots ad ls h1 h2 h3 h4 h5 h6 h7 h8
  exact lv_isub C.1 C.2.1 hd (h p e R s m args below meth c D dA A ad0 N0 C H locs cells slots ad ls h1 h2 h3 h4 h5 h6 h7 (mm_O.cons mm_okv_int h8.tail.tail))
theorem go_imul {x z : Int32} (hd : decode cc pc = .ok (.imul, 1)) (h : Go l y cc nL ret hh ext Z d bc bs (pc + 1) lv (.int (x * z) :: st) w) : Go l y cc nL ret hh ext Z d bc bs pc lv (.int z :: .int x :: st) w := by
  intro p e R s m args below meth c D dA A ad0 N0 C H locs cells slots ad ls h1 h2 h3 h4 h5 h6 h7 h8
  exact lv_imul C.1 C.2.1 hd (h p e R s m args below meth c D dA A ad0 N0 C H locs cells slots ad ls h1 h2 h3 h4 h5 h6 h7 (mm_O.cons mm_okv_int h8.tail.tail))
theorem go_iand {x z : Int32} (hd : decode cc pc = .ok (.iand, 1)) (h : Go l y cc nL ret hh ext Z d bc bs (pc + 1) lv (.int (x &&& z) :: st) w) : Go l y cc nL ret hh ext Z d bc bs pc lv (.int z :: .int x :: st) w := by
  intro p e R s m args below meth c D dA A ad0 N0 C H locs cells slots ad ls h1 h2 h3 h4 h5 h6 h7 h8
  exact lv_iand C.1 C.2.1 hd (h p e R s m args below meth c D dA A ad0 N0 C H locs cells slots ad ls h1 h2 h3 h4 h5 h6 h7 (mm_O.cons mm_okv_int h8.tail.tail))
theorem go_ior {x z : Int32} (hd : decode cc pc = .ok (.ior, 1)) (h : Go l y cc nL ret hh ext Z d bc bs (pc + 1) lv (.int (x ||| z) :: st) w) : Go l y cc nL ret hh ext Z d bc bs pc lv (.int z :: .int x :: st) w := by
  intro p e R s m args below meth c D dA A ad0 N0 C H locs cells slots ad ls h1 h2 h3 h4 h5 h6 h7 h8
  exact lv_ior C.1 C.2.1 hd (h p e R s m args below meth c D dA A ad0 N0 C H locs cells slots ad ls h1 h2 h3 h4 h5 h6 h7 (mm_O.cons mm_okv_int h8.tail.tail))
theorem go_ishl {x z : Int32} (hd : decode cc pc = .ok (.ishl, 1)) (h : Go l y cc nL ret hh ext Z d bc bs (pc + 1) lv (.int (x <<< (z &&& 31)) :: st) w) : Go l y cc nL ret hh ext Z d bc bs pc lv (.int z :: .int x :: st) w := by
  intro p e R s m args below meth c D dA A ad0 N0 C H locs cells slots ad ls h1 h2 h3 h4 h5 h6 h7 h8
  exact lv_ishl C.1 C.2.1 hd (h p e R s m args below meth c D dA A ad0 N0 C H locs cells slots ad ls h1 h2 h3 h4 h5 h6 h7 (mm_O.cons mm_okv_int h8.tail.tail))
theorem go_ishr {x z : Int32} (hd : decode cc pc = .ok (.ishr, 1)) (h : Go l y cc nL ret hh ext Z d bc bs (pc + 1) lv (.int (x >>> (z &&& 31)) :: st) w) : Go l y cc nL ret hh ext Z d bc bs pc lv (.int z :: .int x :: st) w := by
  intro p e R s m args below meth c D dA A ad0 N0 C H locs cells slots ad ls h1 h2 h3 h4 h5 h6 h7 h8
  exact lv_ishr C.1 C.2.1 hd (h p e R s m args below meth c D dA A ad0 N0 C H locs cells slots ad ls h1 h2 h3 h4 h5 h6 h7 (mm_O.cons mm_okv_int h8.tail.tail))
theorem go_idiv {x z : Int32} (hd : decode cc pc = .ok (.idiv, 1)) (hne : ¬ z = 0) (h : Go l y cc nL ret hh ext Z d bc bs (pc + 1) lv (.int (x / z) :: st) w) : Go l y cc nL ret hh ext Z d bc bs pc lv (.int z :: .int x :: st) w := by
  intro p e R s m args below meth c D dA A ad0 N0 C H locs cells slots ad ls h1 h2 h3 h4 h5 h6 h7 h8
  exact lv_idiv C.1 C.2.1 hd hne (h p e R s m args below meth c D dA A ad0 N0 C H locs cells slots ad ls h1 h2 h3 h4 h5 h6 h7 (mm_O.cons mm_okv_int h8.tail.tail))
theorem go_irem {x z : Int32} (hd : decode cc pc = .ok (.irem, 1)) (hne : ¬ z = 0) (h : Go l y cc nL ret hh ext Z d bc bs (pc + 1) lv (.int (x - x / z * z) :: st) w) : Go l y cc nL ret hh ext Z d bc bs pc lv (.int z :: .int x :: st) w := by
  intro p e R s m args below meth c D dA A ad0 N0 C H locs cells slots ad ls h1 h2 h3 h4 h5 h6 h7 h8
  exact lv_irem C.1 C.2.1 hd hne (h p e R s m args below meth c D dA A ad0 N0 C H locs cells slots ad ls h1 h2 h3 h4 h5 h6 h7 (mm_O.cons mm_okv_int h8.tail.tail))
theorem go_ladd {x z : Int64} (hd : decode cc pc = .ok (.ladd, 1)) (h : Go l y cc nL ret hh ext Z d bc bs (pc + 1) lv (.long (x + z) :: st) w) : Go l y cc nL ret hh ext Z d bc bs pc lv (.long z :: .long x :: st) w := by
  intro p e R s m args below meth c D dA A ad0 N0 C H locs cells slots ad ls h1 h2 h3 h4 h5 h6 h7 h8
  exact lv_ladd C.1 C.2.1 hd (h p e R s m args below meth c D dA A ad0 N0 C H locs cells slots ad ls h1 h2 h3 h4 h5 h6 h7 (mm_O.cons mm_okv_long h8.tail.tail))
theorem go_lmul {x z : Int64} (hd : decode cc pc = .ok (.lmul, 1)) (h : Go l y cc nL ret hh ext Z d bc bs (pc + 1) lv (.long (x * z) :: st) w) : Go l y cc nL ret hh ext Z d bc bs pc lv (.long z :: .long x :: st) w := by
  intro p e R s m args below meth c D dA A ad0 N0 C H locs cells slots ad ls h1 h2 h3 h4 h5 h6 h7 h8
  exact lv_lmul C.1 C.2.1 hd (h p e R s m args below meth c D dA A ad0 N0 C H locs cells slots ad ls h1 h2 h3 h4 h5 h6 h7 (mm_O.cons mm_okv_long h8.tail.tail))
theorem go_ldiv {x z : Int64} (hd : decode cc pc = .ok (.ldiv, 1)) (hne : ¬ z = 0) (h : Go l y cc nL ret hh ext Z d bc bs (pc + 1) lv (.long (x / z) :: st) w) : Go l y cc nL ret hh ext Z d bc bs pc lv (.long z :: .long x :: st) w := by
  intro p e R s m args below meth c D dA A ad0 N0 C H locs cells slots ad ls h1 h2 h3 h4 h5 h6 h7 h8
  exact lv_ldiv C.1 C.2.1 hd hne (h p e R s m args below meth c D dA A ad0 N0 C H locs cells slots ad ls h1 h2 h3 h4 h5 h6 h7 (mm_O.cons mm_okv_long h8.tail.tail))
theorem go_lrem {x z : Int64} (hd : decode cc pc = .ok (.lrem, 1)) (hne : ¬ z = 0) (h : Go l y cc nL ret hh ext Z d bc bs (pc + 1) lv (.long (x - x / z * z) :: st) w) : Go l y cc nL ret hh ext Z d bc bs pc lv (.long z :: .long x :: st) w := by
  intro p e R s m args below meth c D dA A ad0 N0 C H locs cells slots ad ls h1 h2 h3 h4 h5 h6 h7 h8
  exact lv_lrem C.1 C.2.1 hd hne (h p e R s m args below meth c D dA A ad0 N0 C H locs cells slots ad ls h1 h2 h3 h4 h5 h6 h7 (mm_O.cons mm_okv_long h8.tail.tail))
theorem go_iushr {x z v : Int32} (hd : decode cc pc = .ok (.iushr, 1)) (hv : (x.toUInt32 >>> (z.toUInt32 &&& Int32.toUInt32 31)).toInt32 = v) (h : Go l y cc nL ret hh ext Z d bc bs (pc + 1) lv (.int v :: st) w) : Go l y cc nL ret hh ext Z d bc bs pc lv (.int z :: .int x :: st) w := by
  intro p e R s m args below meth c D dA A ad0 N0 C H locs cells slots ad ls h1 h2 h3 h4 h5 h6 h7 h8
  exact lv_iushr C.1 C.2.1 hd hv (h p e R s m args below meth c D dA A ad0 N0 C H locs cells slots ad ls h1 h2 h3 h4 h5 h6 h7 (mm_O.cons mm_okv_int h8.tail.tail))
theorem go_lcmp {x z : Int64} (hd : decode cc pc = .ok (.lcmp, 1)) (h : Go l y cc nL ret hh ext Z d bc bs (pc + 1) lv (.int (lg_cmp x z) :: st) w) : Go l y cc nL ret hh ext Z d bc bs pc lv (.long z :: .long x :: st) w := by
  intro p e R s m args below meth c D dA A ad0 N0 C H locs cells slots ad ls h1 h2 h3 h4 h5 h6 h7 h8
  exact W.lcmp C.1 C.2.1 hd (h p e R s m args below meth c D dA A ad0 N0 C H locs cells slots ad ls h1 h2 h3 h4 h5 h6 h7 (mm_O.cons mm_okv_int h8.tail.tail))
theorem go_ineg {x : Int32} (hd : decode cc pc = .ok (.ineg, 1)) (h : Go l y cc nL ret hh ext Z d bc bs (pc + 1) lv (.int (-x) :: st) w) : Go l y cc nL ret hh ext Z d bc bs pc lv (.int x :: st) w := by
  intro p e R s m args below meth c D dA A ad0 N0 C H locs cells slots ad ls h1 h2 h3 h4 h5 h6 h7 h8
  exact lv_ineg C.1 C.2.1 hd (h p e R s m args below meth c D dA A ad0 N0 C H locs cells slots ad ls h1 h2 h3 h4 h5 h6 h7 (mm_O.cons mm_okv_int h8.tail))
theorem go_i2l {x : Int32} (hd : decode cc pc = .ok (.i2l, 1)) (h : Go l y cc nL ret hh ext Z d bc bs (pc + 1) lv (.long x.toInt64 :: st) w) : Go l y cc nL ret hh ext Z d bc bs pc lv (.int x :: st) w := by
  intro p e R s m args below meth c D dA A ad0 N0 C H locs cells slots ad ls h1 h2 h3 h4 h5 h6 h7 h8
  exact lv_i2l C.1 C.2.1 hd rfl (h p e R s m args below meth c D dA A ad0 N0 C H locs cells slots ad ls h1 h2 h3 h4 h5 h6 h7 (mm_O.cons mm_okv_long h8.tail))
theorem go_l2i {x : Int64} (hd : decode cc pc = .ok (.l2i, 1)) (h : Go l y cc nL ret hh ext Z d bc bs (pc + 1) lv (.int x.toInt32 :: st) w) : Go l y cc nL ret hh ext Z d bc bs pc lv (.long x :: st) w := by
  intro p e R s m args below meth c D dA A ad0 N0 C H locs cells slots ad ls h1 h2 h3 h4 h5 h6 h7 h8
  exact lv_l2i C.1 C.2.1 hd rfl (h p e R s m args below meth c D dA A ad0 N0 C H locs cells slots ad ls h1 h2 h3 h4 h5 h6 h7 (mm_O.cons mm_okv_int h8.tail))
theorem go_i2c {x : Int32} (hd : decode cc pc = .ok (.i2c, 1)) (h : Go l y cc nL ret hh ext Z d bc bs (pc + 1) lv (.int (x.toUInt32 % 65536).toInt32 :: st) w) : Go l y cc nL ret hh ext Z d bc bs pc lv (.int x :: st) w := by
  intro p e R s m args below meth c D dA A ad0 N0 C H locs cells slots ad ls h1 h2 h3 h4 h5 h6 h7 h8
  exact lv_i2c C.1 C.2.1 hd rfl (h p e R s m args below meth c D dA A ad0 N0 C H locs cells slots ad ls h1 h2 h3 h4 h5 h6 h7 (mm_O.cons mm_okv_int h8.tail))
theorem go_dup {v : Value} (hd : decode cc pc = .ok (.dup, 1)) (hv : v.category = 1) (h : Go l y cc nL ret hh ext Z d bc bs (pc + 1) lv (v :: v :: st) w) : Go l y cc nL ret hh ext Z d bc bs pc lv (v :: st) w := by
  intro p e R s m args below meth c D dA A ad0 N0 C H locs cells slots ad ls h1 h2 h3 h4 h5 h6 h7 h8
  exact lv_dup C.1 C.2.1 hd ((mm_cat ad v).trans hv) (h p e R s m args below meth c D dA A ad0 N0 C H locs cells slots ad ls h1 h2 h3 h4 h5 h6 h7 (mm_O.cons h8.head h8))
theorem go_pop {v : Value} (hd : decode cc pc = .ok (.pop, 1)) (hv : v.category = 1) (h : Go l y cc nL ret hh ext Z d bc bs (pc + 1) lv st w) : Go l y cc nL ret hh ext Z d bc bs pc lv (v :: st) w := by
  intro p e R s m args below meth c D dA A ad0 N0 C H locs cells slots ad ls h1 h2 h3 h4 h5 h6 h7 h8
  exact lv_pop C.1 C.2.1 hd ((mm_cat ad v).trans hv) (h p e R s m args below meth c D dA A ad0 N0 C H locs cells slots ad ls h1 h2 h3 h4 h5 h6 h7 h8.tail)
theorem go_dup2 {v u : Value} (hd : decode cc pc = .ok (.dup2, 1)) (hv : v.category = 1) (hu : u.category = 1) (h : Go l y cc nL ret hh ext Z d bc bs (pc + 1) lv (v :: u :: v :: u :: st) w) : Go l y cc nL ret hh ext Z d bc bs pc lv (v :: u :: st) w := by
  intro p e R s m args below meth c D dA A ad0 N0 C H locs cells slots ad ls h1 h2 h3 h4 h5 h6 h7 h8
  exact lv_dup2_11 C.1 C.2.1 hd ((mm_cat ad v).trans hv) ((mm_cat ad u).trans hu) (h p e R s m args below meth c D dA A ad0 N0 C H locs cells slots ad ls h1 h2 h3 h4 h5 h6 h7 (mm_O.cons h8.head (mm_O.cons h8.tail.head h8)))
theorem go_if_eq {x : Int32} {off : Int} (tgt : Nat) (hd : decode cc pc = .ok (.ifCond .eq off, 3)) (ht : (pc : Int) + off = (tgt : Int)) (kt : x = 0 → Go l y cc nL ret hh ext Z d bc bs tgt lv st w) (kf : ¬ (x = 0) → Go l y cc nL ret hh ext Z d bc bs (pc + 3) lv st w) : Go l y cc nL ret hh ext Z d bc bs pc lv (.int x :: st) w := by
  intro p e R s m args below meth c D dA A ad0 N0 C H locs cells slots ad ls h1 h2 h3 h4 h5 h6 h7 h8
  exact lv_if_eq C.1 C.2.1 hd ht (fun q => (kt q p e R s m args below meth c D dA A ad0 N0 C H locs cells slots ad ls h1 h2 h3 h4 h5 h6 h7 h8.tail)) (fun q => (kf q p e R s m args below meth c D dA A ad0 N0 C H locs cells slots ad ls h1 h2 h3 h4 h5 h6 h7 h8.tail))
theorem go_icmp_eq {x z : Int32} {off : Int} (tgt : Nat) (hd : decode cc pc = .ok (.if_icmp .eq off, 3)) (ht : (pc : Int) + off = (tgt : Int)) (kt : x = z → Go l y cc nL ret hh ext Z d bc bs tgt lv st w) (kf : ¬ (x = z) → Go l y cc nL ret hh ext Z d bc bs (pc + 3) lv st w) : Go l y cc nL ret hh ext Z d bc bs pc lv (.int z :: .int x :: st) w := by
  intro p e R s m args below meth c D dA A ad0 N0 C H locs cells slots ad ls h1 h2 h3 h4 h5 h6 h7 h8
  exact lv_icmp_eq C.1 C.2.1 hd ht (fun q => (kt q p e R s m args below meth c D dA A ad0 N0 C H locs cells slots ad ls h1 h2 h3 h4 h5 h6 h7 h8.tail.tail)) (fun q => (kf q p e R s m args below meth c D dA A ad0 N0 C H locs cells slots ad ls h1 h2 h3 h4 h5 h6 h7 h8.tail.tail))
theorem go_if_ne {x : Int32} {off : Int} (tgt : Nat) (hd : decode cc pc = .ok (.ifCond .ne off, 3)) (ht : (pc : Int) + off = (tgt : Int)) (kt : x ≠ 0 → Go l y cc nL ret hh ext Z d bc bs tgt lv st w) (kf : x = 0 → Go l y cc nL ret hh ext Z d bc bs (pc + 3) lv st w) : Go l y cc nL ret hh ext Z d bc bs pc lv (.int x :: st) w := by
  intro p e R s m args below meth c D dA A ad0 N0 C H locs cells slots ad ls h1 h2 h3 h4 h5 h6 h7 h8
  exact lv_if_ne C.1 C.2.1 hd ht (fun q => (kt q p e R s m args below meth c D dA A ad0 N0 C H locs cells slots ad ls h1 h2 h3 h4 h5 h6 h7 h8.tail)) (fun q => (kf q p e R s m args below meth c D dA A ad0 N0 C H locs cells slots ad ls h1 h2 h3 h4 h5 h6 h7 h8.tail))
theorem go_icmp_ne {x z : Int32} {off : Int} (tgt : Nat) (hd : decode cc pc = .ok (.if_icmp .ne off, 3)) (ht : (pc : Int) + off = (tgt : Int)) (kt : x ≠ z → Go l y cc nL ret hh ext Z d bc bs tgt lv st w) (kf : x = z → Go l y cc nL ret hh ext Z d bc bs (pc + 3) lv st w) : Go l y cc nL ret hh ext Z d bc bs pc lv (.int z :: .int x :: st) w := by
  intro p e R s m args below meth c D dA A ad0 N0 C H locs cells slots ad ls h1 h2 h3 h4 h5 h6 h7 h8
  exact lv_icmp_ne C.1 C.2.1 hd ht (fun q => (kt q p e R s m args below meth c D dA A ad0 N0 C H locs cells slots ad ls h1 h2 h3 h4 h5 h6 h7 h8.tail.tail)) (fun q => (kf q p e R s m args below meth c D dA A ad0 N0 C H locs cells slots ad ls h1 h2 h3 h4 h5 h6 h7 h8.tail.tail))
theorem go_if_lt {x : Int32} {off : Int} (tgt : Nat) (hd : decode cc pc = .ok (.ifCond .lt off, 3)) (ht : (pc : Int) + off = (tgt : Int)) (kt : x < 0 → Go l y cc nL ret hh ext Z d bc bs tgt lv st w) (kf : ¬ (x < 0) → Go l y cc nL ret hh ext Z d bc bs (pc + 3) lv st w) : Go l y cc nL ret hh ext Z d bc bs pc lv (.int x :: st) w := by
  intro p e R s m args below meth c D dA A ad0 N0 C H locs cells slots ad ls h1 h2 h3 h4 h5 h6 h7 h8
  exact lv_if_lt C.1 C.2.1 hd ht (fun q => (kt q p e R s m args below meth c D dA A ad0 N0 C H locs cells slots ad ls h1 h2 h3 h4 h5 h6 h7 h8.tail)) (fun q => (kf q p e R s m args below meth c D dA A ad0 N0 C H locs cells slots ad ls h1 h2 h3 h4 h5 h6 h7 h8.tail))
theorem go_icmp_lt {x z : Int32} {off : Int} (tgt : Nat) (hd : decode cc pc = .ok (.if_icmp .lt off, 3)) (ht : (pc : Int) + off = (tgt : Int)) (kt : x < z → Go l y cc nL ret hh ext Z d bc bs tgt lv st w) (kf : ¬ (x < z) → Go l y cc nL ret hh ext Z d bc bs (pc + 3) lv st w) : Go l y cc nL ret hh ext Z d bc bs pc lv (.int z :: .int x :: st) w := by
  intro p e R s m args below meth c D dA A ad0 N0 C H locs cells slots ad ls h1 h2 h3 h4 h5 h6 h7 h8
  exact lv_icmp_lt C.1 C.2.1 hd ht (fun q => (kt q p e R s m args below meth c D dA A ad0 N0 C H locs cells slots ad ls h1 h2 h3 h4 h5 h6 h7 h8.tail.tail)) (fun q => (kf q p e R s m args below meth c D dA A ad0 N0 C H locs cells slots ad ls h1 h2 h3 h4 h5 h6 h7 h8.tail.tail))
theorem go_if_ge {x : Int32} {off : Int} (tgt : Nat) (hd : decode cc pc = .ok (.ifCond .ge off, 3)) (ht : (pc : Int) + off = (tgt : Int)) (kt : 0 ≤ x → Go l y cc nL ret hh ext Z d bc bs tgt lv st w) (kf : ¬ (0 ≤ x) → Go l y cc nL ret hh ext Z d bc bs (pc + 3) lv st w) : Go l y cc nL ret hh ext Z d bc bs pc lv (.int x :: st) w := by
  intro p e R s m args below meth c D dA A ad0 N0 C H locs cells slots ad ls h1 h2 h3 h4 h5 h6 h7 h8
  exact lv_if_ge C.1 C.2.1 hd ht (fun q => (kt q p e R s m args below meth c D dA A ad0 N0 C H locs cells slots ad ls h1 h2 h3 h4 h5 h6 h7 h8.tail)) (fun q => (kf q p e R s m args below meth c D dA A ad0 N0 C H locs cells slots ad ls h1 h2 h3 h4 h5 h6 h7 h8.tail))
theorem go_icmp_ge {x z : Int32} {off : Int} (tgt : Nat) (hd : decode cc pc = .ok (.if_icmp .ge off, 3)) (ht : (pc : Int) + off = (tgt : Int)) (kt : z ≤ x → Go l y cc nL ret hh ext Z d bc bs tgt lv st w) (kf : ¬ (z ≤ x) → Go l y cc nL ret hh ext Z d bc bs (pc + 3) lv st w) : Go l y cc nL ret hh ext Z d bc bs pc lv (.int z :: .int x :: st) w := by
  intro p e R s m args below meth c D dA A ad0 N0 C H locs cells slots ad ls h1 h2 h3 h4 h5 h6 h7 h8
  exact lv_icmp_ge C.1 C.2.1 hd ht (fun q => (kt q p e R s m args below meth c D dA A ad0 N0 C H locs cells slots ad ls h1 h2 h3 h4 h5 h6 h7 h8.tail.tail)) (fun q => (kf q p e R s m args below meth c D dA A ad0 N0 C H locs cells slots ad ls h1 h2 h3 h4 h5 h6 h7 h8.tail.tail))
theorem go_if_gt {x : Int32} {off : Int} (tgt : Nat) (hd : decode cc pc = .ok (.ifCond .gt off, 3)) (ht : (pc : Int) + off = (tgt : Int)) (kt : 0 < x → Go l y cc nL ret hh ext Z d bc bs tgt lv st w) (kf : ¬ (0 < x) → Go l y cc nL ret hh ext Z d bc bs (pc + 3) lv st w) : Go l y cc nL ret hh ext Z d bc bs pc lv (.int x :: st) w := by
  intro p e R s m args below meth c D dA A ad0 N0 C H locs cells slots ad ls h1 h2 h3 h4 h5 h6 h7 h8
  exact lv_if_gt C.1 C.2.1 hd ht (fun q => (kt q p e R s m args below meth c D dA A ad0 N0 C H locs cells slots ad ls h1 h2 h3 h4 h5 h6 h7 h8.tail)) (fun q => (kf q p e R s m args below meth c D dA A ad0 N0 C H locs cells slots ad ls h1 h2 h3 h4 h5 h6 h7 h8.tail))
theorem go_icmp_gt {x z : Int32} {off : Int} (tgt : Nat) (hd : decode cc pc = .ok (.if_icmp .gt off, 3)) (ht : (pc : Int) + off = (tgt : Int)) (kt : z < x → Go l y cc nL ret hh ext Z d bc bs tgt lv st w) (kf : ¬ (z < x) → Go l y cc nL ret hh ext Z d bc bs (pc + 3) lv st w) : Go l y cc nL ret hh ext Z d bc bs pc lv (.int z :: .int x :: st) w := by
  intro p e R s m args below meth c D dA A ad0 N0 C H locs cells slots ad ls h1 h2 h3 h4 h5 h6 h7 h8
  exact lv_icmp_gt C.1 C.2.1 hd ht (fun q => (kt q p e R s m args below meth c D dA A ad0 N0 C H locs cells slots ad ls h1 h2 h3 h4 h5 h6 h7 h8.tail.tail)) (fun q => (kf q p e R s m args below meth c D dA A ad0 N0 C H locs cells slots ad ls h1 h2 h3 h4 h5 h6 h7 h8.tail.tail))
theorem go_if_le {x : Int32} {off : Int} (tgt : Nat) (hd : decode cc pc = .ok (.ifCond .le off, 3)) (ht : (pc : Int) + off = (tgt : Int)) (kt : x ≤ 0 → Go l y cc nL ret hh ext Z d bc bs tgt lv st w) (kf : ¬ (x ≤ 0) → Go l y cc nL ret hh ext Z d bc bs (pc + 3) lv st w) : Go l y cc nL ret hh ext Z d bc bs pc lv (.int x :: st) w := by
  intro p e R s m args below meth c D dA A ad0 N0 C H locs cells slots ad ls h1 h2 h3 h4 h5 h6 h7 h8
  exact lv_if_le C.1 C.2.1 hd ht (fun q => (kt q p e R s m args below meth c D dA A ad0 N0 C H locs cells slots ad ls h1 h2 h3 h4 h5 h6 h7 h8.tail)) (fun q => (kf q p e R s m args below meth c D dA A ad0 N0 C H locs cells slots ad ls h1 h2 h3 h4 h5 h6 h7 h8.tail))
theorem go_icmp_le {x z : Int32} {off : Int} (tgt : Nat) (hd : decode cc pc = .ok (.if_icmp .le off, 3)) (ht : (pc : Int) + off = (tgt : Int)) (kt : x ≤ z → Go l y cc nL ret hh ext Z d bc bs tgt lv st w) (kf : ¬ (x ≤ z) → Go l y cc nL ret hh ext Z d bc bs (pc + 3) lv st w) : Go l y cc nL ret hh ext Z d bc bs pc lv (.int z :: .int x :: st) w := by
  intro p e R s m args below meth c D dA A ad0 N0 C H locs cells slots ad ls h1 h2 h3 h4 h5 h6 h7 h8
  exact lv_icmp_le C.1 C.2.1 hd ht (fun q => (kt q p e R s m args below meth c D dA A ad0 N0 C H locs cells slots ad ls h1 h2 h3 h4 h5 h6 h7 h8.tail.tail)) (fun q => (kf q p e R s m args below meth c D dA A ad0 N0 C H locs cells slots ad ls h1 h2 h3 h4 h5 h6 h7 h8.tail.tail))
theorem go_goto {off : Int} (tgt : Nat) (hd : decode cc pc = .ok (.goto off, 3)) (ht : (pc : Int) + off = (tgt : Int)) (h : Go l y cc nL ret hh ext Z d bc bs tgt lv st w) : Go l y cc nL ret hh ext Z d bc bs pc lv st w := by
  intro p e R s m args below meth c D dA A ad0 N0 C H locs cells slots ad ls h1 h2 h3 h4 h5 h6 h7 h8
  exact lv_goto C.1 C.2.1 hd ht (h p e R s m args below meth c D dA A ad0 N0 C H locs cells slots ad ls h1 h2 h3 h4 h5 h6 h7 h8)
theorem go_ifnull {off : Int} {a : Nat} (hd : decode cc pc = .ok (.ifnull off, 3)) (h : Go l y cc nL ret hh ext Z d bc bs (pc + 3) lv st w) : Go l y cc nL ret hh ext Z d bc bs pc lv (.ref a :: st) w := by
  intro p e R s m args below meth c D dA A ad0 N0 C H locs cells slots ad ls h1 h2 h3 h4 h5 h6 h7 h8
  exact lv_ifnull C.1 C.2.1 hd (h p e R s m args below meth c D dA A ad0 N0 C H locs cells slots ad ls h1 h2 h3 h4 h5 h6 h7 h8.tail)
theorem go_tblOut {dflt lo hi : Int} {offs : Array Int} {len : Nat} {x : Int32} (tgt : Nat) (hd : decode cc pc = .ok (.tableswitch dflt lo hi offs, len)) (hx : x.toInt < lo ∨ hi < x.toInt) (ht : (pc : Int) + dflt = (tgt : Int)) (h : Go l y cc nL ret hh ext Z d bc bs tgt lv st w) : Go l y cc nL ret hh ext Z d bc bs pc lv (.int x :: st) w := by
  intro p e R s m args below meth c D dA A ad0 N0 C H locs cells slots ad ls h1 h2 h3 h4 h5 h6 h7 h8
  exact lv_tableOut C.1 C.2.1 hd hx ht (h p e R s m args below meth c D dA A ad0 N0 C H locs cells slots ad ls h1 h2 h3 h4 h5 h6 h7 h8.tail)
theorem go_tblIn {dflt lo hi : Int} {offs : Array Int} {len : Nat} {x : Int32} {off : Int} (tgt : Nat) (hd : decode cc pc = .ok (.tableswitch dflt lo hi offs, len)) (hx1 : ¬ x.toInt < lo) (hx2 : ¬ hi < x.toInt) (ho : offs[(x.toInt - lo).toNat]? = some off) (ht : (pc : Int) + off = (tgt : Int)) (h : Go l y cc nL ret hh ext Z d bc bs tgt lv st w) : Go l y cc nL ret hh ext Z d bc bs pc lv (.int x :: st) w := by
  intro p e R s m args below meth c D dA A ad0 N0 C H locs cells slots ad ls h1 h2 h3 h4 h5 h6 h7 h8
  exact lv_tableIn C.1 C.2.1 hd hx1 hx2 ho ht (h p e R s m args below meth c D dA A ad0 N0 C H locs cells slots ad ls h1 h2 h3 h4 h5 h6 h7 h8.tail)
theorem go_lookup {dflt : Int} {ps : Array (Int × Int)} {len : Nat} {x : Int32} {off : Int} (tgt : Nat) (hd : decode cc pc = .ok (.lookupswitch dflt ps, len)) (hp : (ps.toList.zip (ps.toList.drop 1)).all (fun (a, next) => a.1 < next.1) = true) (ho : Op.lookupswitch.offset ps.toList dflt x.toInt = off) (ht : (pc : Int) + off = (tgt : Int)) (h : Go l y cc nL ret hh ext Z d bc bs tgt lv st w) : Go l y cc nL ret hh ext Z d bc bs pc lv (.int x :: st) w := by
  intro p e R s m args below meth c D dA A ad0 N0 C H locs cells slots ad ls h1 h2 h3 h4 h5 h6 h7 h8
  exact lv_lookup C.1 C.2.1 hd hp ho ht (h p e R s m args below meth c D dA A ad0 N0 C H locs cells slots ad ls h1 h2 h3 h4 h5 h6 h7 h8.tail)
end ROWS
end
section
def mm_ob (w : MW) (a ci : Nat) (fs : List Value) : Prop := a < w.1 ∧ w.2 a = .inr (ci, fs)
def mm_ar (w : MW) (a : Nat) (ty : FieldType) (x : vp_A) : Prop := a < w.1 ∧ w.2 a = .inl (ty, x)
def mm_up (w : MW) (a : Nat) (c : MC) : MW := (w.1, va_up w.2 a c)
/-- own's pool entry idx is the field k of the class number ci -/
def mm_Fld (own : String) (idx ci k : Nat) : Prop := ∃ (C : String) (T : u_T) (N : Nat) (ref : String), mm_cl[ci]? = some (C, T, N) ∧ k < N ∧ (∀ w ∈ u_ws C T N, w ∈ mm_GW) ∧ Cond.fieldLink own idx ref (T k).2.1 (T k).2.2.1 ∈ mm_GW ∧ ((T k).1 = ref ∨ Cond.sameField ref (T k).1 (T k).2.1 (T k).2.2.1 ∈ mm_GW)
def mm_Put (own : String) (idx ci k : Nat) (ty : FieldType) (fin : Bool) : Prop := ∃ (C : String) (T : u_T) (N : Nat) (ref : String) (ty0 : Nat → FieldType), mm_cl[ci]? = some (C, T, N) ∧ k < N ∧ (∀ w ∈ u_ws C T N, w ∈ mm_GW) ∧ Cond.fieldLink own idx ref (T k).2.1 (T k).2.2.1 ∈ mm_GW ∧ ((T k).1 = ref ∨ Cond.sameField ref (T k).1 (T k).2.1 (T k).2.2.1 ∈ mm_GW) ∧
  (∀ k, k < N → parseFieldDescriptor (T k).2.2.1 = some (ty0 k)) ∧ (∀ a, a < N → ∀ b, b < N → a ≠ b → (T a).2.1 ≠ (T b).2.1) ∧ (T k).2.2.2 = fin ∧ parseFieldDescriptor (T k).2.2.1 = some ty ∧ (fin = true → (T k).1 = own)
theorem mm_hsame {args : Array Value} {s : State} (h : mm_Tab s) {T : u_T} {k : Nat} {ref : String} (hs : (T k).1 = ref ∨ Cond.sameField ref (T k).1 (T k).2.1 (T k).2.2.1 ∈ mm_GW) : ∀ x, s.fieldFound? (T k).1 (T k).2.1 (T k).2.2.1 = some x → s.fieldFound? ref (T k).2.1 (T k).2.2.1 = some x := by
  intro x hx
  rcases hs with e | e
  · rw [← e]; exact hx
  · exact u_same (h.hts (args := args) _ e) x hx
theorem mm_okf_v {N : Nat} {v : Value} (h : mm_okf N v) : mm_okv N v := fun k hk => Or.inl (h k hk)
theorem mm_ob_at {ad : Nat → Nat} {dA : FieldType → ClassId} {w : MW} {a ci : Nat} {fs : List Value} (h : mm_ob w a ci fs) : (mm_ws ad dA w)[a]? = some (ad a, .inr (ci, fs.map (mm_rv ad))) := by
  rw [mm_ws_get h.1, h.2]; rfl
theorem mm_ob_ok {w : MW} (hw : ∀ k, k < w.1 → mm_okc w.1 (w.2 k)) {a ci : Nat} {fs : List Value} (h : mm_ob w a ci fs) : ∀ v ∈ fs, mm_okf w.1 v := by
  have := hw a h.1
  rw [h.2] at this
  exact this
/-- a world with a new cell at an old place -/
theorem mm_H_up {D : va_G} {dA : FieldType → ClassId} {ad : Nat → Nat} {w : MW} {H H1 : Heap} {a : Nat} {c : MC} (h : mm_H D dA ad w H) (ha : a < w.1) (hc : mm_okc w.1 c) (hP : va_P D mm_cl ((mm_ws ad dA w).set a (ad a, mm_cv ad dA c)) H1) : mm_H D dA ad (mm_up w a c) H1 := by
  refine ⟨by rw [mm_ws_set ha] at hP; exact hP, fun k hk => ?_, h.2.2⟩
  show mm_okc w.1 (va_up w.2 a c k)
  by_cases e : k = a
  · simp only [va_up, e, if_true]; exact hc
  · simp only [va_up, if_neg e]; exact h.2.1 k hk
theorem mm_D_up {A : Nat → Prop} {dA : FieldType → ClassId} {ad : Nat → Nat} {w : MW} {a : Nat} {c : MC} (ha : a < w.1) (hD : va_D A ((mm_ws ad dA w).set a (ad a, mm_cv ad dA c))) : va_D A (mm_ws ad dA (mm_up w a c)) := by
  rw [mm_ws_set ha] at hD; exact hD
section HEAP
variable {l : Launch} {y : MethodName} {cc : ByteArray} {nL : Nat} {ret : Option FieldType} {hh : List (Nat × Nat × Nat × Nat)} {ext : Option (Nat × (Nat → Int32))} {Z : MZ} {d bc bs : Nat} {pc : Nat} {lv : List (Nat × Value)} {st : List Value} {w : MW}
theorem go_getfield {idx ci k a : Nat} {fs : List Value} {v : Value} (hd : decode cc pc = .ok (.getfield idx, 3)) (hf : mm_Fld y.cls idx ci k) (ho : mm_ob w a ci fs) (hv : fs[k]? = some v) (h : Go l y cc nL ret hh ext Z d bc bs (pc + 3) lv (v :: st) w) : Go l y cc nL ret hh ext Z d bc bs pc lv (.ref a :: st) w := by
  intro p e R s m args below meth c D dA A ad0 N0 C H locs cells slots ad ls h1 h2 h3 h4 h5 h6 h7 h8
  obtain ⟨CC, T, N, ref, f1, f2, f3, f4, f5⟩ := hf
  have hS := C.2.2.2.2.2.2.2.2.2.2.2.1
  exact va_get C.1 C.2.1 (hS.1.hts (args := args)) f3 C.2.2.2.2.1 hS.2.1 h3.1 a (mm_ob_at ho) f1 k f2 (hS.1.hts _ f4) (mm_hsame (args := args) hS.1 f5) (v := mm_rv ad v) (by rw [List.getElem?_map, hv]; rfl) hd
    (h p e R s m args below meth c D dA A ad0 N0 C H locs cells slots ad ls h1 h2 h3 h4 h5 h6 h7 (mm_O.cons (mm_okf_v (mm_ob_ok h3.2.1 ho v (List.mem_of_getElem? hv))) h8.tail))
theorem mm_okc_set {N ci k : Nat} {fs : List Value} {v : Value} (h : ∀ u ∈ fs, mm_okf N u) (hv : mm_okf N v) : mm_okc N (.inr (ci, fs.set k v)) := by
  intro u hu
  rcases List.mem_or_eq_of_mem_set hu with q | q
  · exact h u q
  · rw [q]; exact hv
theorem go_putfield {idx ci k a : Nat} {fs : List Value} {v : Value} {ty : FieldType} (hd : decode cc pc = .ok (.putfield idx, 3)) (hf : mm_Put y.cls idx ci k ty false) (ho : mm_ob w a ci fs) (hl : k < fs.length) (hv : ∀ ad, narrow ty (mm_rv ad v) = mm_rv ad v ∧ fits ty (mm_rv ad v) = true) (hok : mm_okf w.1 v) (h : Go l y cc nL ret hh ext Z d bc bs (pc + 3) lv st (mm_up w a (.inr (ci, fs.set k v)))) : Go l y cc nL ret hh ext Z d bc bs pc lv (v :: .ref a :: st) w := by
  intro p e R s m args below meth c D dA A ad0 N0 C H locs cells slots ad ls h1 h2 h3 h4 h5 h6 h7 h8
  obtain ⟨CC, T, N, ref, ty0, f1, f2, f3, f4, f5, f6, f7, f8, f9, -⟩ := hf
  have hS := C.2.2.2.2.2.2.2.2.2.2.2.1
  refine va_put C.1 C.2.1 (hS.1.hts (args := args)) f3 ty0 f6 f7 C.2.2.2.2.1 hS.2.1 h3.1 h4 h5 a (mm_ob_at ho) f1 k f2 (hS.1.hts _ f4) (mm_hsame (args := args) hS.1 f5) f8 f9 (hv ad).1 (hv ad).2 (by rw [List.length_map]; exact hl) hd (fun H1 locs1 g1 g2 g3 => ?_)
  have e9 : (ad a, (Sum.inr (ci, (fs.map (mm_rv ad)).set k (mm_rv ad v)) : va_E)) = (ad a, mm_cv ad dA (.inr (ci, fs.set k v))) := by
    show _ = (ad a, Sum.inr (ci, (fs.set k v).map (mm_rv ad)))
    rw [List.map_set]
  rw [e9] at g1 g2
  exact h p e R s m args below meth c D dA A ad0 N0 C H1 locs1 cells slots ad ls h1 h2 (mm_H_up h3 ho.1 (mm_okc_set (mm_ob_ok h3.2.1 ho) hok) g1) (mm_D_up ho.1 g2) g3 h6 h7 h8.tail.tail
theorem go_putfinal {idx ci k a : Nat} {fs : List Value} {v : Value} {ty : FieldType} (hd : decode cc pc = .ok (.putfield idx, 3)) (hf : mm_Put y.cls idx ci k ty true) (hi : y.name = "<init>") (ho : mm_ob w a ci fs) (hl : k < fs.length) (hv : ∀ ad, narrow ty (mm_rv ad v) = mm_rv ad v ∧ fits ty (mm_rv ad v) = true) (hok : mm_okf w.1 v) (h : Go l y cc nL ret hh ext Z d bc bs (pc + 3) lv st (mm_up w a (.inr (ci, fs.set k v)))) : Go l y cc nL ret hh ext Z d bc bs pc lv (v :: .ref a :: st) w := by
  intro p e R s m args below meth c D dA A ad0 N0 C H locs cells slots ad ls h1 h2 h3 h4 h5 h6 h7 h8
  obtain ⟨CC, T, N, ref, ty0, f1, f2, f3, f4, f5, f6, f7, f8, f9, f10⟩ := hf
  have hS := C.2.2.2.2.2.2.2.2.2.2.2.1
  refine va_putF C.1 C.2.1 (hS.1.hts (args := args)) f3 ty0 f6 f7 C.2.2.2.2.1 hS.2.1 h3.1 h4 h5 a (mm_ob_at ho) f1 k f2 (hS.1.hts _ f4) (mm_hsame (args := args) hS.1 f5) f8 (C.2.2.2.2.2.1.trans hi) (f10 rfl) f9 (hv ad).1 (hv ad).2 (by rw [List.length_map]; exact hl) hd (fun H1 locs1 g1 g2 g3 => ?_)
  have e9 : (ad a, (Sum.inr (ci, (fs.map (mm_rv ad)).set k (mm_rv ad v)) : va_E)) = (ad a, mm_cv ad dA (.inr (ci, fs.set k v))) := by
    show _ = (ad a, Sum.inr (ci, (fs.set k v).map (mm_rv ad)))
    rw [List.map_set]
  rw [e9] at g1 g2
  exact h p e R s m args below meth c D dA A ad0 N0 C H1 locs1 cells slots ad ls h1 h2 (mm_H_up h3 ho.1 (mm_okc_set (mm_ob_ok h3.2.1 ho) hok) g1) (mm_D_up ho.1 g2) g3 h6 h7 h8.tail.tail
theorem mm_ar_at {ad : Nat → Nat} {dA : FieldType → ClassId} {w : MW} {a n : Nat} {ty : FieldType} {f : Nat → Int32} (h : mm_ar w a ty (n, .inl f)) : (mm_ws ad dA w)[a]? = some (ad a, .inl (dA ty, n, .inl f)) := by
  rw [mm_ws_get h.1, h.2]; rfl
theorem mm_arL_at {ad : Nat → Nat} {dA : FieldType → ClassId} {w : MW} {a n : Nat} {ty : FieldType} {f : Nat → Int64} (h : mm_ar w a ty (n, .inr (.inl f))) : (mm_ws ad dA w)[a]? = some (ad a, .inl (dA ty, n, .inr (.inl f))) := by
  rw [mm_ws_get h.1, h.2]; rfl
theorem mm_arQ_at {ad : Nat → Nat} {dA : FieldType → ClassId} {w : MW} {a n : Nat} {ty : FieldType} {f : Nat → Option Nat} (h : mm_ar w a ty (n, .inr (.inr (.inr (.inr f))))) : (mm_ws ad dA w)[a]? = some (ad a, .inl (dA ty, n, .inr (.inr (.inr (.inr (fun j => (f j).map ad)))))) := by
  rw [mm_ws_get h.1, h.2]; rfl
theorem go_iaload {a n : Nat} {f : Nat → Int32} {i : Int32} (j : Nat) (hd : decode cc pc = .ok (.iaload, 1)) (ho : mm_ar w a .int (n, .inl f)) (hi : i = nI j) (hj : j < n) (hn : n < 2 ^ 31) (h : Go l y cc nL ret hh ext Z d bc bs (pc + 1) lv (.int (f j) :: st) w) : Go l y cc nL ret hh ext Z d bc bs pc lv (.int i :: .ref a :: st) w := by
  intro p e R s m args below meth c D dA A ad0 N0 C H locs cells slots ad ls h1 h2 h3 h4 h5 h6 h7 h8
  have hS := C.2.2.2.2.2.2.2.2.2.2.2.1
  have e9 : i.toNatClampNeg = j := by rw [hi]; exact nI_clamp (by omega)
  have g := h p e R s m args below meth c D dA A ad0 N0 C H locs cells slots ad ls h1 h2 h3 h4 h5 h6 h7 (mm_O.cons mm_okv_int h8.tail.tail)
  rw [← e9] at g
  exact va_iald C.1 C.2.1 hS.2.1 h3.1 a 0 (mm_ar_at ho) rfl (by rw [hi]; exact vp_in_nI hj hn) hd g
theorem go_caload {a n : Nat} {f : Nat → Int32} {i : Int32} (j : Nat) (hd : decode cc pc = .ok (.caload, 1)) (ho : mm_ar w a .char (n, .inl f)) (hi : i = nI j) (hj : j < n) (hn : n < 2 ^ 31) (h : Go l y cc nL ret hh ext Z d bc bs (pc + 1) lv (.int (f j) :: st) w) : Go l y cc nL ret hh ext Z d bc bs pc lv (.int i :: .ref a :: st) w := by
  intro p e R s m args below meth c D dA A ad0 N0 C H locs cells slots ad ls h1 h2 h3 h4 h5 h6 h7 h8
  have hS := C.2.2.2.2.2.2.2.2.2.2.2.1
  have e9 : i.toNatClampNeg = j := by rw [hi]; exact nI_clamp (by omega)
  have g := h p e R s m args below meth c D dA A ad0 N0 C H locs cells slots ad ls h1 h2 h3 h4 h5 h6 h7 (mm_O.cons mm_okv_int h8.tail.tail)
  rw [← e9] at g
  exact va_cald C.1 C.2.1 hS.2.1 h3.1 a 2 (mm_ar_at ho) rfl (by rw [hi]; exact vp_in_nI hj hn) hd g
theorem go_laload {a n : Nat} {f : Nat → Int64} {i : Int32} (j : Nat) (hd : decode cc pc = .ok (.laload, 1)) (ho : mm_ar w a .long (n, .inr (.inl f))) (hi : i = nI j) (hj : j < n) (hn : n < 2 ^ 31) (h : Go l y cc nL ret hh ext Z d bc bs (pc + 1) lv (.long (f j) :: st) w) : Go l y cc nL ret hh ext Z d bc bs pc lv (.int i :: .ref a :: st) w := by
  intro p e R s m args below meth c D dA A ad0 N0 C H locs cells slots ad ls h1 h2 h3 h4 h5 h6 h7 h8
  have hS := C.2.2.2.2.2.2.2.2.2.2.2.1
  have e9 : i.toNatClampNeg = j := by rw [hi]; exact nI_clamp (by omega)
  have g := h p e R s m args below meth c D dA A ad0 N0 C H locs cells slots ad ls h1 h2 h3 h4 h5 h6 h7 (mm_O.cons mm_okv_long h8.tail.tail)
  rw [← e9] at g
  exact va_lald C.1 C.2.1 hS.2.1 h3.1 a 1 (mm_arL_at ho) rfl (by rw [hi]; exact vp_in_nI hj hn) hd g
theorem mm_rv_rf {ad : Nat → Nat} {r : Option Nat} : mm_rv ad (va_rf r) = va_rf (r.map ad) := by cases r <;> rfl
theorem go_aaload {a n : Nat} {f : Nat → Option Nat} {i : Int32} (j : Nat) (hd : decode cc pc = .ok (.aaload, 1)) (ho : mm_ar w a (.object RX5) (n, .inr (.inr (.inr (.inr f))))) (hi : i = nI j) (hj : j < n) (hn : n < 2 ^ 31) (h : Go l y cc nL ret hh ext Z d bc bs (pc + 1) lv (va_rf (f j) :: st) w) : Go l y cc nL ret hh ext Z d bc bs pc lv (.int i :: .ref a :: st) w := by
  intro p e R s m args below meth c D dA A ad0 N0 C H locs cells slots ad ls h1 h2 h3 h4 h5 h6 h7 h8
  have hS := C.2.2.2.2.2.2.2.2.2.2.2.1
  have e9 : i.toNatClampNeg = j := by rw [hi]; exact nI_clamp (by omega)
  have hok : mm_okv w.1 (va_rf (f j)) := by
    have hc := h3.2.1 a ho.1
    rw [ho.2] at hc
    intro k hk
    cases hfj : f j with
    | none => rw [hfj] at hk; cases hk
    | some x => rw [hfj] at hk; cases hk; exact Or.inl (hc j k hfj)
  have g := h p e R s m args below meth c D dA A ad0 N0 C H locs cells slots ad ls h1 h2 h3 h4 h5 h6 h7 (mm_O.cons hok h8.tail.tail)
  rw [List.map_cons, mm_rv_rf] at g
  refine va_aldq (C := RX5) C.1 C.2.1 hS.2.1 h3.1 a 3 (mm_arQ_at ho) rfl (by rw [hi]; exact vp_in_nI hj hn) hd ?_
  rw [e9]
  exact g
theorem go_iastore {a n : Nat} {f : Nat → Int32} {i x : Int32} (j : Nat) (hd : decode cc pc = .ok (.iastore, 1)) (ho : mm_ar w a .int (n, .inl f)) (hi : i = nI j) (hj : j < n) (hn : n < 2 ^ 31) (h : Go l y cc nL ret hh ext Z d bc bs (pc + 1) lv st (mm_up w a (.inl (.int, n, .inl (upd f j x))))) : Go l y cc nL ret hh ext Z d bc bs pc lv (.int x :: .int i :: .ref a :: st) w := by
  intro p e R s m args below meth c D dA A ad0 N0 C H locs cells slots ad ls h1 h2 h3 h4 h5 h6 h7 h8
  have hS := C.2.2.2.2.2.2.2.2.2.2.2.1
  have e9 : i.toNatClampNeg = j := by rw [hi]; exact nI_clamp (by omega)
  refine va_iast C.1 C.2.1 hS.2.1 h3.1 h4 h5 a 0 (mm_ar_at ho) rfl (by rw [hi]; exact vp_in_nI hj hn) hd (fun H1 locs1 g1 g2 g3 => ?_)
  rw [e9] at g1 g2
  exact h p e R s m args below meth c D dA A ad0 N0 C H1 locs1 cells slots ad ls h1 h2 (mm_H_up (c := .inl (.int, n, .inl (upd f j x))) h3 ho.1 trivial g1) (mm_D_up (c := .inl (.int, n, .inl (upd f j x))) ho.1 g2) g3 h6 h7 h8.tail.tail.tail
theorem go_castore {a n : Nat} {f : Nat → Int32} {i x : Int32} (j : Nat) (hd : decode cc pc = .ok (.castore, 1)) (ho : mm_ar w a .char (n, .inl f)) (hi : i = nI j) (hj : j < n) (hn : n < 2 ^ 31) (h : Go l y cc nL ret hh ext Z d bc bs (pc + 1) lv st (mm_up w a (.inl (.char, n, .inl (upd f j (vp_nar .char x)))))) : Go l y cc nL ret hh ext Z d bc bs pc lv (.int x :: .int i :: .ref a :: st) w := by
  intro p e R s m args below meth c D dA A ad0 N0 C H locs cells slots ad ls h1 h2 h3 h4 h5 h6 h7 h8
  have hS := C.2.2.2.2.2.2.2.2.2.2.2.1
  have e9 : i.toNatClampNeg = j := by rw [hi]; exact nI_clamp (by omega)
  refine va_cast C.1 C.2.1 hS.2.1 h3.1 h4 h5 a 2 (mm_ar_at ho) rfl (by rw [hi]; exact vp_in_nI hj hn) hd (fun H1 locs1 g1 g2 g3 => ?_)
  rw [e9] at g1 g2
  exact h p e R s m args below meth c D dA A ad0 N0 C H1 locs1 cells slots ad ls h1 h2 (mm_H_up (c := .inl (.char, n, .inl (upd f j (vp_nar .char x)))) h3 ho.1 trivial g1) (mm_D_up (c := .inl (.char, n, .inl (upd f j (vp_nar .char x)))) ho.1 g2) g3 h6 h7 h8.tail.tail.tail
theorem go_lastore {a n : Nat} {f : Nat → Int64} {i : Int32} {x : Int64} (j : Nat) (hd : decode cc pc = .ok (.lastore, 1)) (ho : mm_ar w a .long (n, .inr (.inl f))) (hi : i = nI j) (hj : j < n) (hn : n < 2 ^ 31) (h : Go l y cc nL ret hh ext Z d bc bs (pc + 1) lv st (mm_up w a (.inl (.long, n, .inr (.inl (vp_updL f j x)))))) : Go l y cc nL ret hh ext Z d bc bs pc lv (.long x :: .int i :: .ref a :: st) w := by
  intro p e R s m args below meth c D dA A ad0 N0 C H locs cells slots ad ls h1 h2 h3 h4 h5 h6 h7 h8
  have hS := C.2.2.2.2.2.2.2.2.2.2.2.1
  have e9 : i.toNatClampNeg = j := by rw [hi]; exact nI_clamp (by omega)
  refine va_last C.1 C.2.1 hS.2.1 h3.1 h4 h5 a 1 (mm_arL_at ho) rfl (by rw [hi]; exact vp_in_nI hj hn) hd (fun H1 locs1 g1 g2 g3 => ?_)
  rw [e9] at g1 g2
  exact h p e R s m args below meth c D dA A ad0 N0 C H1 locs1 cells slots ad ls h1 h2 (mm_H_up (c := .inl (.long, n, .inr (.inl (vp_updL f j x)))) h3 ho.1 trivial g1) (mm_D_up (c := .inl (.long, n, .inr (.inl (vp_updL f j x)))) ho.1 g2) g3 h6 h7 h8.tail.tail.tail
theorem go_aastore {a n b : Nat} {vs : List Value} {f : Nat → Option Nat} {i : Int32} (j : Nat) (hd : decode cc pc = .ok (.aastore, 1)) (ho : mm_ar w a (.object RX5) (n, .inr (.inr (.inr (.inr f))))) (hb : mm_ob w b 4 vs) (hi : i = nI j) (hj : j < n) (hn : n < 2 ^ 31) (h : Go l y cc nL ret hh ext Z d bc bs (pc + 1) lv st (mm_up w a (.inl (.object RX5, n, .inr (.inr (.inr (.inr (va_up f j (some b))))))))) : Go l y cc nL ret hh ext Z d bc bs pc lv (.ref b :: .int i :: .ref a :: st) w := by
  intro p e R s m args below meth c D dA A ad0 N0 C H locs cells slots ad ls h1 h2 h3 h4 h5 h6 h7 h8
  have hS := C.2.2.2.2.2.2.2.2.2.2.2.1
  have e9 : i.toNatClampNeg = j := by rw [hi]; exact nI_clamp (by omega)
  refine va_astq (r := (RX5, TX5, 4)) (ci := 4) C.1 C.2.1 hS.2.1 h3.1 h4 h5 a 3 b (mm_arQ_at ho) rfl (mm_ob_at hb) rfl (by rw [hi]; exact vp_in_nI hj hn) hd (fun H1 locs1 g1 g2 g3 => ?_)
  rw [e9] at g1 g2
  have e8 : va_up (fun j => (f j).map ad) j (some (ad b)) = fun q => (va_up f j (some b) q).map ad := by
    funext q
    by_cases e : q = j
    · simp [va_up, e]
    · simp [va_up, e]
  rw [e8] at g1 g2
  refine h p e R s m args below meth c D dA A ad0 N0 C H1 locs1 cells slots ad ls h1 h2 (mm_H_up (c := .inl (.object RX5, n, .inr (.inr (.inr (.inr (va_up f j (some b))))))) h3 ho.1 ?_ g1) (mm_D_up (c := .inl (.object RX5, n, .inr (.inr (.inr (.inr (va_up f j (some b))))))) ho.1 g2) g3 h6 h7 h8.tail.tail.tail
  intro q k hk
  by_cases e : q = j
  · simp only [va_up, e, if_true] at hk
    cases hk
    exact hb.1
  · simp only [va_up, if_neg e] at hk
    have hc := h3.2.1 a ho.1
    rw [ho.2] at hc
    exact hc q k hk
theorem go_alen {a n : Nat} {f : Nat → Int32} {ty : FieldType} (t0 : Nat) (ht : ∀ dA, (mm_tys dA)[t0]? = some (dA ty, ty)) (hd : decode cc pc = .ok (.arraylength, 1)) (ho : mm_ar w a ty (n, .inl f)) (h : Go l y cc nL ret hh ext Z d bc bs (pc + 1) lv (.int (nI n) :: st) w) : Go l y cc nL ret hh ext Z d bc bs pc lv (.ref a :: st) w := by
  intro p e R s m args below meth c D dA A ad0 N0 C H locs cells slots ad ls h1 h2 h3 h4 h5 h6 h7 h8
  have hS := C.2.2.2.2.2.2.2.2.2.2.2.1
  exact va_alen C.1 C.2.1 hS.2.1 h3.1 a t0 (mm_ar_at ho) (ht dA) rfl hd (h p e R s m args below meth c D dA A ad0 N0 C H locs cells slots ad ls h1 h2 h3 h4 h5 h6 h7 (mm_O.cons mm_okv_int h8.tail))
/-- the law's script -/
theorem go_xlen {L : Nat} {xs : Nat → Int32} (hx : ext = some (L, xs)) (hd : decode cc pc = .ok (.arraylength, 1)) (h : Go l y cc nL ret hh ext Z d bc bs (pc + 1) lv (.int (nI L) :: st) w) : Go l y cc nL ret hh ext Z d bc bs pc lv (.ref mm_XT :: st) w := by
  intro p e R s m args below meth c D dA A ad0 N0 C H locs cells slots ad ls h1 h2 h3 h4 h5 h6 h7 h8
  obtain ⟨x1, x2, x3⟩ := C.2.2.2.2.2.2.2.2.2.2.2.2.2 L xs hx
  have e9 : ad mm_XT = ad0 mm_XT := h6.2 _ (Or.inr rfl)
  show W p l e R s m args below meth c H locs cells slots _ (F0 m pc ls (.ref (ad mm_XT) :: st.map (mm_rv ad)))
  rw [e9]
  exact va_slen C.1 C.2.1 x1 x2 x3 h5 hd (h p e R s m args below meth c D dA A ad0 N0 C H locs cells slots ad ls h1 h2 h3 h4 h5 h6 h7 (mm_O.cons mm_okv_int h8.tail))
theorem go_xload {L : Nat} {xs : Nat → Int32} {i : Int32} (j : Nat) (hx : ext = some (L, xs)) (hd : decode cc pc = .ok (.iaload, 1)) (hi : i = nI j) (hj : j < L) (hn : L < 2 ^ 31) (h : Go l y cc nL ret hh ext Z d bc bs (pc + 1) lv (.int (xs j) :: st) w) : Go l y cc nL ret hh ext Z d bc bs pc lv (.int i :: .ref mm_XT :: st) w := by
  intro p e R s m args below meth c D dA A ad0 N0 C H locs cells slots ad ls h1 h2 h3 h4 h5 h6 h7 h8
  obtain ⟨x1, x2, x3⟩ := C.2.2.2.2.2.2.2.2.2.2.2.2.2 L xs hx
  have e9 : ad mm_XT = ad0 mm_XT := h6.2 _ (Or.inr rfl)
  have e8 : i.toNatClampNeg = j := by rw [hi]; exact nI_clamp (by omega)
  show W p l e R s m args below meth c H locs cells slots _ (F0 m pc ls (.int i :: .ref (ad mm_XT) :: st.map (mm_rv ad)))
  rw [e9]
  have g := h p e R s m args below meth c D dA A ad0 N0 C H locs cells slots ad ls h1 h2 h3 h4 h5 h6 h7 (mm_O.cons mm_okv_int h8.tail.tail)
  rw [← e8] at g
  exact va_sld C.1 C.2.1 x1 x2 x3 h5 (by rw [hi]; exact vp_in_nI hj hn) hd g
end HEAP
end
section
theorem mm_A1 {A : Nat → Prop} {dA : FieldType → ClassId} {ad : Nat → Nat} {w : MW} {H0 H : Heap} {locs : List Loc} (hD : va_D A (mm_ws ad dA w)) (hS : va_S A H0 H locs) (hA : ∀ q, H0.size ≤ q → A q) : ∀ q, va_A (mm_ws ad dA w) H.size q → A q := by
  intro q h
  rcases h with ⟨k, e, h⟩ | h
  · exact hD.2 k _ h
  · exact hA q (Nat.le_trans hS.1 h)
section CALLS
variable {l : Launch} {y : MethodName} {cc : ByteArray} {nL : Nat} {ret : Option FieldType} {hh : List (Nat × Nat × Nat × Nat)} {ext : Option (Nat × (Nat → Int32))} {Z : MZ} {d bc bs : Nat} {pc : Nat} {lv : List (Nat × Value)} {st rest : List Value} {w w' : MW} {o : MO} {mc ms : Nat}
theorem mm_after (hret : ∀ v, o = .inl v → Go l y cc nL ret hh ext Z d bc bs (pc + 3) lv (v.toList ++ rest) w') (hthr : ∀ E, o = .inr E → GoX l y cc nL ret hh ext Z d bc bs pc lv E w')
    {p : Program} {e : Env} {R : Room} {s : State} {m : MethodId} {args : Array Value} {below : List Frame} {meth : Method} {c : Code} {D : va_G} {dA : FieldType → ClassId} {A : Nat → Prop} {ad0 : Nat → Nat} {N0 : Nat} (C : mm_C l y cc nL ret hh ext d p R s m meth c D dA A ad0) {H : Heap} {locs : List Loc} {cells slots : Nat} {ad : Nat → Nat} {ls : Array Slot} (h1 : cells + (mc + bc) ≤ R.cells) (h2 : slots + (ms + bs) ≤ R.slots)
    (h4 : va_D A (mm_ws ad dA w)) (h5 : va_S A s.heap H locs) (h6 : mm_ag ad0 ad N0 w.1) (h7 : mm_L ad w.1 nL lv ls) (h8 : mm_O w.1 rest) {a : Array Value} {st0 : List Value}
    (hr : vx_Run p l e R s m args below meth c H locs cells slots mc ms (F0 m pc ls st0) (rest.map (mm_rv ad)) (mm_Qc (mm_eq o w') D dA (va_A (mm_ws ad dA w) H.size) ad w.1 a) (mm_XC (mm_eq o w') D dA (va_A (mm_ws ad dA w) H.size) ad w.1) (va_A (mm_ws ad dA w) H.size)) :
    W p l e R s m args below meth c H locs cells slots (Z R D dA A ad0 N0 below args s) (F0 m pc ls st0) := by
  have hf : ∀ q, va_A (mm_ws ad dA w) H.size q → A q := mm_A1 h4 h5 C.2.2.2.2.2.2.2.2.2.2.2.2.1
  intro T hT X
  rcases hr T hT X with ⟨v, st₀, t, T', L, g0, X', hL, e1, e2, ⟨v1, w1, ad1, ev, ⟨eo, ew⟩, hok, hH, hD, hag, hF⟩, stp⟩ | ⟨q, st₀, t, T', L, E, ce, g0, X', hL, e1, e2, ⟨w1, ad1, ⟨eo, ew⟩, hH, hD, hag, hF⟩, hce, hcv, hcl, stp⟩
  · subst ew
    cases ev
    obtain ⟨k1, k2, k3⟩ := vx_keep g0 e1 h5 (fun q _ h => hf q h) hf hL hF
    have hst : (v1.map (mm_rv ad1)).toList ++ rest.map (mm_rv ad) = (v1.toList ++ rest).map (mm_rv ad1) := by
      rw [List.map_append, h8.agree hag.2]
      cases v1 <;> rfl
    have hO : mm_O w1.1 (v1.toList ++ rest) := by
      cases v1 with
      | none => exact h8.mono hag.1
      | some x => exact mm_O.cons (hok x rfl) (h8.mono hag.1)
    have K := hret v1 eo.symm p e R s m args below meth c D dA A ad0 N0 C T'.heap (locs ++ L) (cells + mc) (slots + ms) ad1 ls (by omega) (by omega) (by rw [e1]; exact hH) (hD.weaken (fun _ q _ h => hf q.1 h)) k3 ⟨Nat.le_trans h6.1 hag.1, fun k hk => (hag.2 k (hk.imp (fun z => Nat.lt_of_lt_of_le z h6.1) id)).trans (h6.2 k hk)⟩ (h7.agree hag.1 hag.2) hO
    obtain ⟨t2, a1, b1⟩ := K T' rfl X'
    have stp2 := stp t2
    rw [show (F0 m pc ls st0).pc + 3 = pc + 3 from rfl, hst] at stp2
    exact ⟨t2, stp2 a1, b1⟩
  · subst ew
    obtain ⟨k1, k2, k3⟩ := vx_keep g0 e1 h5 (fun q _ h => hf q h) hf hL hF
    have K := hthr E eo.symm p e R s m args below meth c D dA A ad0 N0 C T'.heap (locs ++ L) (cells + mc) (slots + ms) ad1 ls (by omega) (by omega) (by rw [e1]; exact hH) (hD.weaken (fun _ q _ h => hf q.1 h)) k3 ⟨Nat.le_trans h6.1 hag.1, fun k hk => (hag.2 k (hk.imp (fun z => Nat.lt_of_lt_of_le z h6.1) id)).trans (h6.2 k hk)⟩ (h7.agree hag.1 hag.2) q ce (rest.map (mm_rv ad)) (by rw [e1]; exact hce) hcv hcl
    obtain ⟨t2, a1, b1⟩ := K T' rfl X'
    exact ⟨t2, stp.trans a1, b1⟩
/-- what the callee is given -/
theorem mm_pre {p : Program} {R : Room} {s : State} {m : MethodId} {meth : Method} {c : Code} {D : va_G} {dA : FieldType → ClassId} {A : Nat → Prop} {ad0 : Nat → Nat} (C : mm_C l y cc nL ret hh ext d p R s m meth c D dA A ad0) {H : Heap} {locs : List Loc} {ad : Nat → Nat} {as : List Value}
    (h3 : mm_H D dA ad w H) (h4 : va_D A (mm_ws ad dA w)) (h5 : va_S A s.heap H locs) (h8 : mm_O w.1 as) : ∀ U : State, U.heap = H → s.WarmedH U.vm → mm_Pc D dA ad H.size as w (as.map (mm_rv ad)).toArray U := by
  intro U hU hW
  have hf : ∀ q, va_A (mm_ws ad dA w) H.size q → A q := mm_A1 h4 h5 C.2.2.2.2.2.2.2.2.2.2.2.2.1
  refine ⟨rfl, by rw [hU], by rw [hU]; exact h3, ?_, h4.weaken (fun _ _ _ _ => trivial), h8⟩
  rw [hU]
  exact ((C.2.2.2.2.2.2.2.2.2.2.2.1.kept h5.2.1).narrow hf).warm hW
/-- the words of a call through the class number ci: by its own name, or inherited, or overridden -/
def mm_V (own : String) (idx ci : Nat) (y1 : MethodName) (c1 : ByteArray) (n1 : Nat) (r1 : Option FieldType) (n : Nat) : Prop := ∃ (CC : String) (T : u_T) (N : Nat), mm_cl[ci]? = some (CC, T, N) ∧ Cond.code y1 c1 n1 r1 ∈ mm_GW ∧ Cond.initialized y1.cls ∈ mm_GW ∧ Cond.instanceMethod y1 ∈ mm_GW ∧
  ((Cond.methodLink own idx y1 ∈ mm_GW ∧ Cond.selects CC y1 y1 ∈ mm_GW ∧ (y1.cls ≠ "java/lang/invoke/MethodHandle" ∧ y1.cls ≠ "java/lang/invoke/VarHandle") ∧ (parseMethodDescriptor y1.desc).map (fun d => d.parameters.length) = some n) ∨
   ∃ (owner : String) (x : MethodName), Cond.methodLink own idx x ∈ mm_GW ∧ Cond.sameMethod x.cls owner x.name x.desc ∈ mm_GW ∧ Cond.selects CC x y1 ∈ mm_GW ∧ (owner ≠ "java/lang/invoke/MethodHandle" ∧ owner ≠ "java/lang/invoke/VarHandle") ∧ (parseMethodDescriptor x.desc).map (fun d => d.parameters.length) = some n ∧ (y1 = ⟨owner, x.name, x.desc⟩ ∨ Cond.declares ⟨owner, x.name, x.desc⟩ ∈ lw_tbl))
theorem mm_len {desc : String} {n : Nat} (h : (parseMethodDescriptor desc).map (fun d => d.parameters.length) = some n) : ∀ sig, parseMethodDescriptor desc = some sig → n = sig.parameters.length := by
  intro sig h2
  rw [h2] at h
  exact (Option.some.inj h).symm
theorem mm_code {s : State} (h : mm_Tab s) {w : Cond} (hw : w ∈ mm_GW) : ∀ x ∈ [w], ∀ (a' : Array Value) (U : State), s.WarmedH U.vm → x.before a' U = true := by
  intro x hx a' U hW
  rw [List.mem_singleton.mp hx]
  exact word_at hW (mm_good hw) (h.1 w hw)
/-- invokevirtual; As: the arguments in the order of the descriptor -/
theorem go_virt {y1 : MethodName} {c1 : ByteArray} {n1 : Nat} {r1 : Option FieldType} {d1 n idx ci a : Nat} {fs As : List Value} (hd : decode cc pc = .ok (.invokevirtual idx, 3)) (hM : Ct l (.code y1 c1 n1 r1) y1 d1 mc ms (.ref a :: As) w o w') (hV : mm_V y.cls idx ci y1 c1 n1 r1 n) (hn : As.length = n) (ho : mm_ob w a ci fs) (hst : st = As.reverse ++ .ref a :: rest)
    (hcat : (rest.map fun v => v.category).sum ≤ 8) (hdp : d1 + 1 ≤ d) (hmx : n1 ≤ 21) (hret : ∀ v, o = .inl v → Go l y cc nL ret hh ext Z d bc bs (pc + 3) lv (v.toList ++ rest) w') (hthr : ∀ E, o = .inr E → GoX l y cc nL ret hh ext Z d bc bs pc lv E w') : Go l y cc nL ret hh ext Z d (mc + bc) (ms + bs) pc lv st w := by
  intro p e R s m args below meth c D dA A ad0 N0 C H locs cells slots ad ls h1 h2 h3 h4 h5 h6 h7 h8
  subst hst
  have hS := C.2.2.2.2.2.2.2.2.2.2.2.1
  have hO2 : mm_O w.1 (Value.ref a :: As) := fun v hv => h8 v (by
    rcases List.mem_cons.mp hv with q | q
    · rw [q]; exact List.mem_append_right _ List.mem_cons_self
    · exact List.mem_append_left _ (List.mem_reverse.mpr q))
  have hO3 : mm_O w.1 rest := fun v hv => h8 v (List.mem_append_right _ (List.mem_cons_of_mem _ hv))
  have hMt := hM C.2.2.2.2.2.2.2.2.1 D dA ad H.size
  obtain ⟨CC, T, N, f1, f2, f3, f4, f5⟩ := hV
  have hfix : CallFix p m c cc nL s args mm_GW y.cls := ⟨C.1, C.2.1, C.2.2.1, C.2.2.2.2.1, hS.1.hts⟩
  have hrec := va_recv (q := (CC, T, N)) hS.2.1 h3.1 f1 (mm_ob_at (ad := ad) (dA := dA) ho)
  have hpre : PreV s H CC (ad a) (mm_Pc D dA ad H.size (.ref a :: As) w) (As.map (mm_rv ad)) := ⟨mm_Pc.blind, hrec, mm_pre C h3 h4 h5 hO2⟩
  have hstk : (F0 m pc ls ((As.reverse ++ .ref a :: rest).map (mm_rv ad))).stack = (As.map (mm_rv ad)).reverse ++ .ref (ad a) :: rest.map (mm_rv ad) := by
    show (As.reverse ++ .ref a :: rest).map (mm_rv ad) = _
    rw [List.map_append, List.map_reverse]
    rfl
  have hcat2 : 2 * (F0 m pc ls ((As.reverse ++ .ref a :: rest).map (mm_rv ad))).monitorRoom + ((rest.map (mm_rv ad)).map fun v => v.category).sum ≤ 8 := by
    have e9 : (rest.map (mm_rv ad)).map (fun v => v.category) = rest.map fun v => v.category := by rw [List.map_map]; exact List.map_congr_left (fun v _ => mm_cat ad v)
    rw [e9]
    show 2 * 0 + _ ≤ 8
    omega
  have hR : (mm_rm d1 mc ms).frames + 1 ≤ R.frames ∧ 8 + (n1 + 11) + (mm_rm d1 mc ms).locals ≤ R.locals := by
    have q1 := C.2.2.2.2.2.2.2.2.2.1
    have q2 := C.2.2.2.2.2.2.2.2.2.2.1
    show d1 + 1 ≤ R.frames ∧ 8 + (n1 + 11) + 40 * d1 ≤ R.locals
    omega
  refine mm_after (a := (Value.ref (ad a) :: As.map (mm_rv ad)).toArray) hret hthr C h1 h2 h4 h5 h6 h7 hO3 ?_
  rcases f5 with ⟨g1, g2, g3, g4⟩ | ⟨owner, x, g1, g2, g3, g4, g5, g6⟩
  · exact vx_runV (C := CC) (b := ad a) (As := As.map (mm_rv ad)) hfix hMt ⟨⟨rfl, rfl, hR.1, hR.2, mm_code hS.1 f2, List.mem_singleton.mpr rfl, hS.1.hts _ f2, hS.1.hts _ f3, g3, mm_len g4, hS.1.hts _ g1⟩, hS.1.hts _ f4, hS.1.hts _ g2⟩ hpre rfl (by rw [List.length_map]; exact hn) h7.1 hstk hcat2 hd ⟨by omega, by omega⟩
  · refine vx_runU (x := x) (owner := owner) (C := CC) (b := ad a) (As := As.map (mm_rv ad)) hfix hMt ⟨⟨rfl, rfl, hR.1, hR.2, mm_code hS.1 f2, List.mem_singleton.mpr rfl⟩, hS.1.hts _ f2, hS.1.hts _ f3, g4, mm_len g5, hS.1.hts _ g1, hS.1.hts _ g2, ?_, hS.1.hts _ g3, hS.1.hts _ f4⟩ hpre rfl (by rw [List.length_map]; exact hn) h7.1 hstk hcat2 hd ⟨by omega, by omega⟩
    rcases g6 with q | q
    · rw [← q]; exact va_Decl.of (args := args) (hS.1.hts _ f4) (hS.1.hts _ f2)
    · exact va_Decl.abs (hS.1.2.1 _ q rfl)
def mm_St (own : String) (idx : Nat) (y1 : MethodName) (n : Nat) : Prop := Cond.initialized y1.cls ∈ mm_GW ∧ Cond.static y1 ∈ mm_GW ∧ (y1.cls ≠ "java/lang/invoke/MethodHandle" ∧ y1.cls ≠ "java/lang/invoke/VarHandle") ∧ (parseMethodDescriptor y1.desc).map (fun d => d.parameters.length) = some n ∧ (Cond.methodLink own idx y1 ∈ mm_GW ∨ ∃ host, Cond.methodLinkNest own idx y1 host ∈ lw_tbl)
theorem go_stat {y1 : MethodName} {c1 : ByteArray} {n1 : Nat} {r1 : Option FieldType} {d1 n idx : Nat} {As : List Value} (hd : decode cc pc = .ok (.invokestatic idx, 3)) (hM : Ct l (.code y1 c1 n1 r1) y1 d1 mc ms As w o w') (hV : mm_St y.cls idx y1 n) (hcd : Cond.code y1 c1 n1 r1 ∈ mm_GW) (hn : As.length = n) (hst : st = As.reverse ++ rest)
    (hcat : (rest.map fun v => v.category).sum ≤ 8) (hdp : d1 + 1 ≤ d) (hmx : n1 ≤ 21) (hret : ∀ v, o = .inl v → Go l y cc nL ret hh ext Z d bc bs (pc + 3) lv (v.toList ++ rest) w') (hthr : ∀ E, o = .inr E → GoX l y cc nL ret hh ext Z d bc bs pc lv E w') : Go l y cc nL ret hh ext Z d (mc + bc) (ms + bs) pc lv st w := by
  intro p e R s m args below meth c D dA A ad0 N0 C H locs cells slots ad ls h1 h2 h3 h4 h5 h6 h7 h8
  subst hst
  have hS := C.2.2.2.2.2.2.2.2.2.2.2.1
  have hO2 : mm_O w.1 As := fun v hv => h8 v (List.mem_append_left _ (List.mem_reverse.mpr hv))
  have hO3 : mm_O w.1 rest := fun v hv => h8 v (List.mem_append_right _ hv)
  have hMt := hM C.2.2.2.2.2.2.2.2.1 D dA ad H.size
  obtain ⟨f3, f4, f5, f6, f7⟩ := hV
  have hfix : CallFix p m c cc nL s args mm_GW y.cls := ⟨C.1, C.2.1, C.2.2.1, C.2.2.2.2.1, hS.1.hts⟩
  have hpre : PreS s H (mm_Pc D dA ad H.size As w) (As.map (mm_rv ad)) := ⟨mm_Pc.blind, mm_pre C h3 h4 h5 hO2⟩
  have hstk : (F0 m pc ls ((As.reverse ++ rest).map (mm_rv ad))).stack = (As.map (mm_rv ad)).reverse ++ rest.map (mm_rv ad) := by
    show (As.reverse ++ rest).map (mm_rv ad) = _
    rw [List.map_append, List.map_reverse]
  have hcat2 : 2 * (F0 m pc ls ((As.reverse ++ rest).map (mm_rv ad))).monitorRoom + ((rest.map (mm_rv ad)).map fun v => v.category).sum ≤ 8 := by
    have e9 : (rest.map (mm_rv ad)).map (fun v => v.category) = rest.map fun v => v.category := by rw [List.map_map]; exact List.map_congr_left (fun v _ => mm_cat ad v)
    rw [e9]
    show 2 * 0 + _ ≤ 8
    omega
  have hR : (mm_rm d1 mc ms).frames + 1 ≤ R.frames ∧ 8 + (n1 + 11) + (mm_rm d1 mc ms).locals ≤ R.locals := by
    have q1 := C.2.2.2.2.2.2.2.2.2.1
    have q2 := C.2.2.2.2.2.2.2.2.2.2.1
    show d1 + 1 ≤ R.frames ∧ 8 + (n1 + 11) + 40 * d1 ≤ R.locals
    omega
  refine mm_after (a := (As.map (mm_rv ad)).toArray) hret hthr C h1 h2 h4 h5 h6 h7 hO3 ?_
  rcases f7 with g1 | ⟨host, g1⟩
  · exact vx_runS (As := As.map (mm_rv ad)) hfix hMt ⟨⟨rfl, rfl, hR.1, hR.2, mm_code hS.1 hcd, List.mem_singleton.mpr rfl, hS.1.hts _ hcd, hS.1.hts _ f3, f5, mm_len f6, hS.1.hts _ g1⟩, hS.1.hts _ f4⟩ hpre rfl (by rw [List.length_map]; exact hn) h7.1 hstk hcat2 hd ⟨by omega, by omega⟩
  · exact vx_runSN (host := host) (As := As.map (mm_rv ad)) hfix hMt ⟨⟨⟨rfl, rfl, hR.1, hR.2, mm_code hS.1 hcd, List.mem_singleton.mpr rfl⟩, hS.1.hts _ hcd, hS.1.hts _ f3, f5, mm_len f6, va_Nw.use rfl (hS.1.2.1 _ g1 rfl)⟩, hS.1.hts _ f4, trivial⟩ hpre rfl (by rw [List.length_map]; exact hn) h7.1 hstk hcat2 hd ⟨by omega, by omega⟩
/-- a static method with a table of handlers -/
theorem go_statH {y1 : MethodName} {c1 : ByteArray} {n1 : Nat} {r1 : Option FieldType} {h1' : List (Nat × Nat × Nat × Nat)} {d1 n idx : Nat} {As : List Value} (hd : decode cc pc = .ok (.invokestatic idx, 3)) (hM : Ct l (.codeWith y1 c1 n1 r1 h1') y1 d1 mc ms As w o w') (hV : mm_St y.cls idx y1 n) (hcd : Cond.codeWith y1 c1 n1 r1 h1' ∈ mm_GW) (hlk : Cond.methodLink y.cls idx y1 ∈ mm_GW) (hn : As.length = n) (hst : st = As.reverse ++ rest)
    (hcat : (rest.map fun v => v.category).sum ≤ 8) (hdp : d1 + 1 ≤ d) (hmx : n1 ≤ 21) (hret : ∀ v, o = .inl v → Go l y cc nL ret hh ext Z d bc bs (pc + 3) lv (v.toList ++ rest) w') (hthr : ∀ E, o = .inr E → GoX l y cc nL ret hh ext Z d bc bs pc lv E w') : Go l y cc nL ret hh ext Z d (mc + bc) (ms + bs) pc lv st w := by
  intro p e R s m args below meth c D dA A ad0 N0 C H locs cells slots ad ls h1 h2 h3 h4 h5 h6 h7 h8
  subst hst
  have hS := C.2.2.2.2.2.2.2.2.2.2.2.1
  have hO2 : mm_O w.1 As := fun v hv => h8 v (List.mem_append_left _ (List.mem_reverse.mpr hv))
  have hO3 : mm_O w.1 rest := fun v hv => h8 v (List.mem_append_right _ hv)
  have hMt := hM C.2.2.2.2.2.2.2.2.1 D dA ad H.size
  obtain ⟨f3, f4, f5, f6, -⟩ := hV
  have hfix : CallFix p m c cc nL s args mm_GW y.cls := ⟨C.1, C.2.1, C.2.2.1, C.2.2.2.2.1, hS.1.hts⟩
  have hpre : PreS s H (mm_Pc D dA ad H.size As w) (As.map (mm_rv ad)) := ⟨mm_Pc.blind, mm_pre C h3 h4 h5 hO2⟩
  have hstk : (F0 m pc ls ((As.reverse ++ rest).map (mm_rv ad))).stack = (As.map (mm_rv ad)).reverse ++ rest.map (mm_rv ad) := by
    show (As.reverse ++ rest).map (mm_rv ad) = _
    rw [List.map_append, List.map_reverse]
  have hcat2 : 2 * (F0 m pc ls ((As.reverse ++ rest).map (mm_rv ad))).monitorRoom + ((rest.map (mm_rv ad)).map fun v => v.category).sum ≤ 8 := by
    have e9 : (rest.map (mm_rv ad)).map (fun v => v.category) = rest.map fun v => v.category := by rw [List.map_map]; exact List.map_congr_left (fun v _ => mm_cat ad v)
    rw [e9]
    show 2 * 0 + _ ≤ 8
    omega
  have hR : (mm_rm d1 mc ms).frames + 1 ≤ R.frames ∧ 8 + (n1 + 11) + (mm_rm d1 mc ms).locals ≤ R.locals := by
    have q1 := C.2.2.2.2.2.2.2.2.2.1
    have q2 := C.2.2.2.2.2.2.2.2.2.2.1
    show d1 + 1 ≤ R.frames ∧ 8 + (n1 + 11) + 40 * d1 ≤ R.locals
    omega
  refine mm_after (a := (As.map (mm_rv ad)).toArray) hret hthr C h1 h2 h4 h5 h6 h7 hO3 ?_
  exact vx_runSX (hh := h1') (As := As.map (mm_rv ad)) hfix hMt ⟨⟨rfl, rfl, hR.1, hR.2, mm_code hS.1 hcd, List.mem_singleton.mpr rfl⟩, hS.1.hts _ hcd, hS.1.hts _ f3, f5, mm_len f6, hS.1.hts _ hlk, hS.1.hts _ f4⟩ hpre rfl (by rw [List.length_map]; exact hn) h7.1 hstk hcat2 hd ⟨by omega, by omega⟩
/-- a constructor -/
def mm_In (own : String) (idx : Nat) (y1 : MethodName) (c1 : ByteArray) (n1 : Nat) (n : Nat) : Prop := Cond.code y1 c1 n1 none ∈ mm_GW ∧ Cond.initialized y1.cls ∈ mm_GW ∧ Cond.instanceMethod y1 ∈ mm_GW ∧ y1.name = "<init>" ∧ (y1.cls ≠ "java/lang/invoke/MethodHandle" ∧ y1.cls ≠ "java/lang/invoke/VarHandle") ∧ (parseMethodDescriptor y1.desc).map (fun d => d.parameters.length) = some n ∧ (Cond.methodLink own idx y1 ∈ mm_GW ∨ ∃ host, Cond.methodLinkNest own idx y1 host ∈ lw_tbl)
theorem go_spec {y1 : MethodName} {c1 : ByteArray} {n1 : Nat} {d1 n idx a : Nat} {As : List Value} (hd : decode cc pc = .ok (.invokespecial idx, 3)) (hM : Ct l (.code y1 c1 n1 none) y1 d1 mc ms (.ref a :: As) w o w') (hV : mm_In y.cls idx y1 c1 n1 n) (hn : As.length = n) (hst : st = As.reverse ++ .ref a :: rest)
    (hcat : (rest.map fun v => v.category).sum ≤ 8) (hdp : d1 + 1 ≤ d) (hmx : n1 ≤ 21) (hret : ∀ v, o = .inl v → Go l y cc nL ret hh ext Z d bc bs (pc + 3) lv (v.toList ++ rest) w') (hthr : ∀ E, o = .inr E → GoX l y cc nL ret hh ext Z d bc bs pc lv E w') : Go l y cc nL ret hh ext Z d (mc + bc) (ms + bs) pc lv st w := by
  intro p e R s m args below meth c D dA A ad0 N0 C H locs cells slots ad ls h1 h2 h3 h4 h5 h6 h7 h8
  subst hst
  have hS := C.2.2.2.2.2.2.2.2.2.2.2.1
  have hO2 : mm_O w.1 (Value.ref a :: As) := fun v hv => h8 v (by
    rcases List.mem_cons.mp hv with q | q
    · rw [q]; exact List.mem_append_right _ List.mem_cons_self
    · exact List.mem_append_left _ (List.mem_reverse.mpr q))
  have hO3 : mm_O w.1 rest := fun v hv => h8 v (List.mem_append_right _ (List.mem_cons_of_mem _ hv))
  have hMt := hM C.2.2.2.2.2.2.2.2.1 D dA ad H.size
  obtain ⟨f1, f2, f3, f4, f5, f6, f7⟩ := hV
  have hfix : CallFix p m c cc nL s args mm_GW y.cls := ⟨C.1, C.2.1, C.2.2.1, C.2.2.2.2.1, hS.1.hts⟩
  have hpre : PreS s H (mm_Pc D dA ad H.size (.ref a :: As) w) (.ref (ad a) :: As.map (mm_rv ad)) := ⟨mm_Pc.blind, mm_pre C h3 h4 h5 hO2⟩
  have hstk : (F0 m pc ls ((As.reverse ++ .ref a :: rest).map (mm_rv ad))).stack = (As.map (mm_rv ad)).reverse ++ .ref (ad a) :: rest.map (mm_rv ad) := by
    show (As.reverse ++ .ref a :: rest).map (mm_rv ad) = _
    rw [List.map_append, List.map_reverse]
    rfl
  have hcat2 : 2 * (F0 m pc ls ((As.reverse ++ .ref a :: rest).map (mm_rv ad))).monitorRoom + ((rest.map (mm_rv ad)).map fun v => v.category).sum ≤ 8 := by
    have e9 : (rest.map (mm_rv ad)).map (fun v => v.category) = rest.map fun v => v.category := by rw [List.map_map]; exact List.map_congr_left (fun v _ => mm_cat ad v)
    rw [e9]
    show 2 * 0 + _ ≤ 8
    omega
  have hR : (mm_rm d1 mc ms).frames + 1 ≤ R.frames ∧ 8 + (n1 + 11) + (mm_rm d1 mc ms).locals ≤ R.locals := by
    have q1 := C.2.2.2.2.2.2.2.2.2.1
    have q2 := C.2.2.2.2.2.2.2.2.2.2.1
    show d1 + 1 ≤ R.frames ∧ 8 + (n1 + 11) + 40 * d1 ≤ R.locals
    omega
  refine mm_after (a := (Value.ref (ad a) :: As.map (mm_rv ad)).toArray) hret hthr C h1 h2 h4 h5 h6 h7 hO3 ?_
  rcases f7 with g1 | ⟨host, g1⟩
  · exact vx_runI (b := ad a) (As := As.map (mm_rv ad)) hfix hMt ⟨⟨rfl, rfl, hR.1, hR.2, mm_code hS.1 f1, List.mem_singleton.mpr rfl, hS.1.hts _ f1, hS.1.hts _ f2, f5, mm_len f6, hS.1.hts _ g1⟩, f4, hS.1.hts _ f3⟩ hpre rfl (by rw [List.length_map]; exact hn) h7.1 hstk hcat2 hd ⟨by omega, by omega⟩
  · exact vx_runIN (host := host) (b := ad a) (As := As.map (mm_rv ad)) hfix hMt ⟨⟨⟨rfl, rfl, hR.1, hR.2, mm_code hS.1 f1, List.mem_singleton.mpr rfl⟩, hS.1.hts _ f1, hS.1.hts _ f2, f5, mm_len f6, va_Nw.use rfl (hS.1.2.1 _ g1 rfl)⟩, f4, hS.1.hts _ f3⟩ hpre rfl (by rw [List.length_map]; exact hn) h7.1 hstk hcat2 hd ⟨by omega, by omega⟩
end CALLS
end
section
section ENDS
variable {l : Launch} {y : MethodName} {cc : ByteArray} {nL : Nat} {ret : Option FieldType} {hh : List (Nat × Nat × Nat × Nat)} {ext : Option (Nat × (Nat → Int32))} {Z : MZ} {d bc bs : Nat} {pc : Nat} {lv : List (Nat × Value)} {st rest : List Value} {w w' : MW} {o : MO}
theorem go_ireturn {v : Int32} {ty : FieldType} (hd : decode cc pc = .ok (.ireturn, 1)) (hr : ret = some ty) (hn : narrow ty (.int v) = .int v) : Go l y cc nL ret hh ext (mm_Z (mm_eq (.inl (some (.int v))) w)) d bc bs pc lv [.int v] w := by
  intro p e R s m args below meth c D dA A ad0 N0 C H locs cells slots ad ls h1 h2 h3 h4 h5 h6 h7 h8
  refine vx_ret (W.widen (k := R.cells) (n := R.slots) (by omega) (by omega) ?_)
  have hlocks : meth.locks = false := C.2.2.2.2.2.2.1
  exact W.zret C.1 C.2.1 (C.2.2.2.1.trans hr) hn (fun t ht hW => ⟨some (.int v), w, ad, rfl, ⟨rfl, rfl⟩, fun x hx => by cases hx; exact mm_okv_int, by rw [ht]; exact h3, h4, h6, h5.F ht⟩) h5.2.2 hd hlocks
theorem go_lreturn {v : Int64} (hd : decode cc pc = .ok (.lreturn, 1)) (hr : ret = some .long) : Go l y cc nL ret hh ext (mm_Z (mm_eq (.inl (some (.long v))) w)) d bc bs pc lv [.long v] w := by
  intro p e R s m args below meth c D dA A ad0 N0 C H locs cells slots ad ls h1 h2 h3 h4 h5 h6 h7 h8
  refine vx_ret (W.widen (k := R.cells) (n := R.slots) (by omega) (by omega) ?_)
  have hlocks : meth.locks = false := C.2.2.2.2.2.2.1
  exact W.lret C.1 C.2.1 (C.2.2.2.1.trans hr) (fun t ht hW => ⟨some (.long v), w, ad, rfl, ⟨rfl, rfl⟩, fun x hx => by cases hx; exact mm_okv_long, by rw [ht]; exact h3, h4, h6, h5.F ht⟩) h5.2.2 hd hlocks
theorem go_areturn {a : Nat} {n : String} (hd : decode cc pc = .ok (.areturn, 1)) (hr : ret = some (.object n)) : Go l y cc nL ret hh ext (mm_Z (mm_eq (.inl (some (.ref a))) w)) d bc bs pc lv [.ref a] w := by
  intro p e R s m args below meth c D dA A ad0 N0 C H locs cells slots ad ls h1 h2 h3 h4 h5 h6 h7 h8
  refine vx_ret (W.widen (k := R.cells) (n := R.slots) (by omega) (by omega) ?_)
  have hlocks : meth.locks = false := C.2.2.2.2.2.2.1
  exact W.aret C.1 C.2.1 (C.2.2.2.1.trans hr) (Or.inl ⟨n, rfl⟩) (Or.inr ⟨ad a, rfl⟩) (fun t ht hW => ⟨some (.ref a), w, ad, rfl, ⟨rfl, rfl⟩, fun x hx => by cases hx; exact h8.head, by rw [ht]; exact h3, h4, h6, h5.F ht⟩) h5.2.2 hd hlocks
theorem go_return (hd : decode cc pc = .ok (.return_, 1)) (hr : ret = none) : Go l y cc nL ret hh ext (mm_Z (mm_eq (.inl none) w)) d bc bs pc lv [] w := by
  intro p e R s m args below meth c D dA A ad0 N0 C H locs cells slots ad ls h1 h2 h3 h4 h5 h6 h7 h8
  refine vx_ret (W.widen (k := R.cells) (n := R.slots) (by omega) (by omega) ?_)
  have hlocks : meth.locks = false := C.2.2.2.2.2.2.1
  exact W.vret C.1 C.2.1 (C.2.2.2.1.trans hr) (fun t ht hW => ⟨none, w, ad, rfl, ⟨rfl, rfl⟩, fun x hx => (by cases hx), by rw [ht]; exact h3, h4, h6, h5.F ht⟩) h5.2.2 hd hlocks
/-- an exception that isn't caught here -/
theorem gox_out {E : String} : GoX l y cc nL ret [] ext (mm_Z (mm_eq (.inr E) w)) d bc bs pc lv E w := by
  intro p e R s m args below meth c D dA A ad0 N0 C H locs cells slots ad ls h1 h2 h3 h4 h5 h6 h7 q ce st g1 g2 g3
  have ht : c.exceptionTable.toList = [] := C.2.2.2.2.2.2.2.1
  exact vx_out (fun x hx => by rw [ht] at hx; cases hx) C.2.2.2.2.2.2.1 g1 g2 g3 (fun t ht hW => ⟨w, ad, ⟨rfl, rfl⟩, by rw [ht]; exact h3, h4, h6, h5.F ht⟩) h5.2.2 (by omega) (by omega)
theorem gox_lv (lv0 : List (Nat × Value)) {E : String} (hs : ∀ q ∈ lv0, mm_lk lv q.1 = some q.2) (h : GoX l y cc nL ret hh ext Z d bc bs pc lv0 E w) : GoX l y cc nL ret hh ext Z d bc bs pc lv E w := by
  intro p e R s m args below meth c D dA A ad0 N0 C H locs cells slots ad ls h1 h2 h3 h4 h5 h6 h7
  exact h p e R s m args below meth c D dA A ad0 N0 C H locs cells slots ad ls h1 h2 h3 h4 h5 h6 ⟨h7.1, h7.2.1, fun i v hv => h7.2.2 i v (hs _ (mm_lk_mem hv))⟩
/-- what 'throw new cls(text)' in own stands on -/
def mm_Thr (own : String) (ik is ic : Nat) (cls : String) : Prop := ∃ text : String, Bundle.fit cls = true ∧ Cond.classLink own ik cls ∈ mm_GW ∧ Cond.initialized cls ∈ mm_GW ∧ (own, is, text) ∈ mm_strs ∧ (∀ w ∈ vx_atS own ic cls ["java/lang/RuntimeException", "java/lang/Exception"], w ∈ mm_GW ∨ (w ∈ lw_tbl ∧ mm_ok w = true)) ∧ ∀ w ∈ Cond.classLink own ik cls :: Cond.initialized cls :: vx_atS own ic cls ["java/lang/RuntimeException", "java/lang/Exception"], vx_ot w = true
theorem go_throw {ik is ic : Nat} {cls : String} (hT : mm_Thr y.cls ik is ic cls) (d0 : decode cc pc = .ok (.new ik, 3)) (d3 : decode cc (pc + 3) = .ok (.dup, 1)) (d4 : decode cc (pc + 4) = .ok (.ldc is, 2)) (d6 : decode cc (pc + 6) = .ok (.invokespecial ic, 3)) (d9 : decode cc (pc + 9) = .ok (.athrow, 1)) (hdp : 6 ≤ d) : Go l y cc nL ret [] ext (mm_Z (mm_eq (.inr cls) w)) d (1 + bc) (6 + bs) pc lv [] w := by
  intro p e R s m args below meth c D dA A ad0 N0 C H locs cells slots ad ls h1 h2 h3 h4 h5 h6 h7 h8
  obtain ⟨text, t1, t2, t3, t4, t5, t6⟩ := hT
  have hS := C.2.2.2.2.2.2.2.2.2.2.2.1
  obtain ⟨sa, hsa⟩ := hS.1.2.2.2.1 _ t4
  have ht : c.exceptionTable.toList = [] := C.2.2.2.2.2.2.2.1
  have q1 := C.2.2.2.2.2.2.2.2.2.1
  have q2 := C.2.2.2.2.2.2.2.2.2.2.1
  refine vx_throwS (names := ["java/lang/RuntimeException", "java/lang/Exception"]) (text := text) (sa := sa) (A := A) C.1 C.2.1 C.2.2.2.2.2.2.2.2.1 C.2.2.2.2.1 t1 (by decide +kernel) (hS.1.hts _ t2) (hS.1.hts _ t3) hsa (fun w hw => ?_) t6 hS.2.2.1 hS.2.2.2 h5 (h7.1.trans C.2.2.1.symm) d0 d3 d4 d6 d9 (fun x hx => by rw [ht] at hx; cases hx) (by show 2 + 3 < R.frames; omega) (by show 0 + (13 * (2 + 1) + 43) ≤ R.locals; omega) (by omega) (by omega) C.2.2.2.2.2.2.1 (fun t hW hz hk => ⟨w, ad, ⟨rfl, rfl⟩, ?_, h4, h6, ?_⟩) h5.2.2 (by omega) (by omega)
  · rcases t5 w hw with q | ⟨q, q'⟩
    · exact hS.1.hts _ q
    · refine va_Nw.use ?_ (hS.1.2.1 w q q')
      cases w <;> first | rfl | cases q'
  · exact ⟨h3.1.kept (fun k x hx => hk x.1 ((h3.1 k x hx).lt)), h3.2.1, h3.2.2⟩
  · exact ⟨Nat.le_trans h5.1 hz, fun q g1 g2 => (hk q (Nat.lt_of_lt_of_le g1 h5.1)).trans (h5.2.1 q g1 g2)⟩
/-- Object.<init> -/
theorem go_objInit {idx a : Nat} (hd : decode cc pc = .ok (.invokespecial idx, 3)) (hl : Cond.methodLink y.cls idx Lib.objectInit ∈ mm_GW) (hi : Cond.instanceMethod Lib.objectInit ∈ mm_GW) (hc : Cond.code Lib.objectInit ⟨#[0xb1]⟩ 1 none ∈ mm_GW) (hdp : 1 ≤ d) (hcat : (st.map fun v => v.category).sum ≤ 8) (h : Go l y cc nL ret hh ext Z d bc bs (pc + 3) lv st w) : Go l y cc nL ret hh ext Z d bc bs pc lv (.ref a :: st) w := by
  intro p e R s m args below meth c D dA A ad0 N0 C H locs cells slots ad ls h1 h2 h3 h4 h5 h6 h7 h8
  have hS := C.2.2.2.2.2.2.2.2.2.2.2.1
  have q1 := C.2.2.2.2.2.2.2.2.2.1
  have q2 := C.2.2.2.2.2.2.2.2.2.2.1
  refine W.objInit C.1 C.2.1 C.2.2.2.2.1 (hS.1.hts _ hl) (hS.1.hts _ hi) (hS.1.hts _ hc) rfl (h7.1.trans C.2.2.1.symm) (a := ad a) (rest := st.map (mm_rv ad)) rfl hd (by omega) ?_ (h p e R s m args below meth c D dA A ad0 N0 C H locs cells slots ad ls h1 h2 h3 h4 h5 h6 h7 h8.tail)
  have e9 : (st.map (mm_rv ad)).map (fun v => v.category) = st.map fun v => v.category := by rw [List.map_map]; exact List.map_congr_left (fun v _ => mm_cat ad v)
  rw [e9]
  show 2 * 0 + _ + 12 ≤ R.locals
  omega
/-- a cell more: the world, the addresses, the locals and the stack behind it -/
theorem mm_grow {D : va_G} {dA : FieldType → ClassId} {A : Nat → Prop} {ad0 ad : Nat → Nat} {N0 : Nat} {H1 : Heap} {q : Nat} {cl : MC} (h3w : ∀ k, k < w.1 → mm_okc w.1 (w.2 k)) (hX : w.1 < mm_XT) (hc : mm_okc w.1 cl) (hP : va_P D mm_cl (mm_ws ad dA w ++ [(q, mm_cv ad dA cl)]) H1) (hD : va_D A (mm_ws ad dA w ++ [(q, mm_cv ad dA cl)])) (h6 : mm_ag ad0 ad N0 w.1) {ls : Array Slot} (h7 : mm_L ad w.1 nL lv ls) (h8 : mm_O w.1 st) :
    mm_H D dA (va_up ad w.1 q) (w.1 + 1, va_up w.2 w.1 cl) H1 ∧ va_D A (mm_ws (va_up ad w.1 q) dA (w.1 + 1, va_up w.2 w.1 cl)) ∧ mm_ag ad0 (va_up ad w.1 q) N0 (w.1 + 1) ∧ mm_L (va_up ad w.1 q) (w.1 + 1) nL lv ls ∧ mm_O (w.1 + 1) st ∧ st.map (mm_rv (va_up ad w.1 q)) = st.map (mm_rv ad) := by
  have ha : ∀ k, k < w.1 ∨ k = mm_XT → va_up ad w.1 q k = ad k := fun k hk => by
    have : ¬ k = w.1 := by rcases hk with z | z <;> omega
    simp [va_up, this]
  rw [mm_ws_push h3w hc] at hP hD
  refine ⟨⟨hP, fun k hk => ?_, hX⟩, hD, ⟨Nat.le_succ_of_le h6.1, fun k hk => (ha k (hk.imp (fun z => Nat.lt_of_lt_of_le z h6.1) id)).trans (h6.2 k hk)⟩, h7.agree (Nat.le_succ _) ha, h8.mono (Nat.le_succ _), h8.agree ha⟩
  show mm_okc (w.1 + 1) (va_up w.2 w.1 cl k)
  by_cases e : k = w.1
  · simp only [va_up, e, if_true]; exact mm_okc_mono (Nat.le_succ _) hc
  · simp only [va_up, if_neg e]
    exact mm_okc_mono (Nat.le_succ _) (h3w k (by have : k < w.1 + 1 := hk; omega))
/-- new: the class number ci, its blank fields fs -/
def mm_New (own : String) (idx ci N : Nat) (fs : List Value) : Prop := ∃ (CC : String) (T : u_T) (ty : Nat → FieldType), mm_cl[ci]? = some (CC, T, N) ∧ (∀ w ∈ u_ws CC T N, w ∈ mm_GW) ∧ (∀ k, k < N → parseFieldDescriptor (T k).2.2.1 = some (ty k)) ∧ Cond.classLink own idx CC ∈ mm_GW ∧ Cond.instantiable CC N ∈ mm_GW ∧ Cond.initialized CC ∈ mm_GW ∧ (∀ j, j < N → defaultValue (ty j) = vp_V fs j) ∧ ∀ v ∈ fs, v = .null ∨ ∃ x, v = .int x ∨ ∃ x, v = .long x
theorem mm_blank {fs : List Value} (h : ∀ v ∈ fs, v = .null ∨ ∃ x, v = .int x ∨ ∃ x, v = .long x) (ad : Nat → Nat) : fs.map (mm_rv ad) = fs := by
  conv => rhs; rw [← List.map_id fs]
  refine List.map_congr_left (fun v hv => ?_)
  rcases h v hv with rfl | ⟨x, rfl | ⟨x, rfl⟩⟩ <;> rfl
theorem go_new {idx ci N : Nat} {fs : List Value} (hd : decode cc pc = .ok (.new idx, 3)) (hN : mm_New y.cls idx ci N fs) (hX : w.1 < mm_XT) (h : Go l y cc nL ret hh ext Z d bc bs (pc + 3) lv (.ref w.1 :: st) (w.1 + 1, va_up w.2 w.1 (.inr (ci, fs)))) : Go l y cc nL ret hh ext Z d (1 + bc) (N + bs) pc lv st w := by
  intro p e R s m args below meth c D dA A ad0 N0 C H locs cells slots ad ls h1 h2 h3 h4 h5 h6 h7 h8
  obtain ⟨CC, T, ty, f1, f2, f3, f4, f5, f6, f7, f8⟩ := hN
  have hS := C.2.2.2.2.2.2.2.2.2.2.2.1
  refine va_new C.1 C.2.1 (hS.1.hts (args := args)) f2 ty f3 C.2.2.2.2.1 (hS.1.hts _ f4) (hS.1.hts _ f5) (hS.1.hts _ f6) hS.2.1 h3.1 h4 h5 C.2.2.2.2.2.2.2.2.2.2.2.2.1 f1 f7 (by omega) (by omega) hd (fun q H1 g1 g2 g3 => ?_)
  have e9 : (Sum.inr (ci, fs) : va_E) = mm_cv ad dA (.inr (ci, fs)) := by
    show _ = Sum.inr (ci, fs.map (mm_rv ad))
    rw [mm_blank f8]
  rw [e9] at g1 g2
  have hc : mm_okc w.1 (.inr (ci, fs)) := fun v hv k hk => by
    rcases f8 v hv with z | ⟨x, z | ⟨x, z⟩⟩ <;> (rw [z] at hk; cases hk)
  obtain ⟨r1, r2, r3, r4, r5, r6⟩ := mm_grow h3.2.1 hX hc g1 g2 h6 h7 h8
  have K := h p e R s m args below meth c D dA A ad0 N0 C H1 locs (cells + 1) (slots + N) (va_up ad w.1 q) ls (by omega) (by omega) r1 r2 g3 r3 r4 (mm_O.cons (mm_okv_ref (Nat.lt_succ_self _)) r5)
  rw [List.map_cons, r6] at K
  have e8 : mm_rv (va_up ad w.1 q) (.ref w.1) = .ref q := by simp [mm_rv, va_up]
  rw [e8] at K
  exact K
theorem mm_dA {D : va_G} {dA : FieldType → ClassId} {s : State} (hK : va_K D mm_cl (mm_tys dA) s) {t0 : Nat} {ty : FieldType} (ht : (mm_tys dA)[t0]? = some (dA ty, ty)) {cA : ClassId} (hA : va_RA s cA ty) : cA = dA ty := by
  have h2 := (hK.2 t0 _ ht).2
  cases ty with
  | object CC =>
    obtain ⟨_, _, _, _, _, k4⟩ := h2
    obtain ⟨_, _, _, _, _, j4⟩ := hA
    exact Option.some.inj (j4.symm.trans k4)
  | _ => exact Option.some.inj (Eq.trans (Eq.symm hA) h2)
theorem go_newarray {atype : ArrayType} {ty : FieldType} {n : Int32} {N : Nat} {a0 : vp_A} (t0 : Nat) (ht : ∀ dA, (mm_tys dA)[t0]? = some (dA ty, ty)) (hd : decode cc pc = .ok (.newarray atype, 2)) (hw : Cond.arrayClass (newarray.typeOf atype) ∈ mm_GW) (hty : newarray.typeOf atype = ty) (ha : ∀ cA : ClassId, vp_cell cA a0 = arrV cA N (fun _ => defaultValue ty)) (hcv : ∀ ad dA, mm_cv ad dA (.inl (ty, a0)) = .inl (dA ty, a0)) (hok : ∀ M, mm_okc M (.inl (ty, a0))) (hn : ¬ n < 0) (hN : n.toNatClampNeg = N) (hb : N * componentBytes ty ≤ 536870912) (hX : w.1 < mm_XT)
    (h : Go l y cc nL ret hh ext Z d bc bs (pc + 2) lv (.ref w.1 :: st) (w.1 + 1, va_up w.2 w.1 (.inl (ty, a0)))) : Go l y cc nL ret hh ext Z d (1 + bc) (N + bs) pc lv (.int n :: st) w := by
  intro p e R s m args below meth c D dA A ad0 N0 C H locs cells slots ad ls h1 h2 h3 h4 h5 h6 h7 h8
  have hS := C.2.2.2.2.2.2.2.2.2.2.2.1
  refine va_newa (atype := atype) C.1 C.2.1 (hS.1.hts _ hw) hty hS.2.1 h3.1 h4 h5 C.2.2.2.2.2.2.2.2.2.2.2.2.1 ha hn hN hb (by omega) (by omega) hd (fun q cA H1 gK g1 g2 g3 => ?_)
  have ec : cA = dA ty := mm_dA hS.2.1 (ht dA) (gK.2 4 (cA, ty) rfl).2
  subst ec
  rw [← hcv ad dA] at g1 g2
  obtain ⟨r1, r2, r3, r4, r5, r6⟩ := mm_grow h3.2.1 hX (hok _) g1 g2 h6 h7 h8.tail
  have K := h p e R s m args below meth c D dA A ad0 N0 C H1 locs (cells + 1) (slots + N) (va_up ad w.1 q) ls (by omega) (by omega) r1 r2 g3 r3 r4 (mm_O.cons (mm_okv_ref (Nat.lt_succ_self _)) r5)
  rw [List.map_cons, r6] at K
  have e8 : mm_rv (va_up ad w.1 q) (.ref w.1) = .ref q := by simp [mm_rv, va_up]
  rw [e8] at K
  exact K
theorem go_anewarray {idx : Nat} {n : Int32} {N : Nat} (hd : decode cc pc = .ok (.anewarray idx, 3)) (hw : Cond.classLink y.cls idx RX5 ∈ mm_GW) (hn : ¬ n < 0) (hN : n.toNatClampNeg = N) (hb : N * 4 ≤ 536870912) (hX : w.1 < mm_XT)
    (h : Go l y cc nL ret hh ext Z d bc bs (pc + 3) lv (.ref w.1 :: st) (w.1 + 1, va_up w.2 w.1 (.inl (.object RX5, N, .inr (.inr (.inr (.inr (fun _ => none)))))))) : Go l y cc nL ret hh ext Z d (1 + bc) (N + bs) pc lv (.int n :: st) w := by
  intro p e R s m args below meth c D dA A ad0 N0 C H locs cells slots ad ls h1 h2 h3 h4 h5 h6 h7 h8
  have hS := C.2.2.2.2.2.2.2.2.2.2.2.1
  refine va_newq C.1 C.2.1 C.2.2.2.2.1 (hS.1.hts _ hw) hS.1.2.2.1 hS.2.1 h3.1 h4 h5 C.2.2.2.2.2.2.2.2.2.2.2.2.1 hn hN hb (by omega) (by omega) hd (fun q cA H1 gK g1 g2 g3 => ?_)
  have ec : cA = dA (.object RX5) := mm_dA hS.2.1 (t0 := 3) rfl (gK.2 4 (cA, .object RX5) rfl).2
  subst ec
  have e9 : (Sum.inl (dA (.object RX5), N, .inr (.inr (.inr (.inr (fun _ => none))))) : va_E) = mm_cv ad dA (.inl (.object RX5, N, .inr (.inr (.inr (.inr (fun _ => none)))))) := rfl
  rw [e9] at g1 g2
  obtain ⟨r1, r2, r3, r4, r5, r6⟩ := mm_grow (cl := .inl (.object RX5, N, .inr (.inr (.inr (.inr (fun _ => none)))))) h3.2.1 hX (fun j k hk => by cases hk) g1 g2 h6 h7 h8.tail
  have K := h p e R s m args below meth c D dA A ad0 N0 C H1 locs (cells + 1) (slots + N) (va_up ad w.1 q) ls (by omega) (by omega) r1 r2 g3 r3 r4 (mm_O.cons (mm_okv_ref (Nat.lt_succ_self _)) r5)
  rw [List.map_cons, r6] at K
  have e8 : mm_rv (va_up ad w.1 q) (.ref w.1) = .ref q := by simp [mm_rv, va_up]
  rw [e8] at K
  exact K
/-- System.arraycopy of whole int arrays from 0 to 0 -/
theorem go_copy {idx a b n0 n1 : Nat} {f g : Nat → Int32} {n : Int32} {N : Nat} (hd : decode cc pc = .ok (.invokestatic idx, 3)) (hl : Cond.methodLink y.cls idx arraycopyName ∈ mm_GW) (hna : Cond.native arraycopyName ∈ mm_GW) (hs : Cond.static arraycopyName ∈ mm_GW) (hi : Cond.initialized "java/lang/System" ∈ mm_GW) (ha : mm_ar w a .int (n0, .inl f)) (hb : mm_ar w b .int (n1, .inl g)) (hn : n = nI N) (h0 : N ≤ n0) (h1' : N ≤ n1) (hN : N < 2 ^ 31) (hdp : 2 ≤ d) (hcat : st = [])
    (h : Go l y cc nL ret hh ext Z d bc bs (pc + 3) lv st (mm_up w b (.inl (.int, n1, .inl (va_cpy f g 0 0 N))))) : Go l y cc nL ret hh ext Z d bc bs pc lv (.int n :: .int 0 :: .ref b :: .int 0 :: .ref a :: st) w := by
  intro p e R s m args below meth c D dA A ad0 N0 C H locs cells slots ad ls h1 h2 h3 h4 h5 h6 h7 h8
  have hS := C.2.2.2.2.2.2.2.2.2.2.2.1
  have q1 := C.2.2.2.2.2.2.2.2.2.1
  have q2 := C.2.2.2.2.2.2.2.2.2.2.1
  have e9 : n.toNatClampNeg = N := by rw [hn]; exact nI_clamp hN
  have z0 : (0 : Int32).toNatClampNeg = 0 := sb_cl0
  subst hcat
  have hfw : nativeFrameWords "java/lang/System" "arraycopy" 5 + 11 ≤ 80 := by decide +kernel
  have hfl : (([] : List Value).map fun v => v.category).sum + (nativeFrameWords "java/lang/System" "arraycopy" 5 + 11) ≤ R.locals := by
    show 0 + (nativeFrameWords "java/lang/System" "arraycopy" 5 + 11) ≤ R.locals
    omega
  refine va_copyi C.1 C.2.1 (C.2.2.1.trans h7.1.symm) C.2.2.2.2.1 (hS.1.hts _ hl) (hS.1.hts _ hna) (hS.1.hts _ hs) (hS.1.hts _ hi) hS.2.1 h3.1 h4 h5 a b 0 0 (ty := .int) (rest := []) (mm_ar_at ha) (mm_ar_at hb) rfl rfl rfl (by decide) (by decide) (by rw [hn]; exact nI_pos hN) (by rw [e9, z0]; omega) (by rw [e9, z0]; omega) (fun _ _ => rfl) (by omega) hfl hd (fun H1 locs1 g1 g2 g3 => ?_)
  rw [e9, z0] at g1 g2
  exact h p e R s m args below meth c D dA A ad0 N0 C H1 locs1 cells slots ad ls h1 h2 (mm_H_up (c := .inl (.int, n1, .inl (va_cpy f g 0 0 N))) h3 hb.1 trivial g1) (mm_D_up (c := .inl (.int, n1, .inl (va_cpy f g 0 0 N))) hb.1 g2) g3 h6 h7 h8.tail.tail.tail.tail.tail
/-- Math.min -/
theorem go_min {idx : Nat} {x z : Int32} (hd : decode cc pc = .ok (.invokestatic idx, 3)) (hl : Cond.methodLink y.cls idx Lib.Math.min.name ∈ mm_GW) (hs : Cond.static Lib.Math.min.name ∈ mm_GW) (hi : Cond.initialized "java/lang/Math" ∈ mm_GW) (hc : Cond.code Lib.Math.min.name Lib.Math.min.code 2 (some .int) ∈ mm_GW) (hdp : 1 ≤ d) (hcat : (st.map fun v => v.category).sum ≤ 8)
    (h : Go l y cc nL ret hh ext Z d bc bs (pc + 3) lv (.int (if z < x then z else x) :: st) w) : Go l y cc nL ret hh ext Z d bc bs pc lv (.int z :: .int x :: st) w := by
  intro p e R s m args below meth c D dA A ad0 N0 C H locs cells slots ad ls h1 h2 h3 h4 h5 h6 h7 h8
  have hS := C.2.2.2.2.2.2.2.2.2.2.2.1
  have q1 := C.2.2.2.2.2.2.2.2.2.1
  have q2 := C.2.2.2.2.2.2.2.2.2.2.1
  have e9 : (st.map (mm_rv ad)).map (fun v => v.category) = st.map fun v => v.category := by rw [List.map_map]; exact List.map_congr_left (fun v _ => mm_cat ad v)
  refine va_mmin C.1 C.2.1 (C.2.2.1.trans h7.1.symm) C.2.2.2.2.1 (hS.1.hts _ hl) (hS.1.hts _ hs) (hS.1.hts _ hi) (hS.1.hts _ hc) (by omega) (by rw [e9]; omega) (by omega) (by omega) hd (h p e R s m args below meth c D dA A ad0 N0 C H locs cells slots ad ls h1 h2 h3 h4 h5 h6 h7 (mm_O.cons mm_okv_int h8.tail.tail))
end ENDS
end
section
/-! the tables' words by their places, for my own rows; printed by wip/whole/gen_words.py -/
theorem mm_in {i : Nat} {w : Cond} (h : tables_1[i]? = some w) (hg : goodWord w = true) : w ∈ mm_GW := List.mem_filter.mpr ⟨List.mem_append_right _ (List.mem_of_getElem? h), hg⟩
theorem mm_inp {i : Nat} {w : Cond} (h : (k2_sels lw_privs)[i]? = some w) (hg : goodWord w = true) : w ∈ mm_GW := List.mem_filter.mpr ⟨List.mem_append_left _ (List.mem_of_getElem? h), hg⟩
theorem mm_inl {i : Nat} {w : Cond} (h : tables_1[i]? = some w) : w ∈ lw_tbl := List.mem_append_right _ (List.mem_of_getElem? h)
theorem kw_X0 : ∀ w ∈ u_ws RX0 TX0 4, w ∈ mm_GW := by decide +kernel
theorem kw_X1 : ∀ w ∈ u_ws RX1 TX1 3, w ∈ mm_GW := by decide +kernel
theorem kw_X2 : ∀ w ∈ u_ws RX2 TX2 3, w ∈ mm_GW := by decide +kernel
theorem kw_X4 : ∀ w ∈ u_ws RX4 TX4 3, w ∈ mm_GW := by decide +kernel
theorem kw_X5 : ∀ w ∈ u_ws RX5 TX5 4, w ∈ mm_GW := by decide +kernel
theorem kw_X6 : ∀ w ∈ u_ws RX6 TX6 7, w ∈ mm_GW := by decide +kernel
theorem kw_X7 : ∀ w ∈ u_ws RX7 TX7 4, w ∈ mm_GW := by decide +kernel
theorem kw_X8 : ∀ w ∈ u_ws RX8 TX8 11, w ∈ mm_GW := by decide +kernel
theorem ki_X0 : Cond.initialized RX0 ∈ mm_GW := (mm_in (i := 6) (by decide +kernel) (by decide +kernel))
theorem ki_X1 : Cond.initialized RX1 ∈ mm_GW := (mm_in (i := 7) (by decide +kernel) (by decide +kernel))
theorem ki_X2 : Cond.initialized RX2 ∈ mm_GW := (mm_in (i := 4) (by decide +kernel) (by decide +kernel))
theorem ki_X3 : Cond.initialized RX3 ∈ mm_GW := (mm_in (i := 3) (by decide +kernel) (by decide +kernel))
theorem ki_X4 : Cond.initialized RX4 ∈ mm_GW := (mm_in (i := 5) (by decide +kernel) (by decide +kernel))
theorem ki_X5 : Cond.initialized RX5 ∈ mm_GW := (mm_in (i := 2) (by decide +kernel) (by decide +kernel))
theorem ki_X6 : Cond.initialized RX6 ∈ mm_GW := (mm_in (i := 8) (by decide +kernel) (by decide +kernel))
theorem ki_X7 : Cond.initialized RX7 ∈ mm_GW := (mm_in (i := 1) (by decide +kernel) (by decide +kernel))
theorem ki_X8 : Cond.initialized RX8 ∈ mm_GW := (mm_in (i := 9) (by decide +kernel) (by decide +kernel))
theorem ki_J6 : Cond.initialized RJ6 ∈ mm_GW := (mm_in (i := 18) (by decide +kernel) (by decide +kernel))
theorem ki_J9 : Cond.initialized RJ9 ∈ mm_GW := (mm_in (i := 16) (by decide +kernel) (by decide +kernel))
theorem ki_J10 : Cond.initialized RJ10 ∈ mm_GW := (mm_in (i := 15) (by decide +kernel) (by decide +kernel))
theorem ki_L : Cond.initialized RL ∈ mm_GW := (mm_in (i := 0) (by decide +kernel) (by decide +kernel))
theorem kc_X0_init : Cond.code yX0_init cX0_init 2 none ∈ mm_GW := (mm_in (i := 80) (by decide +kernel) (by decide +kernel))
theorem kn_X0_init : Cond.instanceMethod yX0_init ∈ mm_GW := (mm_in (i := 79) (by decide +kernel) (by decide +kernel))
theorem kc_X0_handlesAbove : Cond.code yX0_handlesAbove cX0_handlesAbove 4 (some .int) ∈ mm_GW := (mm_in (i := 861) (by decide +kernel) (by decide +kernel))
theorem kn_X0_handlesAbove : Cond.instanceMethod yX0_handlesAbove ∈ mm_GW := (mm_in (i := 859) (by decide +kernel) (by decide +kernel))
theorem kc_X0_down : Cond.code yX0_down cX0_down 7 none ∈ mm_GW := (mm_in (i := 259) (by decide +kernel) (by decide +kernel))
theorem kn_X0_down : Cond.instanceMethod yX0_down ∈ mm_GW := (mm_in (i := 258) (by decide +kernel) (by decide +kernel))
theorem kc_X0_enter : Cond.code yX0_enter cX0_enter 3 none ∈ mm_GW := (mm_in (i := 604) (by decide +kernel) (by decide +kernel))
theorem kn_X0_enter : Cond.instanceMethod yX0_enter ∈ mm_GW := (mm_in (i := 603) (by decide +kernel) (by decide +kernel))
theorem kc_X0_settle : Cond.code yX0_settle cX0_settle 2 none ∈ mm_GW := (mm_in (i := 668) (by decide +kernel) (by decide +kernel))
theorem kn_X0_settle : Cond.instanceMethod yX0_settle ∈ mm_GW := (mm_in (i := 667) (by decide +kernel) (by decide +kernel))
theorem kc_X0_settleAll : Cond.code yX0_settleAll cX0_settleAll 2 none ∈ mm_GW := (mm_in (i := 255) (by decide +kernel) (by decide +kernel))
theorem kn_X0_settleAll : Cond.instanceMethod yX0_settleAll ∈ mm_GW := (mm_in (i := 254) (by decide +kernel) (by decide +kernel))
theorem kc_X0_brokenPairs : Cond.code yX0_brokenPairs cX0_brokenPairs 5 (some .int) ∈ mm_GW := (mm_in (i := 466) (by decide +kernel) (by decide +kernel))
theorem kn_X0_brokenPairs : Cond.instanceMethod yX0_brokenPairs ∈ mm_GW := (mm_in (i := 465) (by decide +kernel) (by decide +kernel))
theorem kc_X1_init : Cond.code yX1_init cX1_init 2 none ∈ mm_GW := (mm_in (i := 108) (by decide +kernel) (by decide +kernel))
theorem kn_X1_init : Cond.instanceMethod yX1_init ∈ mm_GW := (mm_in (i := 107) (by decide +kernel) (by decide +kernel))
theorem kc_X1_keep : Cond.code yX1_keep cX1_keep 3 none ∈ mm_GW := (mm_in (i := 177) (by decide +kernel) (by decide +kernel))
theorem kn_X1_keep : Cond.instanceMethod yX1_keep ∈ mm_GW := (mm_in (i := 175) (by decide +kernel) (by decide +kernel))
theorem kc_X1_restore : Cond.code yX1_restore cX1_restore 4 none ∈ mm_GW := (mm_in (i := 937) (by decide +kernel) (by decide +kernel))
theorem kn_X1_restore : Cond.instanceMethod yX1_restore ∈ mm_GW := (mm_in (i := 935) (by decide +kernel) (by decide +kernel))
theorem kc_X2_init : Cond.code yX2_init cX2_init 1 none ∈ mm_GW := (mm_in (i := 37) (by decide +kernel) (by decide +kernel))
theorem kn_X2_init : Cond.instanceMethod yX2_init ∈ mm_GW := (mm_in (i := 36) (by decide +kernel) (by decide +kernel))
theorem kc_X2_low : Cond.code yX2_low cX2_low 1 (some .int) ∈ mm_GW := (mm_in (i := 286) (by decide +kernel) (by decide +kernel))
theorem ks_X2_low : Cond.static yX2_low ∈ mm_GW := (mm_in (i := 285) (by decide +kernel) (by decide +kernel))
theorem kc_X2_high : Cond.code yX2_high cX2_high 1 (some .int) ∈ mm_GW := (mm_in (i := 283) (by decide +kernel) (by decide +kernel))
theorem ks_X2_high : Cond.static yX2_high ∈ mm_GW := (mm_in (i := 282) (by decide +kernel) (by decide +kernel))
theorem kc_X2_top : Cond.code yX2_top cX2_top 2 (some .int) ∈ mm_GW := (mm_in (i := 300) (by decide +kernel) (by decide +kernel))
theorem kn_X2_top : Cond.instanceMethod yX2_top ∈ mm_GW := (mm_in (i := 299) (by decide +kernel) (by decide +kernel))
theorem kc_X2_greatestPosition : Cond.code yX2_greatestPosition cX2_greatestPosition 1 (some .int) ∈ mm_GW := (mm_in (i := 688) (by decide +kernel) (by decide +kernel))
theorem kn_X2_greatestPosition : Cond.instanceMethod yX2_greatestPosition ∈ mm_GW := (mm_in (i := 686) (by decide +kernel) (by decide +kernel))
theorem kc_X2_order : Cond.code yX2_order cX2_order 2 none ∈ mm_GW := (mm_in (i := 280) (by decide +kernel) (by decide +kernel))
theorem kn_X2_order : Cond.instanceMethod yX2_order ∈ mm_GW := (mm_in (i := 279) (by decide +kernel) (by decide +kernel))
theorem kc_X2_riseLow : Cond.code yX2_riseLow cX2_riseLow 4 none ∈ mm_GW := (mm_in (i := 615) (by decide +kernel) (by decide +kernel))
theorem kn_X2_riseLow : Cond.instanceMethod yX2_riseLow ∈ mm_GW := (mm_in (i := 614) (by decide +kernel) (by decide +kernel))
theorem kc_X2_riseHigh : Cond.code yX2_riseHigh cX2_riseHigh 6 none ∈ mm_GW := (mm_in (i := 611) (by decide +kernel) (by decide +kernel))
theorem kn_X2_riseHigh : Cond.instanceMethod yX2_riseHigh ∈ mm_GW := (mm_in (i := 610) (by decide +kernel) (by decide +kernel))
theorem kc_X2_sinkLow : Cond.code yX2_sinkLow cX2_sinkLow 7 none ∈ mm_GW := (mm_in (i := 276) (by decide +kernel) (by decide +kernel))
theorem kn_X2_sinkLow : Cond.instanceMethod yX2_sinkLow ∈ mm_GW := (mm_in (i := 275) (by decide +kernel) (by decide +kernel))
theorem kc_X2_sinkHigh : Cond.code yX2_sinkHigh cX2_sinkHigh 7 none ∈ mm_GW := (mm_in (i := 296) (by decide +kernel) (by decide +kernel))
theorem kn_X2_sinkHigh : Cond.instanceMethod yX2_sinkHigh ∈ mm_GW := (mm_in (i := 295) (by decide +kernel) (by decide +kernel))
theorem kc_X2_enter : Cond.code yX2_enter cX2_enter 5 none ∈ mm_GW := (mm_in (i := 607) (by decide +kernel) (by decide +kernel))
theorem kn_X2_enter : Cond.instanceMethod yX2_enter ∈ mm_GW := (mm_in (i := 606) (by decide +kernel) (by decide +kernel))
theorem kc_X2_settle : Cond.code yX2_settle cX2_settle 3 none ∈ mm_GW := (mm_in (i := 672) (by decide +kernel) (by decide +kernel))
theorem kn_X2_settle : Cond.instanceMethod yX2_settle ∈ mm_GW := (mm_in (i := 671) (by decide +kernel) (by decide +kernel))
theorem kc_X2_settleAll : Cond.code yX2_settleAll cX2_settleAll 2 none ∈ mm_GW := (mm_in (i := 272) (by decide +kernel) (by decide +kernel))
theorem kn_X2_settleAll : Cond.instanceMethod yX2_settleAll ∈ mm_GW := (mm_in (i := 271) (by decide +kernel) (by decide +kernel))
theorem kc_X2_brokenPairs : Cond.code yX2_brokenPairs cX2_brokenPairs 3 (some .int) ∈ mm_GW := (mm_in (i := 474) (by decide +kernel) (by decide +kernel))
theorem kn_X2_brokenPairs : Cond.instanceMethod yX2_brokenPairs ∈ mm_GW := (mm_in (i := 473) (by decide +kernel) (by decide +kernel))
theorem kc_X3_init : Cond.code yX3_init cX3_init 1 none ∈ mm_GW := (mm_in (i := 40) (by decide +kernel) (by decide +kernel))
theorem kn_X3_init : Cond.instanceMethod yX3_init ∈ mm_GW := (mm_in (i := 39) (by decide +kernel) (by decide +kernel))
theorem kc_X3_parentOf : Cond.code yX3_parentOf cX3_parentOf 1 (some .int) ∈ mm_GW := (mm_in (i := 327) (by decide +kernel) (by decide +kernel))
theorem ks_X3_parentOf : Cond.static yX3_parentOf ∈ mm_GW := (mm_in (i := 326) (by decide +kernel) (by decide +kernel))
theorem kc_X3_isPosition : Cond.code yX3_isPosition cX3_isPosition 2 (some .boolean) ∈ mm_GW := (mm_in (i := 242) (by decide +kernel) (by decide +kernel))
theorem kn_X3_isPosition : Cond.instanceMethod yX3_isPosition ∈ mm_GW := (mm_in (i := 237) (by decide +kernel) (by decide +kernel))
theorem kc_X3_itemAt : Cond.code yX3_itemAt cX3_itemAt 2 (some .int) ∈ mm_GW := (mm_in (i := 377) (by decide +kernel) (by decide +kernel))
theorem kn_X3_itemAt : Cond.instanceMethod yX3_itemAt ∈ mm_GW := (mm_in (i := 376) (by decide +kernel) (by decide +kernel))
theorem kc_X3_handleAt : Cond.code yX3_handleAt cX3_handleAt 2 (some .int) ∈ mm_GW := (mm_in (i := 235) (by decide +kernel) (by decide +kernel))
theorem kn_X3_handleAt : Cond.instanceMethod yX3_handleAt ∈ mm_GW := (mm_in (i := 230) (by decide +kernel) (by decide +kernel))
theorem kc_X3_keyAt : Cond.code yX3_keyAt cX3_keyAt 2 (some .int) ∈ mm_GW := (mm_in (i := 391) (by decide +kernel) (by decide +kernel))
theorem kn_X3_keyAt : Cond.instanceMethod yX3_keyAt ∈ mm_GW := (mm_in (i := 390) (by decide +kernel) (by decide +kernel))
theorem kc_X3_find : Cond.code yX3_find cX3_find 3 (some .int) ∈ mm_GW := (mm_in (i := 228) (by decide +kernel) (by decide +kernel))
theorem kn_X3_find : Cond.instanceMethod yX3_find ∈ mm_GW := (mm_in (i := 223) (by decide +kernel) (by decide +kernel))
theorem kc_X3_ahead : Cond.code yX3_ahead cX3_ahead 4 (some .boolean) ∈ mm_GW := (mm_in (i := 265) (by decide +kernel) (by decide +kernel))
theorem kn_X3_ahead : Cond.instanceMethod yX3_ahead ∈ mm_GW := (mm_in (i := 264) (by decide +kernel) (by decide +kernel))
theorem kc_X3_exchange : Cond.code yX3_exchange cX3_exchange 4 none ∈ mm_GW := (mm_in (i := 249) (by decide +kernel) (by decide +kernel))
theorem kn_X3_exchange : Cond.instanceMethod yX3_exchange ∈ mm_GW := (mm_in (i := 244) (by decide +kernel) (by decide +kernel))
theorem kc_X3_putIn : Cond.code yX3_putIn cX3_putIn 3 none ∈ mm_GW := (mm_in (i := 598) (by decide +kernel) (by decide +kernel))
theorem kn_X3_putIn : Cond.instanceMethod yX3_putIn ∈ mm_GW := (mm_in (i := 593) (by decide +kernel) (by decide +kernel))
theorem kc_X3_takeOut : Cond.code yX3_takeOut cX3_takeOut 3 none ∈ mm_GW := (mm_in (i := 662) (by decide +kernel) (by decide +kernel))
theorem kn_X3_takeOut : Cond.instanceMethod yX3_takeOut ∈ mm_GW := (mm_in (i := 657) (by decide +kernel) (by decide +kernel))
theorem kc_X3_giveKey : Cond.code yX3_giveKey cX3_giveKey 4 none ∈ mm_GW := (mm_in (i := 709) (by decide +kernel) (by decide +kernel))
theorem kn_X3_giveKey : Cond.instanceMethod yX3_giveKey ∈ mm_GW := (mm_in (i := 704) (by decide +kernel) (by decide +kernel))
theorem kc_X3_arrange : Cond.code yX3_arrange cX3_arrange 1 none ∈ mm_GW := (mm_in (i := 217) (by decide +kernel) (by decide +kernel))
theorem kn_X3_arrange : Cond.instanceMethod yX3_arrange ∈ mm_GW := (mm_in (i := 212) (by decide +kernel) (by decide +kernel))
theorem kc_X3_lineUp : Cond.code yX3_lineUp cX3_lineUp 4 none ∈ mm_GW := (mm_in (i := 221) (by decide +kernel) (by decide +kernel))
theorem kn_X3_lineUp : Cond.instanceMethod yX3_lineUp ∈ mm_GW := (mm_in (i := 220) (by decide +kernel) (by decide +kernel))
theorem kc_X3_copyFrom : Cond.code yX3_copyFrom cX3_copyFrom 2 none ∈ mm_GW := (mm_in (i := 192) (by decide +kernel) (by decide +kernel))
theorem kn_X3_copyFrom : Cond.instanceMethod yX3_copyFrom ∈ mm_GW := (mm_in (i := 187) (by decide +kernel) (by decide +kernel))
theorem kc_X4_init : Cond.code yX4_init cX4_init 1 none ∈ mm_GW := (mm_in (i := 70) (by decide +kernel) (by decide +kernel))
theorem kn_X4_init : Cond.instanceMethod yX4_init ∈ mm_GW := (mm_in (i := 69) (by decide +kernel) (by decide +kernel))
theorem kc_X4_levelOf : Cond.code yX4_levelOf cX4_levelOf 3 (some .int) ∈ mm_GW := (mm_in (i := 313) (by decide +kernel) (by decide +kernel))
theorem ks_X4_levelOf : Cond.static yX4_levelOf ∈ mm_GW := (mm_in (i := 312) (by decide +kernel) (by decide +kernel))
theorem kc_X4_isLow : Cond.code yX4_isLow cX4_isLow 1 (some .boolean) ∈ mm_GW := (mm_in (i := 310) (by decide +kernel) (by decide +kernel))
theorem ks_X4_isLow : Cond.static yX4_isLow ∈ mm_GW := (mm_in (i := 309) (by decide +kernel) (by decide +kernel))
theorem kc_X4_greatestPosition : Cond.code yX4_greatestPosition cX4_greatestPosition 1 (some .int) ∈ mm_GW := (mm_in (i := 692) (by decide +kernel) (by decide +kernel))
theorem kn_X4_greatestPosition : Cond.instanceMethod yX4_greatestPosition ∈ mm_GW := (mm_in (i := 690) (by decide +kernel) (by decide +kernel))
theorem kc_X4_countFindingGreatest : Cond.code yX4_countFindingGreatest cX4_countFindingGreatest 1 none ∈ mm_GW := (mm_in (i := 680) (by decide +kernel) (by decide +kernel))
theorem kn_X4_countFindingGreatest : Cond.instanceMethod yX4_countFindingGreatest ∈ mm_GW := (mm_in (i := 678) (by decide +kernel) (by decide +kernel))
theorem kc_X4_rise : Cond.code yX4_rise cX4_rise 5 none ∈ mm_GW := (mm_in (i := 622) (by decide +kernel) (by decide +kernel))
theorem kn_X4_rise : Cond.instanceMethod yX4_rise ∈ mm_GW := (mm_in (i := 621) (by decide +kernel) (by decide +kernel))
theorem kc_X4_foremostBelow : Cond.code yX4_foremostBelow cX4_foremostBelow 6 (some .int) ∈ mm_GW := (mm_in (i := 317) (by decide +kernel) (by decide +kernel))
theorem kn_X4_foremostBelow : Cond.instanceMethod yX4_foremostBelow ∈ mm_GW := (mm_in (i := 316) (by decide +kernel) (by decide +kernel))
theorem kc_X4_sink : Cond.code yX4_sink cX4_sink 7 none ∈ mm_GW := (mm_in (i := 307) (by decide +kernel) (by decide +kernel))
theorem kn_X4_sink : Cond.instanceMethod yX4_sink ∈ mm_GW := (mm_in (i := 306) (by decide +kernel) (by decide +kernel))
theorem kc_X4_enter : Cond.code yX4_enter cX4_enter 4 none ∈ mm_GW := (mm_in (i := 618) (by decide +kernel) (by decide +kernel))
theorem kn_X4_enter : Cond.instanceMethod yX4_enter ∈ mm_GW := (mm_in (i := 617) (by decide +kernel) (by decide +kernel))
theorem kc_X4_settle : Cond.code yX4_settle cX4_settle 2 none ∈ mm_GW := (mm_in (i := 675) (by decide +kernel) (by decide +kernel))
theorem kn_X4_settle : Cond.instanceMethod yX4_settle ∈ mm_GW := (mm_in (i := 674) (by decide +kernel) (by decide +kernel))
theorem kc_X4_settleAll : Cond.code yX4_settleAll cX4_settleAll 2 none ∈ mm_GW := (mm_in (i := 303) (by decide +kernel) (by decide +kernel))
theorem kn_X4_settleAll : Cond.instanceMethod yX4_settleAll ∈ mm_GW := (mm_in (i := 302) (by decide +kernel) (by decide +kernel))
theorem kc_X4_brokenPairs : Cond.code yX4_brokenPairs cX4_brokenPairs 6 (some .int) ∈ mm_GW := (mm_in (i := 480) (by decide +kernel) (by decide +kernel))
theorem kn_X4_brokenPairs : Cond.instanceMethod yX4_brokenPairs ∈ mm_GW := (mm_in (i := 479) (by decide +kernel) (by decide +kernel))
theorem kc_X5_init : Cond.code yX5_init cX5_init 1 none ∈ mm_GW := (mm_in (i := 31) (by decide +kernel) (by decide +kernel))
theorem kn_X5_init : Cond.instanceMethod yX5_init ∈ mm_GW := (mm_in (i := 30) (by decide +kernel) (by decide +kernel))
theorem kc_X5_layout : Cond.code yX5_layout cX5_layout 2 (some (.object "TwoEndQueues$Layout")) ∈ mm_GW := (mm_in (i := 185) (by decide +kernel) (by decide +kernel))
theorem kn_X5_layout : Cond.instanceMethod yX5_layout ∈ mm_GW := (mm_in (i := 183) (by decide +kernel) (by decide +kernel))
theorem kc_X5_itemCount : Cond.code yX5_itemCount cX5_itemCount 1 (some .int) ∈ mm_GW := (mm_in (i := 335) (by decide +kernel) (by decide +kernel))
theorem kn_X5_itemCount : Cond.instanceMethod yX5_itemCount ∈ mm_GW := (mm_in (i := 333) (by decide +kernel) (by decide +kernel))
theorem kc_X5_has : Cond.code yX5_has cX5_has 2 (some .boolean) ∈ mm_GW := (mm_in (i := 363) (by decide +kernel) (by decide +kernel))
theorem kn_X5_has : Cond.instanceMethod yX5_has ∈ mm_GW := (mm_in (i := 361) (by decide +kernel) (by decide +kernel))
theorem kc_X5_keyOf : Cond.code yX5_keyOf cX5_keyOf 2 (some .int) ∈ mm_GW := (mm_in (i := 385) (by decide +kernel) (by decide +kernel))
theorem kn_X5_keyOf : Cond.instanceMethod yX5_keyOf ∈ mm_GW := (mm_in (i := 383) (by decide +kernel) (by decide +kernel))
theorem kc_X5_handleSet : Cond.code yX5_handleSet cX5_handleSet 3 (some .int) ∈ mm_GW := (mm_in (i := 351) (by decide +kernel) (by decide +kernel))
theorem kn_X5_handleSet : Cond.instanceMethod yX5_handleSet ∈ mm_GW := (mm_in (i := 349) (by decide +kernel) (by decide +kernel))
theorem kc_X5_countLess : Cond.code yX5_countLess cX5_countLess 5 (some .int) ∈ mm_GW := (mm_in (i := 371) (by decide +kernel) (by decide +kernel))
theorem kn_X5_countLess : Cond.instanceMethod yX5_countLess ∈ mm_GW := (mm_in (i := 369) (by decide +kernel) (by decide +kernel))
theorem kc_X5_leastOf : Cond.code yX5_leastOf cX5_leastOf 2 (some .int) ∈ mm_GW := (mm_in (i := 638) (by decide +kernel) (by decide +kernel))
theorem kn_X5_leastOf : Cond.instanceMethod yX5_leastOf ∈ mm_GW := (mm_in (i := 636) (by decide +kernel) (by decide +kernel))
theorem kc_X5_greatestOf : Cond.code yX5_greatestOf cX5_greatestOf 2 (some .int) ∈ mm_GW := (mm_in (i := 684) (by decide +kernel) (by decide +kernel))
theorem kn_X5_greatestOf : Cond.instanceMethod yX5_greatestOf ∈ mm_GW := (mm_in (i := 682) (by decide +kernel) (by decide +kernel))
theorem kc_X5_countedIn : Cond.code yX5_countedIn cX5_countedIn 2 (some .int) ∈ mm_GW := (mm_in (i := 206) (by decide +kernel) (by decide +kernel))
theorem kn_X5_countedIn : Cond.instanceMethod yX5_countedIn ∈ mm_GW := (mm_in (i := 204) (by decide +kernel) (by decide +kernel))
theorem kc_X5_countedInAll : Cond.code yX5_countedInAll cX5_countedInAll 1 (some .int) ∈ mm_GW := (mm_in (i := 202) (by decide +kernel) (by decide +kernel))
theorem kn_X5_countedInAll : Cond.instanceMethod yX5_countedInAll ∈ mm_GW := (mm_in (i := 200) (by decide +kernel) (by decide +kernel))
theorem kc_X5_forgetCounts : Cond.code yX5_forgetCounts cX5_forgetCounts 2 none ∈ mm_GW := (mm_in (i := 400) (by decide +kernel) (by decide +kernel))
theorem kn_X5_forgetCounts : Cond.instanceMethod yX5_forgetCounts ∈ mm_GW := (mm_in (i := 398) (by decide +kernel) (by decide +kernel))
theorem kc_X5_lowestFreeHandle : Cond.code yX5_lowestFreeHandle cX5_lowestFreeHandle 2 (some .int) ∈ mm_GW := (mm_in (i := 590) (by decide +kernel) (by decide +kernel))
theorem kn_X5_lowestFreeHandle : Cond.instanceMethod yX5_lowestFreeHandle ∈ mm_GW := (mm_in (i := 589) (by decide +kernel) (by decide +kernel))
theorem kc_X5_putIn : Cond.code yX5_putIn cX5_putIn 4 (some .int) ∈ mm_GW := (mm_in (i := 586) (by decide +kernel) (by decide +kernel))
theorem kn_X5_putIn : Cond.instanceMethod yX5_putIn ∈ mm_GW := (mm_in (i := 584) (by decide +kernel) (by decide +kernel))
theorem kc_X5_takeOut : Cond.code yX5_takeOut cX5_takeOut 3 none ∈ mm_GW := (mm_in (i := 655) (by decide +kernel) (by decide +kernel))
theorem kn_X5_takeOut : Cond.instanceMethod yX5_takeOut ∈ mm_GW := (mm_in (i := 653) (by decide +kernel) (by decide +kernel))
theorem kc_X5_takeOutOf : Cond.code yX5_takeOutOf cX5_takeOutOf 3 none ∈ mm_GW := (mm_in (i := 898) (by decide +kernel) (by decide +kernel))
theorem kn_X5_takeOutOf : Cond.instanceMethod yX5_takeOutOf ∈ mm_GW := (mm_in (i := 896) (by decide +kernel) (by decide +kernel))
theorem kc_X5_giveKey : Cond.code yX5_giveKey cX5_giveKey 4 none ∈ mm_GW := (mm_in (i := 702) (by decide +kernel) (by decide +kernel))
theorem kn_X5_giveKey : Cond.instanceMethod yX5_giveKey ∈ mm_GW := (mm_in (i := 700) (by decide +kernel) (by decide +kernel))
theorem kc_X5_arrange : Cond.code yX5_arrange cX5_arrange 2 none ∈ mm_GW := (mm_in (i := 210) (by decide +kernel) (by decide +kernel))
theorem kn_X5_arrange : Cond.instanceMethod yX5_arrange ∈ mm_GW := (mm_in (i := 208) (by decide +kernel) (by decide +kernel))
theorem kc_X5_empty : Cond.code yX5_empty cX5_empty 2 none ∈ mm_GW := (mm_in (i := 339) (by decide +kernel) (by decide +kernel))
theorem kn_X5_empty : Cond.instanceMethod yX5_empty ∈ mm_GW := (mm_in (i := 337) (by decide +kernel) (by decide +kernel))
theorem kc_X5_copyFrom : Cond.code yX5_copyFrom cX5_copyFrom 3 none ∈ mm_GW := (mm_in (i := 181) (by decide +kernel) (by decide +kernel))
theorem kn_X5_copyFrom : Cond.instanceMethod yX5_copyFrom ∈ mm_GW := (mm_in (i := 179) (by decide +kernel) (by decide +kernel))
theorem kc_X5_isPossible : Cond.code yX5_isPossible cX5_isPossible 4 (some .boolean) ∈ mm_GW := (mm_in (i := 647) (by decide +kernel) (by decide +kernel))
theorem kn_X5_isPossible : Cond.instanceMethod yX5_isPossible ∈ mm_GW := (mm_in (i := 646) (by decide +kernel) (by decide +kernel))
theorem kc_X5_carryOut : Cond.code yX5_carryOut cX5_carryOut 4 (some .boolean) ∈ mm_GW := (mm_in (i := 643) (by decide +kernel) (by decide +kernel))
theorem kn_X5_carryOut : Cond.instanceMethod yX5_carryOut ∈ mm_GW := (mm_in (i := 641) (by decide +kernel) (by decide +kernel))
theorem kc_X6_init : Cond.code yX6_init cX6_init 1 none ∈ mm_GW := (mm_in (i := 128) (by decide +kernel) (by decide +kernel))
theorem kn_X6_init : Cond.instanceMethod yX6_init ∈ mm_GW := (mm_in (i := 127) (by decide +kernel) (by decide +kernel))
theorem kc_X6_append : Cond.code yX6_append cX6_append 2 none ∈ mm_GW := (mm_in (i := 915) (by decide +kernel) (by decide +kernel))
theorem kn_X6_append : Cond.instanceMethod yX6_append ∈ mm_GW := (mm_in (i := 913) (by decide +kernel) (by decide +kernel))
theorem kc_X6_rewind : Cond.code yX6_rewind cX6_rewind 1 none ∈ mm_GW := (mm_in (i := 421) (by decide +kernel) (by decide +kernel))
theorem kn_X6_rewind : Cond.instanceMethod yX6_rewind ∈ mm_GW := (mm_in (i := 419) (by decide +kernel) (by decide +kernel))
theorem kc_X6_firstFault : Cond.code yX6_firstFault cX6_firstFault 2 (some .int) ∈ mm_GW := (mm_in (i := 417) (by decide +kernel) (by decide +kernel))
theorem kn_X6_firstFault : Cond.instanceMethod yX6_firstFault ∈ mm_GW := (mm_in (i := 415) (by decide +kernel) (by decide +kernel))
theorem kc_X6_readCommand : Cond.code yX6_readCommand cX6_readCommand 1 (some .boolean) ∈ mm_GW := (mm_in (i := 425) (by decide +kernel) (by decide +kernel))
theorem kn_X6_readCommand : Cond.instanceMethod yX6_readCommand ∈ mm_GW := (mm_in (i := 423) (by decide +kernel) (by decide +kernel))
theorem kc_X6_commandOf : Cond.code yX6_commandOf cX6_commandOf 1 (some .int) ∈ mm_GW := (mm_in (i := 432) (by decide +kernel) (by decide +kernel))
theorem ks_X6_commandOf : Cond.static yX6_commandOf ∈ mm_GW := (mm_in (i := 431) (by decide +kernel) (by decide +kernel))
theorem kc_X6_readArguments : Cond.code yX6_readArguments cX6_readArguments 1 (some .boolean) ∈ mm_GW := (mm_in (i := 436) (by decide +kernel) (by decide +kernel))
theorem kn_X6_readArguments : Cond.instanceMethod yX6_readArguments ∈ mm_GW := (mm_in (i := 435) (by decide +kernel) (by decide +kernel))
theorem kc_X6_readKey : Cond.code yX6_readKey cX6_readKey 3 (some .boolean) ∈ mm_GW := (mm_in (i := 440) (by decide +kernel) (by decide +kernel))
theorem kn_X6_readKey : Cond.instanceMethod yX6_readKey ∈ mm_GW := (mm_in (i := 439) (by decide +kernel) (by decide +kernel))
theorem kc_X6_readHandle : Cond.code yX6_readHandle cX6_readHandle 2 (some .boolean) ∈ mm_GW := (mm_in (i := 452) (by decide +kernel) (by decide +kernel))
theorem kn_X6_readHandle : Cond.instanceMethod yX6_readHandle ∈ mm_GW := (mm_in (i := 451) (by decide +kernel) (by decide +kernel))
theorem kc_X6_readNumber : Cond.code yX6_readNumber cX6_readNumber 3 (some .boolean) ∈ mm_GW := (mm_in (i := 448) (by decide +kernel) (by decide +kernel))
theorem kn_X6_readNumber : Cond.instanceMethod yX6_readNumber ∈ mm_GW := (mm_in (i := 447) (by decide +kernel) (by decide +kernel))
theorem kc_X6_readSign : Cond.code yX6_readSign cX6_readSign 2 (some .boolean) ∈ mm_GW := (mm_in (i := 444) (by decide +kernel) (by decide +kernel))
theorem kn_X6_readSign : Cond.instanceMethod yX6_readSign ∈ mm_GW := (mm_in (i := 443) (by decide +kernel) (by decide +kernel))
theorem kc_X6_current : Cond.code yX6_current cX6_current 1 (some .char) ∈ mm_GW := (mm_in (i := 429) (by decide +kernel) (by decide +kernel))
theorem kn_X6_current : Cond.instanceMethod yX6_current ∈ mm_GW := (mm_in (i := 428) (by decide +kernel) (by decide +kernel))
theorem kc_X7_init : Cond.code yX7_init cX7_init 1 none ∈ mm_GW := (mm_in (i := 23) (by decide +kernel) (by decide +kernel))
theorem kn_X7_init : Cond.instanceMethod yX7_init ∈ mm_GW := (mm_in (i := 22) (by decide +kernel) (by decide +kernel))
theorem kc_X7_insert : Cond.code yX7_insert cX7_insert 2 (some .int) ∈ mm_GW := (mm_in (i := 492) (by decide +kernel) (by decide +kernel))
theorem kn_X7_insert : Cond.instanceMethod yX7_insert ∈ mm_GW := (mm_in (i := 490) (by decide +kernel) (by decide +kernel))
theorem kc_X7_takeLeast : Cond.code yX7_takeLeast cX7_takeLeast 2 (some .int) ∈ mm_GW := (mm_in (i := 629) (by decide +kernel) (by decide +kernel))
theorem kn_X7_takeLeast : Cond.instanceMethod yX7_takeLeast ∈ mm_GW := (mm_in (i := 627) (by decide +kernel) (by decide +kernel))
theorem kc_X7_takeGreatest : Cond.code yX7_takeGreatest cX7_takeGreatest 2 (some .int) ∈ mm_GW := (mm_in (i := 717) (by decide +kernel) (by decide +kernel))
theorem kn_X7_takeGreatest : Cond.instanceMethod yX7_takeGreatest ∈ mm_GW := (mm_in (i := 715) (by decide +kernel) (by decide +kernel))
theorem kc_X7_remove : Cond.code yX7_remove cX7_remove 3 (some .int) ∈ mm_GW := (mm_in (i := 726) (by decide +kernel) (by decide +kernel))
theorem kn_X7_remove : Cond.instanceMethod yX7_remove ∈ mm_GW := (mm_in (i := 724) (by decide +kernel) (by decide +kernel))
theorem kc_X7_change : Cond.code yX7_change cX7_change 4 (some .int) ∈ mm_GW := (mm_in (i := 754) (by decide +kernel) (by decide +kernel))
theorem kn_X7_change : Cond.instanceMethod yX7_change ∈ mm_GW := (mm_in (i := 752) (by decide +kernel) (by decide +kernel))
theorem kc_X7_build : Cond.code yX7_build cX7_build 2 (some .int) ∈ mm_GW := (mm_in (i := 173) (by decide +kernel) (by decide +kernel))
theorem kn_X7_build : Cond.instanceMethod yX7_build ∈ mm_GW := (mm_in (i := 171) (by decide +kernel) (by decide +kernel))
theorem kc_X7_clear : Cond.code yX7_clear cX7_clear 2 (some .int) ∈ mm_GW := (mm_in (i := 331) (by decide +kernel) (by decide +kernel))
theorem kn_X7_clear : Cond.instanceMethod yX7_clear ∈ mm_GW := (mm_in (i := 329) (by decide +kernel) (by decide +kernel))
theorem kc_X7_size : Cond.code yX7_size cX7_size 1 (some .int) ∈ mm_GW := (mm_in (i := 343) (by decide +kernel) (by decide +kernel))
theorem kn_X7_size : Cond.instanceMethod yX7_size ∈ mm_GW := (mm_in (i := 341) (by decide +kernel) (by decide +kernel))
theorem kc_X7_handles : Cond.code yX7_handles cX7_handles 1 (some .int) ∈ mm_GW := (mm_in (i := 347) (by decide +kernel) (by decide +kernel))
theorem kn_X7_handles : Cond.instanceMethod yX7_handles ∈ mm_GW := (mm_in (i := 345) (by decide +kernel) (by decide +kernel))
theorem kc_X7_key : Cond.code yX7_key cX7_key 2 (some .int) ∈ mm_GW := (mm_in (i := 762) (by decide +kernel) (by decide +kernel))
theorem kn_X7_key : Cond.instanceMethod yX7_key ∈ mm_GW := (mm_in (i := 760) (by decide +kernel) (by decide +kernel))
theorem kc_X7_fill : Cond.code yX7_fill cX7_fill 6 (some .int) ∈ mm_GW := (mm_in (i := 769) (by decide +kernel) (by decide +kernel))
theorem kn_X7_fill : Cond.instanceMethod yX7_fill ∈ mm_GW := (mm_in (i := 767) (by decide +kernel) (by decide +kernel))
theorem kc_X7_least : Cond.code yX7_least cX7_least 2 (some .int) ∈ mm_GW := (mm_in (i := 783) (by decide +kernel) (by decide +kernel))
theorem kn_X7_least : Cond.instanceMethod yX7_least ∈ mm_GW := (mm_in (i := 781) (by decide +kernel) (by decide +kernel))
theorem kc_X7_greatest : Cond.code yX7_greatest cX7_greatest 2 (some .int) ∈ mm_GW := (mm_in (i := 794) (by decide +kernel) (by decide +kernel))
theorem kn_X7_greatest : Cond.instanceMethod yX7_greatest ∈ mm_GW := (mm_in (i := 792) (by decide +kernel) (by decide +kernel))
theorem kc_X7_ranked : Cond.code yX7_ranked cX7_ranked 3 (some .int) ∈ mm_GW := (mm_in (i := 359) (by decide +kernel) (by decide +kernel))
theorem kn_X7_ranked : Cond.instanceMethod yX7_ranked ∈ mm_GW := (mm_in (i := 357) (by decide +kernel) (by decide +kernel))
theorem kc_X7_rank : Cond.code yX7_rank cX7_rank 2 (some .int) ∈ mm_GW := (mm_in (i := 801) (by decide +kernel) (by decide +kernel))
theorem kn_X7_rank : Cond.instanceMethod yX7_rank ∈ mm_GW := (mm_in (i := 799) (by decide +kernel) (by decide +kernel))
theorem kc_X7_between : Cond.code yX7_between cX7_between 5 (some .int) ∈ mm_GW := (mm_in (i := 381) (by decide +kernel) (by decide +kernel))
theorem kn_X7_between : Cond.instanceMethod yX7_between ∈ mm_GW := (mm_in (i := 379) (by decide +kernel) (by decide +kernel))
theorem kc_X7_at : Cond.code yX7_at cX7_at 3 (some .int) ∈ mm_GW := (mm_in (i := 808) (by decide +kernel) (by decide +kernel))
theorem kn_X7_at : Cond.instanceMethod yX7_at ∈ mm_GW := (mm_in (i := 806) (by decide +kernel) (by decide +kernel))
theorem kc_X7_where : Cond.code yX7_where cX7_where 3 (some .int) ∈ mm_GW := (mm_in (i := 819) (by decide +kernel) (by decide +kernel))
theorem kn_X7_where : Cond.instanceMethod yX7_where ∈ mm_GW := (mm_in (i := 817) (by decide +kernel) (by decide +kernel))
theorem kc_X7_violations : Cond.code yX7_violations cX7_violations 2 (some .int) ∈ mm_GW := (mm_in (i := 827) (by decide +kernel) (by decide +kernel))
theorem kn_X7_violations : Cond.instanceMethod yX7_violations ∈ mm_GW := (mm_in (i := 825) (by decide +kernel) (by decide +kernel))
theorem kc_X7_disturb : Cond.code yX7_disturb cX7_disturb 4 (some .int) ∈ mm_GW := (mm_in (i := 834) (by decide +kernel) (by decide +kernel))
theorem kn_X7_disturb : Cond.instanceMethod yX7_disturb ∈ mm_GW := (mm_in (i := 832) (by decide +kernel) (by decide +kernel))
theorem kc_X7_level : Cond.code yX7_level cX7_level 2 (some .int) ∈ mm_GW := (mm_in (i := 847) (by decide +kernel) (by decide +kernel))
theorem kn_X7_level : Cond.instanceMethod yX7_level ∈ mm_GW := (mm_in (i := 845) (by decide +kernel) (by decide +kernel))
theorem kc_X7_ancestors : Cond.code yX7_ancestors cX7_ancestors 2 (some .int) ∈ mm_GW := (mm_in (i := 857) (by decide +kernel) (by decide +kernel))
theorem kn_X7_ancestors : Cond.instanceMethod yX7_ancestors ∈ mm_GW := (mm_in (i := 855) (by decide +kernel) (by decide +kernel))
theorem kc_X7_comparisons : Cond.code yX7_comparisons cX7_comparisons 2 (some .int) ∈ mm_GW := (mm_in (i := 878) (by decide +kernel) (by decide +kernel))
theorem kn_X7_comparisons : Cond.instanceMethod yX7_comparisons ∈ mm_GW := (mm_in (i := 876) (by decide +kernel) (by decide +kernel))
theorem kc_X7_forget : Cond.code yX7_forget cX7_forget 2 (some .int) ∈ mm_GW := (mm_in (i := 396) (by decide +kernel) (by decide +kernel))
theorem kn_X7_forget : Cond.instanceMethod yX7_forget ∈ mm_GW := (mm_in (i := 394) (by decide +kernel) (by decide +kernel))
theorem kc_X7_wouldNeed : Cond.code yX7_wouldNeed cX7_wouldNeed 4 (some .int) ∈ mm_GW := (mm_in (i := 885) (by decide +kernel) (by decide +kernel))
theorem kn_X7_wouldNeed : Cond.instanceMethod yX7_wouldNeed ∈ mm_GW := (mm_in (i := 883) (by decide +kernel) (by decide +kernel))
theorem kc_X7_sortingNeeds : Cond.code yX7_sortingNeeds cX7_sortingNeeds 3 (some .int) ∈ mm_GW := (mm_in (i := 894) (by decide +kernel) (by decide +kernel))
theorem kn_X7_sortingNeeds : Cond.instanceMethod yX7_sortingNeeds ∈ mm_GW := (mm_in (i := 892) (by decide +kernel) (by decide +kernel))
theorem kc_X7_fewest : Cond.code yX7_fewest cX7_fewest 3 (some .int) ∈ mm_GW := (mm_in (i := 404) (by decide +kernel) (by decide +kernel))
theorem kn_X7_fewest : Cond.instanceMethod yX7_fewest ∈ mm_GW := (mm_in (i := 402) (by decide +kernel) (by decide +kernel))
theorem kc_X7_type : Cond.code yX7_type cX7_type 2 (some .int) ∈ mm_GW := (mm_in (i := 909) (by decide +kernel) (by decide +kernel))
theorem kn_X7_type : Cond.instanceMethod yX7_type ∈ mm_GW := (mm_in (i := 907) (by decide +kernel) (by decide +kernel))
theorem kc_X7_clearText : Cond.code yX7_clearText cX7_clearText 2 (some .int) ∈ mm_GW := (mm_in (i := 409) (by decide +kernel) (by decide +kernel))
theorem kn_X7_clearText : Cond.instanceMethod yX7_clearText ∈ mm_GW := (mm_in (i := 407) (by decide +kernel) (by decide +kernel))
theorem kc_X7_fault : Cond.code yX7_fault cX7_fault 1 (some .int) ∈ mm_GW := (mm_in (i := 413) (by decide +kernel) (by decide +kernel))
theorem kn_X7_fault : Cond.instanceMethod yX7_fault ∈ mm_GW := (mm_in (i := 411) (by decide +kernel) (by decide +kernel))
theorem kc_X7_run : Cond.code yX7_run cX7_run 3 (some .int) ∈ mm_GW := (mm_in (i := 922) (by decide +kernel) (by decide +kernel))
theorem kn_X7_run : Cond.instanceMethod yX7_run ∈ mm_GW := (mm_in (i := 920) (by decide +kernel) (by decide +kernel))
theorem kc_X7_undo : Cond.code yX7_undo cX7_undo 1 (some .int) ∈ mm_GW := (mm_in (i := 932) (by decide +kernel) (by decide +kernel))
theorem kn_X7_undo : Cond.instanceMethod yX7_undo ∈ mm_GW := (mm_in (i := 930) (by decide +kernel) (by decide +kernel))
theorem kc_X7_checksum : Cond.code yX7_checksum cX7_checksum 5 (some .long) ∈ mm_GW := (mm_in (i := 456) (by decide +kernel) (by decide +kernel))
theorem kn_X7_checksum : Cond.instanceMethod yX7_checksum ∈ mm_GW := (mm_in (i := 454) (by decide +kernel) (by decide +kernel))
theorem kc_X7_requireKey : Cond.code yX7_requireKey cX7_requireKey 1 none ∈ mm_GW := (mm_in (i := 495) (by decide +kernel) (by decide +kernel))
theorem ks_X7_requireKey : Cond.static yX7_requireKey ∈ mm_GW := (mm_in (i := 494) (by decide +kernel) (by decide +kernel))
theorem kc_X7_requireQueue : Cond.code yX7_requireQueue cX7_requireQueue 1 none ∈ mm_GW := (mm_in (i := 786) (by decide +kernel) (by decide +kernel))
theorem ks_X7_requireQueue : Cond.static yX7_requireQueue ∈ mm_GW := (mm_in (i := 785) (by decide +kernel) (by decide +kernel))
theorem kc_X7_requireLayout : Cond.code yX7_requireLayout cX7_requireLayout 1 none ∈ mm_GW := (mm_in (i := 811) (by decide +kernel) (by decide +kernel))
theorem ks_X7_requireLayout : Cond.static yX7_requireLayout ∈ mm_GW := (mm_in (i := 810) (by decide +kernel) (by decide +kernel))
theorem kc_X7_requireItem : Cond.code yX7_requireItem cX7_requireItem 2 none ∈ mm_GW := (mm_in (i := 730) (by decide +kernel) (by decide +kernel))
theorem kn_X7_requireItem : Cond.instanceMethod yX7_requireItem ∈ mm_GW := (mm_in (i := 729) (by decide +kernel) (by decide +kernel))
theorem kc_X7_requirePosition : Cond.code yX7_requirePosition cX7_requirePosition 2 none ∈ mm_GW := (mm_in (i := 838) (by decide +kernel) (by decide +kernel))
theorem kn_X7_requirePosition : Cond.instanceMethod yX7_requirePosition ∈ mm_GW := (mm_in (i := 837) (by decide +kernel) (by decide +kernel))
theorem kc_X7_requireItems : Cond.code yX7_requireItems cX7_requireItems 1 none ∈ mm_GW := (mm_in (i := 633) (by decide +kernel) (by decide +kernel))
theorem kn_X7_requireItems : Cond.instanceMethod yX7_requireItems ∈ mm_GW := (mm_in (i := 632) (by decide +kernel) (by decide +kernel))
theorem kc_X7_isKey : Cond.code yX7_isKey cX7_isKey 1 (some .boolean) ∈ mm_GW := (mm_in (i := 498) (by decide +kernel) (by decide +kernel))
theorem ks_X7_isKey : Cond.static yX7_isKey ∈ mm_GW := (mm_in (i := 497) (by decide +kernel) (by decide +kernel))
theorem kc_X8_init : Cond.code yX8_init cX8_init 1 none ∈ mm_GW := (mm_in (i := 942) (by decide +kernel) (by decide +kernel))
theorem kn_X8_init : Cond.instanceMethod yX8_init ∈ mm_GW := (mm_in (i := 941) (by decide +kernel) (by decide +kernel))
theorem kc_X8_thrown : Cond.code yX8_thrown cX8_thrown 1 (some .int) ∈ mm_GW := (mm_in (i := 981) (by decide +kernel) (by decide +kernel))
theorem kn_X8_thrown : Cond.instanceMethod yX8_thrown ∈ mm_GW := (mm_in (i := 979) (by decide +kernel) (by decide +kernel))
theorem kc_X8_refused : Cond.code yX8_refused cX8_refused 2 (some .boolean) ∈ mm_GW := (mm_in (i := 989) (by decide +kernel) (by decide +kernel))
theorem kn_X8_refused : Cond.instanceMethod yX8_refused ∈ mm_GW := (mm_in (i := 988) (by decide +kernel) (by decide +kernel))
theorem kc_X8_within : Cond.code yX8_within cX8_within 3 (some .boolean) ∈ mm_GW := (mm_in (i := 999) (by decide +kernel) (by decide +kernel))
theorem ks_X8_within : Cond.static yX8_within ∈ mm_GW := (mm_in (i := 998) (by decide +kernel) (by decide +kernel))
theorem kc_X8_saves : Cond.code yX8_saves cX8_saves 2 none ∈ mm_GW := (mm_in (i := 1007) (by decide +kernel) (by decide +kernel))
theorem kn_X8_saves : Cond.instanceMethod yX8_saves ∈ mm_GW := (mm_in (i := 1006) (by decide +kernel) (by decide +kernel))
theorem kc_X8_undo : Cond.code yX8_undo cX8_undo 2 (some .int) ∈ mm_GW := (mm_in (i := 985) (by decide +kernel) (by decide +kernel))
theorem kn_X8_undo : Cond.instanceMethod yX8_undo ∈ mm_GW := (mm_in (i := 983) (by decide +kernel) (by decide +kernel))
theorem kc_X8_many : Cond.code yX8_many cX8_many 1 (some .int) ∈ mm_GW := (mm_in (i := 1003) (by decide +kernel) (by decide +kernel))
theorem kn_X8_many : Cond.instanceMethod yX8_many ∈ mm_GW := (mm_in (i := 1002) (by decide +kernel) (by decide +kernel))
theorem kc_X8_item : Cond.code yX8_item cX8_item 3 (some .int) ∈ mm_GW := (mm_in (i := 1035) (by decide +kernel) (by decide +kernel))
theorem kn_X8_item : Cond.instanceMethod yX8_item ∈ mm_GW := (mm_in (i := 1034) (by decide +kernel) (by decide +kernel))
theorem kc_X8_lays : Cond.code yX8_lays cX8_lays 4 none ∈ mm_GW := (mm_in (i := 1023) (by decide +kernel) (by decide +kernel))
theorem kn_X8_lays : Cond.instanceMethod yX8_lays ∈ mm_GW := (mm_in (i := 1022) (by decide +kernel) (by decide +kernel))
theorem kc_X8_isItem : Cond.code yX8_isItem cX8_isItem 2 (some .boolean) ∈ mm_GW := (mm_in (i := 1149) (by decide +kernel) (by decide +kernel))
theorem kn_X8_isItem : Cond.instanceMethod yX8_isItem ∈ mm_GW := (mm_in (i := 1148) (by decide +kernel) (by decide +kernel))
theorem kc_X8_isLayout : Cond.code yX8_isLayout cX8_isLayout 1 (some .boolean) ∈ mm_GW := (mm_in (i := 1237) (by decide +kernel) (by decide +kernel))
theorem ks_X8_isLayout : Cond.static yX8_isLayout ∈ mm_GW := (mm_in (i := 1236) (by decide +kernel) (by decide +kernel))
theorem kc_X8_isLess : Cond.code yX8_isLess cX8_isLess 3 (some .boolean) ∈ mm_GW := (mm_in (i := 1039) (by decide +kernel) (by decide +kernel))
theorem kn_X8_isLess : Cond.instanceMethod yX8_isLess ∈ mm_GW := (mm_in (i := 1038) (by decide +kernel) (by decide +kernel))
theorem kc_X8_less : Cond.code yX8_less cX8_less 4 (some .boolean) ∈ mm_GW := (mm_in (i := 1031) (by decide +kernel) (by decide +kernel))
theorem kn_X8_less : Cond.instanceMethod yX8_less ∈ mm_GW := (mm_in (i := 1030) (by decide +kernel) (by decide +kernel))
theorem kc_X8_exchange : Cond.code yX8_exchange cX8_exchange 5 none ∈ mm_GW := (mm_in (i := 1043) (by decide +kernel) (by decide +kernel))
theorem kn_X8_exchange : Cond.instanceMethod yX8_exchange ∈ mm_GW := (mm_in (i := 1042) (by decide +kernel) (by decide +kernel))
theorem kc_X8_placeOf : Cond.code yX8_placeOf cX8_placeOf 4 (some .int) ∈ mm_GW := (mm_in (i := 1093) (by decide +kernel) (by decide +kernel))
theorem kn_X8_placeOf : Cond.instanceMethod yX8_placeOf ∈ mm_GW := (mm_in (i := 1092) (by decide +kernel) (by decide +kernel))
theorem kc_X8_closes : Cond.code yX8_closes cX8_closes 4 (some .int) ∈ mm_GW := (mm_in (i := 1097) (by decide +kernel) (by decide +kernel))
theorem kn_X8_closes : Cond.instanceMethod yX8_closes ∈ mm_GW := (mm_in (i := 1096) (by decide +kernel) (by decide +kernel))
theorem kc_X8_laysAll : Cond.code yX8_laysAll cX8_laysAll 4 none ∈ mm_GW := (mm_in (i := 1173) (by decide +kernel) (by decide +kernel))
theorem kn_X8_laysAll : Cond.instanceMethod yX8_laysAll ∈ mm_GW := (mm_in (i := 1172) (by decide +kernel) (by decide +kernel))
theorem kc_X8_topOf : Cond.code yX8_topOf cX8_topOf 3 (some .int) ∈ mm_GW := (mm_in (i := 1113) (by decide +kernel) (by decide +kernel))
theorem kn_X8_topOf : Cond.instanceMethod yX8_topOf ∈ mm_GW := (mm_in (i := 1112) (by decide +kernel) (by decide +kernel))
theorem kc_X8_orders : Cond.code yX8_orders cX8_orders 3 none ∈ mm_GW := (mm_in (i := 1109) (by decide +kernel) (by decide +kernel))
theorem kn_X8_orders : Cond.instanceMethod yX8_orders ∈ mm_GW := (mm_in (i := 1108) (by decide +kernel) (by decide +kernel))
theorem kc_X8_risesLow : Cond.code yX8_risesLow cX8_risesLow 3 none ∈ mm_GW := (mm_in (i := 1047) (by decide +kernel) (by decide +kernel))
theorem kn_X8_risesLow : Cond.instanceMethod yX8_risesLow ∈ mm_GW := (mm_in (i := 1046) (by decide +kernel) (by decide +kernel))
theorem kc_X8_risesHigh : Cond.code yX8_risesHigh cX8_risesHigh 6 none ∈ mm_GW := (mm_in (i := 1051) (by decide +kernel) (by decide +kernel))
theorem kn_X8_risesHigh : Cond.instanceMethod yX8_risesHigh ∈ mm_GW := (mm_in (i := 1050) (by decide +kernel) (by decide +kernel))
theorem kc_X8_sinksLow : Cond.code yX8_sinksLow cX8_sinksLow 6 none ∈ mm_GW := (mm_in (i := 1117) (by decide +kernel) (by decide +kernel))
theorem kn_X8_sinksLow : Cond.instanceMethod yX8_sinksLow ∈ mm_GW := (mm_in (i := 1116) (by decide +kernel) (by decide +kernel))
theorem kc_X8_sinksHigh : Cond.code yX8_sinksHigh cX8_sinksHigh 6 none ∈ mm_GW := (mm_in (i := 1121) (by decide +kernel) (by decide +kernel))
theorem kn_X8_sinksHigh : Cond.instanceMethod yX8_sinksHigh ∈ mm_GW := (mm_in (i := 1120) (by decide +kernel) (by decide +kernel))
theorem kc_X8_settles : Cond.code yX8_settles cX8_settles 3 none ∈ mm_GW := (mm_in (i := 1105) (by decide +kernel) (by decide +kernel))
theorem kn_X8_settles : Cond.instanceMethod yX8_settles ∈ mm_GW := (mm_in (i := 1104) (by decide +kernel) (by decide +kernel))
theorem kc_X8_comesFirst : Cond.code yX8_comesFirst cX8_comesFirst 4 none ∈ mm_GW := (mm_in (i := 1027) (by decide +kernel) (by decide +kernel))
theorem kn_X8_comesFirst : Cond.instanceMethod yX8_comesFirst ∈ mm_GW := (mm_in (i := 1026) (by decide +kernel) (by decide +kernel))
theorem kc_X8_levelOf : Cond.code yX8_levelOf cX8_levelOf 3 (some .int) ∈ mm_GW := (mm_in (i := 1061) (by decide +kernel) (by decide +kernel))
theorem ks_X8_levelOf : Cond.static yX8_levelOf ∈ mm_GW := (mm_in (i := 1060) (by decide +kernel) (by decide +kernel))
theorem kc_X8_leads : Cond.code yX8_leads cX8_leads 4 (some .boolean) ∈ mm_GW := (mm_in (i := 1065) (by decide +kernel) (by decide +kernel))
theorem kn_X8_leads : Cond.instanceMethod yX8_leads ∈ mm_GW := (mm_in (i := 1064) (by decide +kernel) (by decide +kernel))
theorem kc_X8_isLow : Cond.code yX8_isLow cX8_isLow 1 (some .boolean) ∈ mm_GW := (mm_in (i := 1058) (by decide +kernel) (by decide +kernel))
theorem ks_X8_isLow : Cond.static yX8_isLow ∈ mm_GW := (mm_in (i := 1057) (by decide +kernel) (by decide +kernel))
theorem kc_X8_rises : Cond.code yX8_rises cX8_rises 4 none ∈ mm_GW := (mm_in (i := 1069) (by decide +kernel) (by decide +kernel))
theorem kn_X8_rises : Cond.instanceMethod yX8_rises ∈ mm_GW := (mm_in (i := 1068) (by decide +kernel) (by decide +kernel))
theorem kc_X8_sinks : Cond.code yX8_sinks cX8_sinks 9 none ∈ mm_GW := (mm_in (i := 1125) (by decide +kernel) (by decide +kernel))
theorem kn_X8_sinks : Cond.instanceMethod yX8_sinks ∈ mm_GW := (mm_in (i := 1124) (by decide +kernel) (by decide +kernel))
theorem kc_X8_enters : Cond.code yX8_enters cX8_enters 3 none ∈ mm_GW := (mm_in (i := 1055) (by decide +kernel) (by decide +kernel))
theorem kn_X8_enters : Cond.instanceMethod yX8_enters ∈ mm_GW := (mm_in (i := 1054) (by decide +kernel) (by decide +kernel))
theorem kc_X8_isAhead : Cond.code yX8_isAhead cX8_isAhead 4 (some .boolean) ∈ mm_GW := (mm_in (i := 1077) (by decide +kernel) (by decide +kernel))
theorem kn_X8_isAhead : Cond.instanceMethod yX8_isAhead ∈ mm_GW := (mm_in (i := 1076) (by decide +kernel) (by decide +kernel))
theorem kc_X8_up : Cond.code yX8_up cX8_up 4 none ∈ mm_GW := (mm_in (i := 1073) (by decide +kernel) (by decide +kernel))
theorem kn_X8_up : Cond.instanceMethod yX8_up ∈ mm_GW := (mm_in (i := 1072) (by decide +kernel) (by decide +kernel))
theorem kc_X8_down : Cond.code yX8_down cX8_down 7 none ∈ mm_GW := (mm_in (i := 1129) (by decide +kernel) (by decide +kernel))
theorem kn_X8_down : Cond.instanceMethod yX8_down ∈ mm_GW := (mm_in (i := 1128) (by decide +kernel) (by decide +kernel))
theorem kc_X8_enters_ : Cond.code yX8_enters_ cX8_enters_ 5 none ∈ mm_GW := (mm_in (i := 1019) (by decide +kernel) (by decide +kernel))
theorem kn_X8_enters_ : Cond.instanceMethod yX8_enters_ ∈ mm_GW := (mm_in (i := 1018) (by decide +kernel) (by decide +kernel))
theorem kc_X8_moves : Cond.code yX8_moves cX8_moves 4 none ∈ mm_GW := (mm_in (i := 1101) (by decide +kernel) (by decide +kernel))
theorem kn_X8_moves : Cond.instanceMethod yX8_moves ∈ mm_GW := (mm_in (i := 1100) (by decide +kernel) (by decide +kernel))
theorem kc_X8_goes : Cond.code yX8_goes cX8_goes 6 none ∈ mm_GW := (mm_in (i := 1089) (by decide +kernel) (by decide +kernel))
theorem kn_X8_goes : Cond.instanceMethod yX8_goes ∈ mm_GW := (mm_in (i := 1088) (by decide +kernel) (by decide +kernel))
theorem kc_X8_builds : Cond.code yX8_builds cX8_builds 5 none ∈ mm_GW := (mm_in (i := 1169) (by decide +kernel) (by decide +kernel))
theorem kn_X8_builds : Cond.instanceMethod yX8_builds ∈ mm_GW := (mm_in (i := 1168) (by decide +kernel) (by decide +kernel))
theorem kc_X8_buildsAt : Cond.code yX8_buildsAt cX8_buildsAt 4 none ∈ mm_GW := (mm_in (i := 1177) (by decide +kernel) (by decide +kernel))
theorem kn_X8_buildsAt : Cond.instanceMethod yX8_buildsAt ∈ mm_GW := (mm_in (i := 1176) (by decide +kernel) (by decide +kernel))
theorem kc_X8_counts : Cond.code yX8_counts cX8_counts 1 (some .int) ∈ mm_GW := (mm_in (i := 1165) (by decide +kernel) (by decide +kernel))
theorem kn_X8_counts : Cond.instanceMethod yX8_counts ∈ mm_GW := (mm_in (i := 1164) (by decide +kernel) (by decide +kernel))
theorem kc_X8_freeHandle : Cond.code yX8_freeHandle cX8_freeHandle 2 (some .int) ∈ mm_GW := (mm_in (i := 1015) (by decide +kernel) (by decide +kernel))
theorem kn_X8_freeHandle : Cond.instanceMethod yX8_freeHandle ∈ mm_GW := (mm_in (i := 1014) (by decide +kernel) (by decide +kernel))
theorem kc_X8_inserts : Cond.code yX8_inserts cX8_inserts 4 (some .int) ∈ mm_GW := (mm_in (i := 1011) (by decide +kernel) (by decide +kernel))
theorem kn_X8_inserts : Cond.instanceMethod yX8_inserts ∈ mm_GW := (mm_in (i := 1010) (by decide +kernel) (by decide +kernel))
theorem kc_X8_isKey : Cond.code yX8_isKey cX8_isKey 1 (some .boolean) ∈ mm_GW := (mm_in (i := 996) (by decide +kernel) (by decide +kernel))
theorem ks_X8_isKey : Cond.static yX8_isKey ∈ mm_GW := (mm_in (i := 995) (by decide +kernel) (by decide +kernel))
theorem kc_X8_insert : Cond.code yX8_insert cX8_insert 2 (some .int) ∈ mm_GW := (mm_in (i := 993) (by decide +kernel) (by decide +kernel))
theorem kn_X8_insert : Cond.instanceMethod yX8_insert ∈ mm_GW := (mm_in (i := 991) (by decide +kernel) (by decide +kernel))
theorem kc_X8_leastOf : Cond.code yX8_leastOf cX8_leastOf 2 (some .int) ∈ mm_GW := (mm_in (i := 1085) (by decide +kernel) (by decide +kernel))
theorem kn_X8_leastOf : Cond.instanceMethod yX8_leastOf ∈ mm_GW := (mm_in (i := 1084) (by decide +kernel) (by decide +kernel))
theorem kc_X8_greatestOf : Cond.code yX8_greatestOf cX8_greatestOf 3 (some .int) ∈ mm_GW := (mm_in (i := 1141) (by decide +kernel) (by decide +kernel))
theorem kn_X8_greatestOf : Cond.instanceMethod yX8_greatestOf ∈ mm_GW := (mm_in (i := 1140) (by decide +kernel) (by decide +kernel))
theorem kc_X8_takeLeast : Cond.code yX8_takeLeast cX8_takeLeast 2 (some .int) ∈ mm_GW := (mm_in (i := 1081) (by decide +kernel) (by decide +kernel))
theorem kn_X8_takeLeast : Cond.instanceMethod yX8_takeLeast ∈ mm_GW := (mm_in (i := 1079) (by decide +kernel) (by decide +kernel))
theorem kc_X8_takesGreatest : Cond.code yX8_takesGreatest cX8_takesGreatest 3 (some .int) ∈ mm_GW := (mm_in (i := 1137) (by decide +kernel) (by decide +kernel))
theorem kn_X8_takesGreatest : Cond.instanceMethod yX8_takesGreatest ∈ mm_GW := (mm_in (i := 1136) (by decide +kernel) (by decide +kernel))
theorem kc_X8_takeGreatest : Cond.code yX8_takeGreatest cX8_takeGreatest 1 (some .int) ∈ mm_GW := (mm_in (i := 1133) (by decide +kernel) (by decide +kernel))
theorem kn_X8_takeGreatest : Cond.instanceMethod yX8_takeGreatest ∈ mm_GW := (mm_in (i := 1131) (by decide +kernel) (by decide +kernel))
theorem kc_X8_remove : Cond.code yX8_remove cX8_remove 3 (some .int) ∈ mm_GW := (mm_in (i := 1145) (by decide +kernel) (by decide +kernel))
theorem kn_X8_remove : Cond.instanceMethod yX8_remove ∈ mm_GW := (mm_in (i := 1143) (by decide +kernel) (by decide +kernel))
theorem kc_X8_changes : Cond.code yX8_changes cX8_changes 4 none ∈ mm_GW := (mm_in (i := 1157) (by decide +kernel) (by decide +kernel))
theorem kn_X8_changes : Cond.instanceMethod yX8_changes ∈ mm_GW := (mm_in (i := 1156) (by decide +kernel) (by decide +kernel))
theorem kc_X8_change : Cond.code yX8_change cX8_change 4 (some .int) ∈ mm_GW := (mm_in (i := 1153) (by decide +kernel) (by decide +kernel))
theorem kn_X8_change : Cond.instanceMethod yX8_change ∈ mm_GW := (mm_in (i := 1151) (by decide +kernel) (by decide +kernel))
theorem kc_X8_build : Cond.code yX8_build cX8_build 2 (some .int) ∈ mm_GW := (mm_in (i := 1161) (by decide +kernel) (by decide +kernel))
theorem kn_X8_build : Cond.instanceMethod yX8_build ∈ mm_GW := (mm_in (i := 1159) (by decide +kernel) (by decide +kernel))
theorem kc_X8_clear : Cond.code yX8_clear cX8_clear 3 (some .int) ∈ mm_GW := (mm_in (i := 1181) (by decide +kernel) (by decide +kernel))
theorem kn_X8_clear : Cond.instanceMethod yX8_clear ∈ mm_GW := (mm_in (i := 1179) (by decide +kernel) (by decide +kernel))
theorem kc_X8_size : Cond.code yX8_size cX8_size 1 (some .int) ∈ mm_GW := (mm_in (i := 1185) (by decide +kernel) (by decide +kernel))
theorem kn_X8_size : Cond.instanceMethod yX8_size ∈ mm_GW := (mm_in (i := 1183) (by decide +kernel) (by decide +kernel))
theorem kc_X8_handleSet : Cond.code yX8_handleSet cX8_handleSet 3 (some .int) ∈ mm_GW := (mm_in (i := 1193) (by decide +kernel) (by decide +kernel))
theorem kn_X8_handleSet : Cond.instanceMethod yX8_handleSet ∈ mm_GW := (mm_in (i := 1192) (by decide +kernel) (by decide +kernel))
theorem kc_X8_handles : Cond.code yX8_handles cX8_handles 1 (some .int) ∈ mm_GW := (mm_in (i := 1189) (by decide +kernel) (by decide +kernel))
theorem kn_X8_handles : Cond.instanceMethod yX8_handles ∈ mm_GW := (mm_in (i := 1187) (by decide +kernel) (by decide +kernel))
theorem kc_X8_key : Cond.code yX8_key cX8_key 2 (some .int) ∈ mm_GW := (mm_in (i := 1197) (by decide +kernel) (by decide +kernel))
theorem kn_X8_key : Cond.instanceMethod yX8_key ∈ mm_GW := (mm_in (i := 1195) (by decide +kernel) (by decide +kernel))
theorem kc_X8_fill : Cond.code yX8_fill cX8_fill 7 (some .int) ∈ mm_GW := (mm_in (i := 1201) (by decide +kernel) (by decide +kernel))
theorem kn_X8_fill : Cond.instanceMethod yX8_fill ∈ mm_GW := (mm_in (i := 1199) (by decide +kernel) (by decide +kernel))
theorem kc_X8_least : Cond.code yX8_least cX8_least 2 (some .int) ∈ mm_GW := (mm_in (i := 1210) (by decide +kernel) (by decide +kernel))
theorem kn_X8_least : Cond.instanceMethod yX8_least ∈ mm_GW := (mm_in (i := 1208) (by decide +kernel) (by decide +kernel))
theorem kc_X8_greatest : Cond.code yX8_greatest cX8_greatest 2 (some .int) ∈ mm_GW := (mm_in (i := 1214) (by decide +kernel) (by decide +kernel))
theorem kn_X8_greatest : Cond.instanceMethod yX8_greatest ∈ mm_GW := (mm_in (i := 1212) (by decide +kernel) (by decide +kernel))
theorem kc_X8_rankOf : Cond.code yX8_rankOf cX8_rankOf 4 (some .int) ∈ mm_GW := (mm_in (i := 1222) (by decide +kernel) (by decide +kernel))
theorem kn_X8_rankOf : Cond.instanceMethod yX8_rankOf ∈ mm_GW := (mm_in (i := 1221) (by decide +kernel) (by decide +kernel))
theorem kc_X8_ranked : Cond.code yX8_ranked cX8_ranked 3 (some .int) ∈ mm_GW := (mm_in (i := 1218) (by decide +kernel) (by decide +kernel))
theorem kn_X8_ranked : Cond.instanceMethod yX8_ranked ∈ mm_GW := (mm_in (i := 1216) (by decide +kernel) (by decide +kernel))
theorem kc_X8_rank : Cond.code yX8_rank cX8_rank 2 (some .int) ∈ mm_GW := (mm_in (i := 1226) (by decide +kernel) (by decide +kernel))
theorem kn_X8_rank : Cond.instanceMethod yX8_rank ∈ mm_GW := (mm_in (i := 1224) (by decide +kernel) (by decide +kernel))
theorem kc_X8_between : Cond.code yX8_between cX8_between 5 (some .int) ∈ mm_GW := (mm_in (i := 1230) (by decide +kernel) (by decide +kernel))
theorem kn_X8_between : Cond.instanceMethod yX8_between ∈ mm_GW := (mm_in (i := 1228) (by decide +kernel) (by decide +kernel))
theorem kc_X8_at : Cond.code yX8_at cX8_at 3 (some .int) ∈ mm_GW := (mm_in (i := 1234) (by decide +kernel) (by decide +kernel))
theorem kn_X8_at : Cond.instanceMethod yX8_at ∈ mm_GW := (mm_in (i := 1232) (by decide +kernel) (by decide +kernel))
theorem kc_X8_where : Cond.code yX8_where cX8_where 3 (some .int) ∈ mm_GW := (mm_in (i := 1241) (by decide +kernel) (by decide +kernel))
theorem kn_X8_where : Cond.instanceMethod yX8_where ∈ mm_GW := (mm_in (i := 1239) (by decide +kernel) (by decide +kernel))
theorem kc_X8_wrong : Cond.code yX8_wrong cX8_wrong 4 (some .int) ∈ mm_GW := (mm_in (i := 1257) (by decide +kernel) (by decide +kernel))
theorem kn_X8_wrong : Cond.instanceMethod yX8_wrong ∈ mm_GW := (mm_in (i := 1256) (by decide +kernel) (by decide +kernel))
theorem kc_X8_wrongNodes : Cond.code yX8_wrongNodes cX8_wrongNodes 5 (some .int) ∈ mm_GW := (mm_in (i := 1253) (by decide +kernel) (by decide +kernel))
theorem kn_X8_wrongNodes : Cond.instanceMethod yX8_wrongNodes ∈ mm_GW := (mm_in (i := 1252) (by decide +kernel) (by decide +kernel))
theorem kc_X8_wrongLevels : Cond.code yX8_wrongLevels cX8_wrongLevels 4 (some .int) ∈ mm_GW := (mm_in (i := 1261) (by decide +kernel) (by decide +kernel))
theorem kn_X8_wrongLevels : Cond.instanceMethod yX8_wrongLevels ∈ mm_GW := (mm_in (i := 1260) (by decide +kernel) (by decide +kernel))
theorem kc_X8_wrongIn : Cond.code yX8_wrongIn cX8_wrongIn 4 (some .int) ∈ mm_GW := (mm_in (i := 1249) (by decide +kernel) (by decide +kernel))
theorem kn_X8_wrongIn : Cond.instanceMethod yX8_wrongIn ∈ mm_GW := (mm_in (i := 1248) (by decide +kernel) (by decide +kernel))
theorem kc_X8_violations : Cond.code yX8_violations cX8_violations 2 (some .int) ∈ mm_GW := (mm_in (i := 1245) (by decide +kernel) (by decide +kernel))
theorem kn_X8_violations : Cond.instanceMethod yX8_violations ∈ mm_GW := (mm_in (i := 1243) (by decide +kernel) (by decide +kernel))
theorem kc_X8_disturb : Cond.code yX8_disturb cX8_disturb 5 (some .int) ∈ mm_GW := (mm_in (i := 1265) (by decide +kernel) (by decide +kernel))
theorem kn_X8_disturb : Cond.instanceMethod yX8_disturb ∈ mm_GW := (mm_in (i := 1263) (by decide +kernel) (by decide +kernel))
theorem kc_X8_level : Cond.code yX8_level cX8_level 2 (some .int) ∈ mm_GW := (mm_in (i := 1269) (by decide +kernel) (by decide +kernel))
theorem kn_X8_level : Cond.instanceMethod yX8_level ∈ mm_GW := (mm_in (i := 1267) (by decide +kernel) (by decide +kernel))
theorem kc_X8_above : Cond.code yX8_above cX8_above 5 (some .int) ∈ mm_GW := (mm_in (i := 1278) (by decide +kernel) (by decide +kernel))
theorem kn_X8_above : Cond.instanceMethod yX8_above ∈ mm_GW := (mm_in (i := 1277) (by decide +kernel) (by decide +kernel))
theorem kc_X8_ancestors : Cond.code yX8_ancestors cX8_ancestors 5 (some .int) ∈ mm_GW := (mm_in (i := 1274) (by decide +kernel) (by decide +kernel))
theorem kn_X8_ancestors : Cond.instanceMethod yX8_ancestors ∈ mm_GW := (mm_in (i := 1272) (by decide +kernel) (by decide +kernel))
theorem kc_X8_comparisons : Cond.code yX8_comparisons cX8_comparisons 2 (some .int) ∈ mm_GW := (mm_in (i := 1282) (by decide +kernel) (by decide +kernel))
theorem kn_X8_comparisons : Cond.instanceMethod yX8_comparisons ∈ mm_GW := (mm_in (i := 1280) (by decide +kernel) (by decide +kernel))
theorem kc_X8_forget : Cond.code yX8_forget cX8_forget 3 (some .int) ∈ mm_GW := (mm_in (i := 1286) (by decide +kernel) (by decide +kernel))
theorem kn_X8_forget : Cond.instanceMethod yX8_forget ∈ mm_GW := (mm_in (i := 1284) (by decide +kernel) (by decide +kernel))
theorem kc_X8_keeps : Cond.code yX8_keeps cX8_keeps 2 none ∈ mm_GW := (mm_in (i := 1298) (by decide +kernel) (by decide +kernel))
theorem kn_X8_keeps : Cond.instanceMethod yX8_keeps ∈ mm_GW := (mm_in (i := 1297) (by decide +kernel) (by decide +kernel))
theorem kc_X8_returns : Cond.code yX8_returns cX8_returns 2 none ∈ mm_GW := (mm_in (i := 1306) (by decide +kernel) (by decide +kernel))
theorem kn_X8_returns : Cond.instanceMethod yX8_returns ∈ mm_GW := (mm_in (i := 1305) (by decide +kernel) (by decide +kernel))
theorem kc_X8_canDo : Cond.code yX8_canDo cX8_canDo 3 (some .boolean) ∈ mm_GW := (mm_in (i := 1294) (by decide +kernel) (by decide +kernel))
theorem kn_X8_canDo : Cond.instanceMethod yX8_canDo ∈ mm_GW := (mm_in (i := 1293) (by decide +kernel) (by decide +kernel))
theorem kc_X8_does : Cond.code yX8_does cX8_does 5 none ∈ mm_GW := (mm_in (i := 1302) (by decide +kernel) (by decide +kernel))
theorem kn_X8_does : Cond.instanceMethod yX8_does ∈ mm_GW := (mm_in (i := 1301) (by decide +kernel) (by decide +kernel))
theorem kc_X8_wouldNeed : Cond.code yX8_wouldNeed cX8_wouldNeed 5 (some .int) ∈ mm_GW := (mm_in (i := 1290) (by decide +kernel) (by decide +kernel))
theorem kn_X8_wouldNeed : Cond.instanceMethod yX8_wouldNeed ∈ mm_GW := (mm_in (i := 1288) (by decide +kernel) (by decide +kernel))
theorem kc_X8_sortingNeeds : Cond.code yX8_sortingNeeds cX8_sortingNeeds 3 (some .int) ∈ mm_GW := (mm_in (i := 1310) (by decide +kernel) (by decide +kernel))
theorem kn_X8_sortingNeeds : Cond.instanceMethod yX8_sortingNeeds ∈ mm_GW := (mm_in (i := 1308) (by decide +kernel) (by decide +kernel))
theorem kc_X8_fewest : Cond.code yX8_fewest cX8_fewest 3 (some .int) ∈ mm_GW := (mm_in (i := 1314) (by decide +kernel) (by decide +kernel))
theorem kn_X8_fewest : Cond.instanceMethod yX8_fewest ∈ mm_GW := (mm_in (i := 1312) (by decide +kernel) (by decide +kernel))
theorem kc_X8_type : Cond.code yX8_type cX8_type 2 (some .int) ∈ mm_GW := (mm_in (i := 1318) (by decide +kernel) (by decide +kernel))
theorem kn_X8_type : Cond.instanceMethod yX8_type ∈ mm_GW := (mm_in (i := 1316) (by decide +kernel) (by decide +kernel))
theorem kc_X8_clearText : Cond.code yX8_clearText cX8_clearText 2 (some .int) ∈ mm_GW := (mm_in (i := 1322) (by decide +kernel) (by decide +kernel))
theorem kn_X8_clearText : Cond.instanceMethod yX8_clearText ∈ mm_GW := (mm_in (i := 1320) (by decide +kernel) (by decide +kernel))
theorem kc_X8_next : Cond.code yX8_next cX8_next 1 (some .int) ∈ mm_GW := (mm_in (i := 1334) (by decide +kernel) (by decide +kernel))
theorem kn_X8_next : Cond.instanceMethod yX8_next ∈ mm_GW := (mm_in (i := 1333) (by decide +kernel) (by decide +kernel))
theorem kc_X8_fails : Cond.code yX8_fails cX8_fails 1 none ∈ mm_GW := (mm_in (i := 1338) (by decide +kernel) (by decide +kernel))
theorem kn_X8_fails : Cond.instanceMethod yX8_fails ∈ mm_GW := (mm_in (i := 1337) (by decide +kernel) (by decide +kernel))
theorem kc_X8_takes : Cond.code yX8_takes cX8_takes 2 none ∈ mm_GW := (mm_in (i := 1346) (by decide +kernel) (by decide +kernel))
theorem kn_X8_takes : Cond.instanceMethod yX8_takes ∈ mm_GW := (mm_in (i := 1345) (by decide +kernel) (by decide +kernel))
theorem kc_X8_number : Cond.code yX8_number cX8_number 6 (some .int) ∈ mm_GW := (mm_in (i := 1342) (by decide +kernel) (by decide +kernel))
theorem kn_X8_number : Cond.instanceMethod yX8_number ∈ mm_GW := (mm_in (i := 1341) (by decide +kernel) (by decide +kernel))
theorem kc_X8_reads : Cond.code yX8_reads cX8_reads 6 (some .int) ∈ mm_GW := (mm_in (i := 1330) (by decide +kernel) (by decide +kernel))
theorem kn_X8_reads : Cond.instanceMethod yX8_reads ∈ mm_GW := (mm_in (i := 1329) (by decide +kernel) (by decide +kernel))
theorem kc_X8_isDone : Cond.code yX8_isDone cX8_isDone 5 (some .boolean) ∈ mm_GW := (mm_in (i := 1350) (by decide +kernel) (by decide +kernel))
theorem kn_X8_isDone : Cond.instanceMethod yX8_isDone ∈ mm_GW := (mm_in (i := 1349) (by decide +kernel) (by decide +kernel))
theorem kc_X8_fault : Cond.code yX8_fault cX8_fault 1 (some .int) ∈ mm_GW := (mm_in (i := 1326) (by decide +kernel) (by decide +kernel))
theorem kn_X8_fault : Cond.instanceMethod yX8_fault ∈ mm_GW := (mm_in (i := 1324) (by decide +kernel) (by decide +kernel))
theorem kc_X8_run : Cond.code yX8_run cX8_run 2 (some .int) ∈ mm_GW := (mm_in (i := 1354) (by decide +kernel) (by decide +kernel))
theorem kn_X8_run : Cond.instanceMethod yX8_run ∈ mm_GW := (mm_in (i := 1352) (by decide +kernel) (by decide +kernel))
theorem kc_X8_mix : Cond.code yX8_mix cX8_mix 3 none ∈ mm_GW := (mm_in (i := 1363) (by decide +kernel) (by decide +kernel))
theorem kn_X8_mix : Cond.instanceMethod yX8_mix ∈ mm_GW := (mm_in (i := 1362) (by decide +kernel) (by decide +kernel))
theorem kc_X8_checksum : Cond.code yX8_checksum cX8_checksum 3 (some .long) ∈ mm_GW := (mm_in (i := 1358) (by decide +kernel) (by decide +kernel))
theorem kn_X8_checksum : Cond.instanceMethod yX8_checksum ∈ mm_GW := (mm_in (i := 1356) (by decide +kernel) (by decide +kernel))
theorem kc_J6_bitCount_0f7a4 : Cond.code yJ6_bitCount_0f7a4 cJ6_bitCount_0f7a4 1 (some .int) ∈ mm_GW := (mm_in (i := 868) (by decide +kernel) (by decide +kernel))
theorem ks_J6_bitCount_0f7a4 : Cond.static yJ6_bitCount_0f7a4 ∈ mm_GW := (mm_in (i := 867) (by decide +kernel) (by decide +kernel))
theorem kc_J9_min_7cf53 : Cond.code yJ9_min_7cf53 cJ9_min_7cf53 2 (some .int) ∈ mm_GW := (mm_in (i := 198) (by decide +kernel) (by decide +kernel))
theorem ks_J9_min_7cf53 : Cond.static yJ9_min_7cf53 ∈ mm_GW := (mm_in (i := 197) (by decide +kernel) (by decide +kernel))
theorem kc_L_insert : Cond.codeWith yL_insert cL_insert 4 (some .int) [(0, 9, 12, 13), (0, 9, 15, 15)] ∈ mm_GW := (mm_in (i := 486) (by decide +kernel) (by decide +kernel))
theorem ks_L_insert : Cond.static yL_insert ∈ mm_GW := (mm_in (i := 485) (by decide +kernel) (by decide +kernel))
theorem kc_L_takeLeast : Cond.codeWith yL_takeLeast cL_takeLeast 3 (some .int) [(0, 8, 11, 15)] ∈ mm_GW := (mm_in (i := 625) (by decide +kernel) (by decide +kernel))
theorem ks_L_takeLeast : Cond.static yL_takeLeast ∈ mm_GW := (mm_in (i := 624) (by decide +kernel) (by decide +kernel))
theorem kc_L_takeGreatest : Cond.codeWith yL_takeGreatest cL_takeGreatest 3 (some .int) [(0, 8, 11, 15)] ∈ mm_GW := (mm_in (i := 713) (by decide +kernel) (by decide +kernel))
theorem ks_L_takeGreatest : Cond.static yL_takeGreatest ∈ mm_GW := (mm_in (i := 712) (by decide +kernel) (by decide +kernel))
theorem kc_L_remove : Cond.codeWith yL_remove cL_remove 4 (some .int) [(0, 9, 12, 27)] ∈ mm_GW := (mm_in (i := 721) (by decide +kernel) (by decide +kernel))
theorem ks_L_remove : Cond.static yL_remove ∈ mm_GW := (mm_in (i := 720) (by decide +kernel) (by decide +kernel))
theorem kc_L_change : Cond.codeWith yL_change cL_change 5 (some .int) [(0, 10, 13, 27), (0, 10, 17, 13)] ∈ mm_GW := (mm_in (i := 750) (by decide +kernel) (by decide +kernel))
theorem ks_L_change : Cond.static yL_change ∈ mm_GW := (mm_in (i := 749) (by decide +kernel) (by decide +kernel))
theorem kc_L_key : Cond.codeWith yL_key cL_key 4 (some .int) [(0, 9, 12, 27)] ∈ mm_GW := (mm_in (i := 758) (by decide +kernel) (by decide +kernel))
theorem ks_L_key : Cond.static yL_key ∈ mm_GW := (mm_in (i := 757) (by decide +kernel) (by decide +kernel))
theorem kc_L_fill : Cond.codeWith yL_fill cL_fill 5 (some .int) [(0, 10, 13, 13), (0, 10, 17, 15)] ∈ mm_GW := (mm_in (i := 765) (by decide +kernel) (by decide +kernel))
theorem ks_L_fill : Cond.static yL_fill ∈ mm_GW := (mm_in (i := 764) (by decide +kernel) (by decide +kernel))
theorem kc_L_least : Cond.codeWith yL_least cL_least 4 (some .int) [(0, 9, 12, 13)] ∈ mm_GW := (mm_in (i := 779) (by decide +kernel) (by decide +kernel))
theorem ks_L_least : Cond.static yL_least ∈ mm_GW := (mm_in (i := 778) (by decide +kernel) (by decide +kernel))
theorem kc_L_greatest : Cond.codeWith yL_greatest cL_greatest 4 (some .int) [(0, 9, 12, 13)] ∈ mm_GW := (mm_in (i := 790) (by decide +kernel) (by decide +kernel))
theorem ks_L_greatest : Cond.static yL_greatest ∈ mm_GW := (mm_in (i := 789) (by decide +kernel) (by decide +kernel))
theorem kc_L_rank : Cond.codeWith yL_rank cL_rank 4 (some .int) [(0, 9, 12, 27)] ∈ mm_GW := (mm_in (i := 797) (by decide +kernel) (by decide +kernel))
theorem ks_L_rank : Cond.static yL_rank ∈ mm_GW := (mm_in (i := 796) (by decide +kernel) (by decide +kernel))
theorem kc_L_at : Cond.codeWith yL_at cL_at 5 (some .int) [(0, 10, 13, 13)] ∈ mm_GW := (mm_in (i := 804) (by decide +kernel) (by decide +kernel))
theorem ks_L_at : Cond.static yL_at ∈ mm_GW := (mm_in (i := 803) (by decide +kernel) (by decide +kernel))
theorem kc_L_where : Cond.codeWith yL_where cL_where 5 (some .int) [(0, 10, 13, 13), (0, 10, 17, 27)] ∈ mm_GW := (mm_in (i := 815) (by decide +kernel) (by decide +kernel))
theorem ks_L_where : Cond.static yL_where ∈ mm_GW := (mm_in (i := 814) (by decide +kernel) (by decide +kernel))
theorem kc_L_violations : Cond.codeWith yL_violations cL_violations 4 (some .int) [(0, 9, 12, 13)] ∈ mm_GW := (mm_in (i := 823) (by decide +kernel) (by decide +kernel))
theorem ks_L_violations : Cond.static yL_violations ∈ mm_GW := (mm_in (i := 822) (by decide +kernel) (by decide +kernel))
theorem kc_L_disturb : Cond.codeWith yL_disturb cL_disturb 6 (some .int) [(0, 12, 15, 13), (0, 12, 19, 27)] ∈ mm_GW := (mm_in (i := 830) (by decide +kernel) (by decide +kernel))
theorem ks_L_disturb : Cond.static yL_disturb ∈ mm_GW := (mm_in (i := 829) (by decide +kernel) (by decide +kernel))
theorem kc_L_level : Cond.codeWith yL_level cL_level 4 (some .int) [(0, 9, 12, 13)] ∈ mm_GW := (mm_in (i := 843) (by decide +kernel) (by decide +kernel))
theorem ks_L_level : Cond.static yL_level ∈ mm_GW := (mm_in (i := 842) (by decide +kernel) (by decide +kernel))
theorem kc_L_ancestors : Cond.codeWith yL_ancestors cL_ancestors 4 (some .int) [(0, 9, 12, 27)] ∈ mm_GW := (mm_in (i := 853) (by decide +kernel) (by decide +kernel))
theorem ks_L_ancestors : Cond.static yL_ancestors ∈ mm_GW := (mm_in (i := 852) (by decide +kernel) (by decide +kernel))
theorem kc_L_comparisons : Cond.codeWith yL_comparisons cL_comparisons 4 (some .int) [(0, 9, 12, 13)] ∈ mm_GW := (mm_in (i := 874) (by decide +kernel) (by decide +kernel))
theorem ks_L_comparisons : Cond.static yL_comparisons ∈ mm_GW := (mm_in (i := 873) (by decide +kernel) (by decide +kernel))
theorem kc_L_wouldNeed : Cond.codeWith yL_wouldNeed cL_wouldNeed 6 (some .int) [(0, 12, 15, 13)] ∈ mm_GW := (mm_in (i := 881) (by decide +kernel) (by decide +kernel))
theorem ks_L_wouldNeed : Cond.static yL_wouldNeed ∈ mm_GW := (mm_in (i := 880) (by decide +kernel) (by decide +kernel))
theorem kc_L_sortingNeeds : Cond.codeWith yL_sortingNeeds cL_sortingNeeds 4 (some .int) [(0, 9, 12, 13)] ∈ mm_GW := (mm_in (i := 890) (by decide +kernel) (by decide +kernel))
theorem ks_L_sortingNeeds : Cond.static yL_sortingNeeds ∈ mm_GW := (mm_in (i := 889) (by decide +kernel) (by decide +kernel))
theorem kc_L_type : Cond.codeWith yL_type cL_type 4 (some .int) [(0, 9, 12, 13), (0, 9, 15, 15)] ∈ mm_GW := (mm_in (i := 905) (by decide +kernel) (by decide +kernel))
theorem ks_L_type : Cond.static yL_type ∈ mm_GW := (mm_in (i := 904) (by decide +kernel) (by decide +kernel))
theorem kc_L_run : Cond.codeWith yL_run cL_run 3 (some .int) [(0, 8, 11, 13)] ∈ mm_GW := (mm_in (i := 918) (by decide +kernel) (by decide +kernel))
theorem ks_L_run : Cond.static yL_run ∈ mm_GW := (mm_in (i := 917) (by decide +kernel) (by decide +kernel))
theorem kc_L_undo : Cond.codeWith yL_undo cL_undo 3 (some .int) [(0, 8, 11, 15)] ∈ mm_GW := (mm_in (i := 928) (by decide +kernel) (by decide +kernel))
theorem ks_L_undo : Cond.static yL_undo ∈ mm_GW := (mm_in (i := 927) (by decide +kernel) (by decide +kernel))
theorem kn_object : Cond.instanceMethod Lib.objectInit ∈ mm_GW := (mm_in (i := 25) (by decide +kernel) (by decide +kernel))
theorem kc_object : Cond.code Lib.objectInit ⟨#[0xb1]⟩ 1 none ∈ mm_GW := (mm_in (i := 26) (by decide +kernel) (by decide +kernel))
theorem kf_X3_9 : Cond.fieldLink RX3 9 "TwoEndQueues$Layout" "items" "[I" ∈ mm_GW := (mm_in (i := 42) (by decide +kernel) (by decide +kernel))
theorem f_X3_9_0 : mm_Fld RX3 9 0 0 := ⟨RX0, TX0, 4, "TwoEndQueues$Layout", rfl, by decide, kw_X0, kf_X3_9, Or.inl rfl⟩
theorem p_X3_9_0 : mm_Put RX3 9 0 0 (.array .int) true := ⟨RX0, TX0, 4, "TwoEndQueues$Layout", tyX0, rfl, by decide, kw_X0, kf_X3_9, Or.inl rfl, tyX0_ok, nmX0, rfl, by decide +kernel, fun _ => rfl⟩
theorem f_X3_9_2 : mm_Fld RX3 9 2 0 := ⟨RX2, TX2, 3, "TwoEndQueues$Layout", rfl, by decide, kw_X2, kf_X3_9, Or.inl rfl⟩
theorem p_X3_9_2 : mm_Put RX3 9 2 0 (.array .int) true := ⟨RX2, TX2, 3, "TwoEndQueues$Layout", tyX2, rfl, by decide, kw_X2, kf_X3_9, Or.inl rfl, tyX2_ok, nmX2, rfl, by decide +kernel, fun _ => rfl⟩
theorem f_X3_9_3 : mm_Fld RX3 9 3 0 := ⟨RX4, TX4, 3, "TwoEndQueues$Layout", rfl, by decide, kw_X4, kf_X3_9, Or.inl rfl⟩
theorem p_X3_9_3 : mm_Put RX3 9 3 0 (.array .int) true := ⟨RX4, TX4, 3, "TwoEndQueues$Layout", tyX4, rfl, by decide, kw_X4, kf_X3_9, Or.inl rfl, tyX4_ok, nmX4, rfl, by decide +kernel, fun _ => rfl⟩
theorem f_X3_9 {ci : Nat} (h : ci = 0 ∨ ci = 2 ∨ ci = 3) : mm_Fld RX3 9 ci 0 := by rcases h with rfl | rfl | rfl <;> first | exact f_X3_9_0 | exact f_X3_9_2 | exact f_X3_9_3
theorem p_X3_9 {ci : Nat} (h : ci = 0 ∨ ci = 2 ∨ ci = 3) : mm_Put RX3 9 ci 0 (.array .int) true := by rcases h with rfl | rfl | rfl <;> first | exact p_X3_9_0 | exact p_X3_9_2 | exact p_X3_9_3
theorem kf_X5_37 : Cond.fieldLink RX5 37 "TwoEndQueues$IntervalLayout" "length" "I" ∈ mm_GW := (mm_in (i := 43) (by decide +kernel) (by decide +kernel))
theorem f_X5_37_2 : mm_Fld RX5 37 2 1 := ⟨RX2, TX2, 3, "TwoEndQueues$IntervalLayout", rfl, by decide, kw_X2, kf_X5_37, Or.inr (mm_in (i := 44) (by decide +kernel) (by decide +kernel))⟩
theorem p_X5_37_2 : mm_Put RX5 37 2 1 .int false := ⟨RX2, TX2, 3, "TwoEndQueues$IntervalLayout", tyX2, rfl, by decide, kw_X2, kf_X5_37, Or.inr (mm_in (i := 44) (by decide +kernel) (by decide +kernel)), tyX2_ok, nmX2, rfl, by decide +kernel, fun h => by cases h⟩
theorem kf_X0_25 : Cond.fieldLink RX0 25 "TwoEndQueues$HeapLayout" "length" "I" ∈ mm_GW := (mm_in (i := 45) (by decide +kernel) (by decide +kernel))
theorem f_X0_25_0 : mm_Fld RX0 25 0 1 := ⟨RX0, TX0, 4, "TwoEndQueues$HeapLayout", rfl, by decide, kw_X0, kf_X0_25, Or.inr (mm_in (i := 46) (by decide +kernel) (by decide +kernel))⟩
theorem p_X0_25_0 : mm_Put RX0 25 0 1 .int false := ⟨RX0, TX0, 4, "TwoEndQueues$HeapLayout", tyX0, rfl, by decide, kw_X0, kf_X0_25, Or.inr (mm_in (i := 46) (by decide +kernel) (by decide +kernel)), tyX0_ok, nmX0, rfl, by decide +kernel, fun h => by cases h⟩
theorem kf_X4_15 : Cond.fieldLink RX4 15 "TwoEndQueues$LevelLayout" "length" "I" ∈ mm_GW := (mm_in (i := 47) (by decide +kernel) (by decide +kernel))
theorem f_X4_15_3 : mm_Fld RX4 15 3 1 := ⟨RX4, TX4, 3, "TwoEndQueues$LevelLayout", rfl, by decide, kw_X4, kf_X4_15, Or.inr (mm_in (i := 48) (by decide +kernel) (by decide +kernel))⟩
theorem p_X4_15_3 : mm_Put RX4 15 3 1 .int false := ⟨RX4, TX4, 3, "TwoEndQueues$LevelLayout", tyX4, rfl, by decide, kw_X4, kf_X4_15, Or.inr (mm_in (i := 48) (by decide +kernel) (by decide +kernel)), tyX4_ok, nmX4, rfl, by decide +kernel, fun h => by cases h⟩
theorem kf_X2_15 : Cond.fieldLink RX2 15 "TwoEndQueues$IntervalLayout" "length" "I" ∈ mm_GW := (mm_in (i := 49) (by decide +kernel) (by decide +kernel))
theorem f_X2_15_2 : mm_Fld RX2 15 2 1 := ⟨RX2, TX2, 3, "TwoEndQueues$IntervalLayout", rfl, by decide, kw_X2, kf_X2_15, Or.inr (mm_in (i := 44) (by decide +kernel) (by decide +kernel))⟩
theorem p_X2_15_2 : mm_Put RX2 15 2 1 .int false := ⟨RX2, TX2, 3, "TwoEndQueues$IntervalLayout", tyX2, rfl, by decide, kw_X2, kf_X2_15, Or.inr (mm_in (i := 44) (by decide +kernel) (by decide +kernel)), tyX2_ok, nmX2, rfl, by decide +kernel, fun h => by cases h⟩
theorem kf_X3_15 : Cond.fieldLink RX3 15 "TwoEndQueues$Layout" "length" "I" ∈ mm_GW := (mm_in (i := 50) (by decide +kernel) (by decide +kernel))
theorem f_X3_15_0 : mm_Fld RX3 15 0 1 := ⟨RX0, TX0, 4, "TwoEndQueues$Layout", rfl, by decide, kw_X0, kf_X3_15, Or.inl rfl⟩
theorem p_X3_15_0 : mm_Put RX3 15 0 1 .int false := ⟨RX0, TX0, 4, "TwoEndQueues$Layout", tyX0, rfl, by decide, kw_X0, kf_X3_15, Or.inl rfl, tyX0_ok, nmX0, rfl, by decide +kernel, fun h => by cases h⟩
theorem f_X3_15_2 : mm_Fld RX3 15 2 1 := ⟨RX2, TX2, 3, "TwoEndQueues$Layout", rfl, by decide, kw_X2, kf_X3_15, Or.inl rfl⟩
theorem p_X3_15_2 : mm_Put RX3 15 2 1 .int false := ⟨RX2, TX2, 3, "TwoEndQueues$Layout", tyX2, rfl, by decide, kw_X2, kf_X3_15, Or.inl rfl, tyX2_ok, nmX2, rfl, by decide +kernel, fun h => by cases h⟩
theorem f_X3_15_3 : mm_Fld RX3 15 3 1 := ⟨RX4, TX4, 3, "TwoEndQueues$Layout", rfl, by decide, kw_X4, kf_X3_15, Or.inl rfl⟩
theorem p_X3_15_3 : mm_Put RX3 15 3 1 .int false := ⟨RX4, TX4, 3, "TwoEndQueues$Layout", tyX4, rfl, by decide, kw_X4, kf_X3_15, Or.inl rfl, tyX4_ok, nmX4, rfl, by decide +kernel, fun h => by cases h⟩
theorem f_X3_15 {ci : Nat} (h : ci = 0 ∨ ci = 2 ∨ ci = 3) : mm_Fld RX3 15 ci 1 := by rcases h with rfl | rfl | rfl <;> first | exact f_X3_15_0 | exact f_X3_15_2 | exact f_X3_15_3
theorem p_X3_15 {ci : Nat} (h : ci = 0 ∨ ci = 2 ∨ ci = 3) : mm_Put RX3 15 ci 1 .int false := by rcases h with rfl | rfl | rfl <;> first | exact p_X3_15_0 | exact p_X3_15_2 | exact p_X3_15_3
theorem kf_X5_97 : Cond.fieldLink RX5 97 "TwoEndQueues$Layout" "length" "I" ∈ mm_GW := (mm_in (i := 51) (by decide +kernel) (by decide +kernel))
theorem f_X5_97_0 : mm_Fld RX5 97 0 1 := ⟨RX0, TX0, 4, "TwoEndQueues$Layout", rfl, by decide, kw_X0, kf_X5_97, Or.inl rfl⟩
theorem p_X5_97_0 : mm_Put RX5 97 0 1 .int false := ⟨RX0, TX0, 4, "TwoEndQueues$Layout", tyX0, rfl, by decide, kw_X0, kf_X5_97, Or.inl rfl, tyX0_ok, nmX0, rfl, by decide +kernel, fun h => by cases h⟩
theorem f_X5_97_2 : mm_Fld RX5 97 2 1 := ⟨RX2, TX2, 3, "TwoEndQueues$Layout", rfl, by decide, kw_X2, kf_X5_97, Or.inl rfl⟩
theorem p_X5_97_2 : mm_Put RX5 97 2 1 .int false := ⟨RX2, TX2, 3, "TwoEndQueues$Layout", tyX2, rfl, by decide, kw_X2, kf_X5_97, Or.inl rfl, tyX2_ok, nmX2, rfl, by decide +kernel, fun h => by cases h⟩
theorem f_X5_97_3 : mm_Fld RX5 97 3 1 := ⟨RX4, TX4, 3, "TwoEndQueues$Layout", rfl, by decide, kw_X4, kf_X5_97, Or.inl rfl⟩
theorem p_X5_97_3 : mm_Put RX5 97 3 1 .int false := ⟨RX4, TX4, 3, "TwoEndQueues$Layout", tyX4, rfl, by decide, kw_X4, kf_X5_97, Or.inl rfl, tyX4_ok, nmX4, rfl, by decide +kernel, fun h => by cases h⟩
theorem f_X5_97 {ci : Nat} (h : ci = 0 ∨ ci = 2 ∨ ci = 3) : mm_Fld RX5 97 ci 1 := by rcases h with rfl | rfl | rfl <;> first | exact f_X5_97_0 | exact f_X5_97_2 | exact f_X5_97_3
theorem p_X5_97 {ci : Nat} (h : ci = 0 ∨ ci = 2 ∨ ci = 3) : mm_Put RX5 97 ci 1 .int false := by rcases h with rfl | rfl | rfl <;> first | exact p_X5_97_0 | exact p_X5_97_2 | exact p_X5_97_3
theorem kf_X4_22 : Cond.fieldLink RX4 22 "TwoEndQueues$LevelLayout" "counted" "I" ∈ mm_GW := (mm_in (i := 52) (by decide +kernel) (by decide +kernel))
theorem f_X4_22_3 : mm_Fld RX4 22 3 2 := ⟨RX4, TX4, 3, "TwoEndQueues$LevelLayout", rfl, by decide, kw_X4, kf_X4_22, Or.inr (mm_in (i := 53) (by decide +kernel) (by decide +kernel))⟩
theorem p_X4_22_3 : mm_Put RX4 22 3 2 .int false := ⟨RX4, TX4, 3, "TwoEndQueues$LevelLayout", tyX4, rfl, by decide, kw_X4, kf_X4_22, Or.inr (mm_in (i := 53) (by decide +kernel) (by decide +kernel)), tyX4_ok, nmX4, rfl, by decide +kernel, fun h => by cases h⟩
theorem kf_X5_68 : Cond.fieldLink RX5 68 "TwoEndQueues$HeapLayout" "counted" "I" ∈ mm_GW := (mm_in (i := 54) (by decide +kernel) (by decide +kernel))
theorem f_X5_68_0 : mm_Fld RX5 68 0 2 := ⟨RX0, TX0, 4, "TwoEndQueues$HeapLayout", rfl, by decide, kw_X0, kf_X5_68, Or.inr (mm_in (i := 55) (by decide +kernel) (by decide +kernel))⟩
theorem p_X5_68_0 : mm_Put RX5 68 0 2 .int false := ⟨RX0, TX0, 4, "TwoEndQueues$HeapLayout", tyX0, rfl, by decide, kw_X0, kf_X5_68, Or.inr (mm_in (i := 55) (by decide +kernel) (by decide +kernel)), tyX0_ok, nmX0, rfl, by decide +kernel, fun h => by cases h⟩
theorem kf_X5_71 : Cond.fieldLink RX5 71 "TwoEndQueues$Layout" "counted" "I" ∈ mm_GW := (mm_in (i := 56) (by decide +kernel) (by decide +kernel))
theorem f_X5_71_0 : mm_Fld RX5 71 0 2 := ⟨RX0, TX0, 4, "TwoEndQueues$Layout", rfl, by decide, kw_X0, kf_X5_71, Or.inl rfl⟩
theorem p_X5_71_0 : mm_Put RX5 71 0 2 .int false := ⟨RX0, TX0, 4, "TwoEndQueues$Layout", tyX0, rfl, by decide, kw_X0, kf_X5_71, Or.inl rfl, tyX0_ok, nmX0, rfl, by decide +kernel, fun h => by cases h⟩
theorem f_X5_71_2 : mm_Fld RX5 71 2 2 := ⟨RX2, TX2, 3, "TwoEndQueues$Layout", rfl, by decide, kw_X2, kf_X5_71, Or.inl rfl⟩
theorem p_X5_71_2 : mm_Put RX5 71 2 2 .int false := ⟨RX2, TX2, 3, "TwoEndQueues$Layout", tyX2, rfl, by decide, kw_X2, kf_X5_71, Or.inl rfl, tyX2_ok, nmX2, rfl, by decide +kernel, fun h => by cases h⟩
theorem f_X5_71_3 : mm_Fld RX5 71 3 2 := ⟨RX4, TX4, 3, "TwoEndQueues$Layout", rfl, by decide, kw_X4, kf_X5_71, Or.inl rfl⟩
theorem p_X5_71_3 : mm_Put RX5 71 3 2 .int false := ⟨RX4, TX4, 3, "TwoEndQueues$Layout", tyX4, rfl, by decide, kw_X4, kf_X5_71, Or.inl rfl, tyX4_ok, nmX4, rfl, by decide +kernel, fun h => by cases h⟩
theorem f_X5_71 {ci : Nat} (h : ci = 0 ∨ ci = 2 ∨ ci = 3) : mm_Fld RX5 71 ci 2 := by rcases h with rfl | rfl | rfl <;> first | exact f_X5_71_0 | exact f_X5_71_2 | exact f_X5_71_3
theorem p_X5_71 {ci : Nat} (h : ci = 0 ∨ ci = 2 ∨ ci = 3) : mm_Put RX5 71 ci 2 .int false := by rcases h with rfl | rfl | rfl <;> first | exact p_X5_71_0 | exact p_X5_71_2 | exact p_X5_71_3
theorem kf_X3_30 : Cond.fieldLink RX3 30 "TwoEndQueues$Layout" "counted" "I" ∈ mm_GW := (mm_in (i := 57) (by decide +kernel) (by decide +kernel))
theorem f_X3_30_0 : mm_Fld RX3 30 0 2 := ⟨RX0, TX0, 4, "TwoEndQueues$Layout", rfl, by decide, kw_X0, kf_X3_30, Or.inl rfl⟩
theorem p_X3_30_0 : mm_Put RX3 30 0 2 .int false := ⟨RX0, TX0, 4, "TwoEndQueues$Layout", tyX0, rfl, by decide, kw_X0, kf_X3_30, Or.inl rfl, tyX0_ok, nmX0, rfl, by decide +kernel, fun h => by cases h⟩
theorem f_X3_30_2 : mm_Fld RX3 30 2 2 := ⟨RX2, TX2, 3, "TwoEndQueues$Layout", rfl, by decide, kw_X2, kf_X3_30, Or.inl rfl⟩
theorem p_X3_30_2 : mm_Put RX3 30 2 2 .int false := ⟨RX2, TX2, 3, "TwoEndQueues$Layout", tyX2, rfl, by decide, kw_X2, kf_X3_30, Or.inl rfl, tyX2_ok, nmX2, rfl, by decide +kernel, fun h => by cases h⟩
theorem f_X3_30_3 : mm_Fld RX3 30 3 2 := ⟨RX4, TX4, 3, "TwoEndQueues$Layout", rfl, by decide, kw_X4, kf_X3_30, Or.inl rfl⟩
theorem p_X3_30_3 : mm_Put RX3 30 3 2 .int false := ⟨RX4, TX4, 3, "TwoEndQueues$Layout", tyX4, rfl, by decide, kw_X4, kf_X3_30, Or.inl rfl, tyX4_ok, nmX4, rfl, by decide +kernel, fun h => by cases h⟩
theorem f_X3_30 {ci : Nat} (h : ci = 0 ∨ ci = 2 ∨ ci = 3) : mm_Fld RX3 30 ci 2 := by rcases h with rfl | rfl | rfl <;> first | exact f_X3_30_0 | exact f_X3_30_2 | exact f_X3_30_3
theorem p_X3_30 {ci : Nat} (h : ci = 0 ∨ ci = 2 ∨ ci = 3) : mm_Put RX3 30 ci 2 .int false := by rcases h with rfl | rfl | rfl <;> first | exact p_X3_30_0 | exact p_X3_30_2 | exact p_X3_30_3
theorem kf_X0_9 : Cond.fieldLink RX0 9 "TwoEndQueues$HeapLayout" "forLeast" "Z" ∈ mm_GW := (mm_in (i := 82) (by decide +kernel) (by decide +kernel))
theorem f_X0_9_0 : mm_Fld RX0 9 0 3 := ⟨RX0, TX0, 4, "TwoEndQueues$HeapLayout", rfl, by decide, kw_X0, kf_X0_9, Or.inl rfl⟩
theorem p_X0_9_0 : mm_Put RX0 9 0 3 .boolean true := ⟨RX0, TX0, 4, "TwoEndQueues$HeapLayout", tyX0, rfl, by decide, kw_X0, kf_X0_9, Or.inl rfl, tyX0_ok, nmX0, rfl, by decide +kernel, fun _ => rfl⟩
theorem kf_X5_12 : Cond.fieldLink RX5 12 "TwoEndQueues$Queues" "interval" "LTwoEndQueues$IntervalLayout;" ∈ mm_GW := (mm_in (i := 89) (by decide +kernel) (by decide +kernel))
theorem f_X5_12_4 : mm_Fld RX5 12 4 0 := ⟨RX5, TX5, 4, "TwoEndQueues$Queues", rfl, by decide, kw_X5, kf_X5_12, Or.inl rfl⟩
theorem p_X5_12_4 : mm_Put RX5 12 4 0 (.object "TwoEndQueues$IntervalLayout") true := ⟨RX5, TX5, 4, "TwoEndQueues$Queues", tyX5, rfl, by decide, kw_X5, kf_X5_12, Or.inl rfl, tyX5_ok, nmX5, rfl, by decide +kernel, fun _ => rfl⟩
theorem kf_X5_21 : Cond.fieldLink RX5 21 "TwoEndQueues$Queues" "levels" "LTwoEndQueues$LevelLayout;" ∈ mm_GW := (mm_in (i := 90) (by decide +kernel) (by decide +kernel))
theorem f_X5_21_4 : mm_Fld RX5 21 4 1 := ⟨RX5, TX5, 4, "TwoEndQueues$Queues", rfl, by decide, kw_X5, kf_X5_21, Or.inl rfl⟩
theorem p_X5_21_4 : mm_Put RX5 21 4 1 (.object "TwoEndQueues$LevelLayout") true := ⟨RX5, TX5, 4, "TwoEndQueues$Queues", tyX5, rfl, by decide, kw_X5, kf_X5_21, Or.inl rfl, tyX5_ok, nmX5, rfl, by decide +kernel, fun _ => rfl⟩
theorem kf_X5_30 : Cond.fieldLink RX5 30 "TwoEndQueues$Queues" "leastFirst" "LTwoEndQueues$HeapLayout;" ∈ mm_GW := (mm_in (i := 91) (by decide +kernel) (by decide +kernel))
theorem f_X5_30_4 : mm_Fld RX5 30 4 2 := ⟨RX5, TX5, 4, "TwoEndQueues$Queues", rfl, by decide, kw_X5, kf_X5_30, Or.inl rfl⟩
theorem p_X5_30_4 : mm_Put RX5 30 4 2 (.object "TwoEndQueues$HeapLayout") true := ⟨RX5, TX5, 4, "TwoEndQueues$Queues", tyX5, rfl, by decide, kw_X5, kf_X5_30, Or.inl rfl, tyX5_ok, nmX5, rfl, by decide +kernel, fun _ => rfl⟩
theorem kf_X7_153 : Cond.fieldLink RX7 153 "TwoEndQueues$Queues" "leastFirst" "LTwoEndQueues$HeapLayout;" ∈ mm_GW := (mm_in (i := 92) (by decide +kernel) (by decide +kernel))
theorem f_X7_153_4 : mm_Fld RX7 153 4 2 := ⟨RX5, TX5, 4, "TwoEndQueues$Queues", rfl, by decide, kw_X5, kf_X7_153, Or.inl rfl⟩
theorem kf_X5_34 : Cond.fieldLink RX5 34 "TwoEndQueues$Queues" "greatestFirst" "LTwoEndQueues$HeapLayout;" ∈ mm_GW := (mm_in (i := 93) (by decide +kernel) (by decide +kernel))
theorem f_X5_34_4 : mm_Fld RX5 34 4 3 := ⟨RX5, TX5, 4, "TwoEndQueues$Queues", rfl, by decide, kw_X5, kf_X5_34, Or.inl rfl⟩
theorem p_X5_34_4 : mm_Put RX5 34 4 3 (.object "TwoEndQueues$HeapLayout") true := ⟨RX5, TX5, 4, "TwoEndQueues$Queues", tyX5, rfl, by decide, kw_X5, kf_X5_34, Or.inl rfl, tyX5_ok, nmX5, rfl, by decide +kernel, fun _ => rfl⟩
theorem kf_X7_162 : Cond.fieldLink RX7 162 "TwoEndQueues$Queues" "greatestFirst" "LTwoEndQueues$HeapLayout;" ∈ mm_GW := (mm_in (i := 94) (by decide +kernel) (by decide +kernel))
theorem f_X7_162_4 : mm_Fld RX7 162 4 3 := ⟨RX5, TX5, 4, "TwoEndQueues$Queues", rfl, by decide, kw_X5, kf_X7_162, Or.inl rfl⟩
theorem kf_X1_11 : Cond.fieldLink RX1 11 "TwoEndQueues$History" "ring" "[LTwoEndQueues$Queues;" ∈ mm_GW := (mm_in (i := 113) (by decide +kernel) (by decide +kernel))
theorem f_X1_11_1 : mm_Fld RX1 11 1 0 := ⟨RX1, TX1, 3, "TwoEndQueues$History", rfl, by decide, kw_X1, kf_X1_11, Or.inl rfl⟩
theorem p_X1_11_1 : mm_Put RX1 11 1 0 (.array (.object "TwoEndQueues$Queues")) true := ⟨RX1, TX1, 3, "TwoEndQueues$History", tyX1, rfl, by decide, kw_X1, kf_X1_11, Or.inl rfl, tyX1_ok, nmX1, rfl, by decide +kernel, fun _ => rfl⟩
theorem kf_X1_18 : Cond.fieldLink RX1 18 "TwoEndQueues$History" "next" "I" ∈ mm_GW := (mm_in (i := 114) (by decide +kernel) (by decide +kernel))
theorem f_X1_18_1 : mm_Fld RX1 18 1 1 := ⟨RX1, TX1, 3, "TwoEndQueues$History", rfl, by decide, kw_X1, kf_X1_18, Or.inl rfl⟩
theorem p_X1_18_1 : mm_Put RX1 18 1 1 .int false := ⟨RX1, TX1, 3, "TwoEndQueues$History", tyX1, rfl, by decide, kw_X1, kf_X1_18, Or.inl rfl, tyX1_ok, nmX1, rfl, by decide +kernel, fun h => by cases h⟩
theorem kf_X1_26 : Cond.fieldLink RX1 26 "TwoEndQueues$History" "kept" "I" ∈ mm_GW := (mm_in (i := 115) (by decide +kernel) (by decide +kernel))
theorem f_X1_26_1 : mm_Fld RX1 26 1 2 := ⟨RX1, TX1, 3, "TwoEndQueues$History", rfl, by decide, kw_X1, kf_X1_26, Or.inl rfl⟩
theorem p_X1_26_1 : mm_Put RX1 26 1 2 .int false := ⟨RX1, TX1, 3, "TwoEndQueues$History", tyX1, rfl, by decide, kw_X1, kf_X1_26, Or.inl rfl, tyX1_ok, nmX1, rfl, by decide +kernel, fun h => by cases h⟩
theorem kf_X7_217 : Cond.fieldLink RX7 217 "TwoEndQueues$History" "kept" "I" ∈ mm_GW := (mm_in (i := 116) (by decide +kernel) (by decide +kernel))
theorem f_X7_217_1 : mm_Fld RX7 217 1 2 := ⟨RX1, TX1, 3, "TwoEndQueues$History", rfl, by decide, kw_X1, kf_X7_217, Or.inl rfl⟩
theorem p_X7_217_1 : mm_Put RX7 217 1 2 .int false := ⟨RX1, TX1, 3, "TwoEndQueues$History", tyX1, rfl, by decide, kw_X1, kf_X7_217, Or.inl rfl, tyX1_ok, nmX1, rfl, by decide +kernel, fun h => by cases h⟩
theorem kf_X6_9 : Cond.fieldLink RX6 9 "TwoEndQueues$Script" "signs" "[C" ∈ mm_GW := (mm_in (i := 130) (by decide +kernel) (by decide +kernel))
theorem f_X6_9_5 : mm_Fld RX6 9 5 0 := ⟨RX6, TX6, 7, "TwoEndQueues$Script", rfl, by decide, kw_X6, kf_X6_9, Or.inl rfl⟩
theorem p_X6_9_5 : mm_Put RX6 9 5 0 (.array .char) true := ⟨RX6, TX6, 7, "TwoEndQueues$Script", tyX6, rfl, by decide, kw_X6, kf_X6_9, Or.inl rfl, tyX6_ok, nmX6, rfl, by decide +kernel, fun _ => rfl⟩
theorem kf_X6_19 : Cond.fieldLink RX6 19 "TwoEndQueues$Script" "cursor" "I" ∈ mm_GW := (mm_in (i := 131) (by decide +kernel) (by decide +kernel))
theorem f_X6_19_5 : mm_Fld RX6 19 5 1 := ⟨RX6, TX6, 7, "TwoEndQueues$Script", rfl, by decide, kw_X6, kf_X6_19, Or.inl rfl⟩
theorem p_X6_19_5 : mm_Put RX6 19 5 1 .int false := ⟨RX6, TX6, 7, "TwoEndQueues$Script", tyX6, rfl, by decide, kw_X6, kf_X6_19, Or.inl rfl, tyX6_ok, nmX6, rfl, by decide +kernel, fun h => by cases h⟩
theorem kf_X6_57 : Cond.fieldLink RX6 57 "TwoEndQueues$Script" "number" "I" ∈ mm_GW := (mm_in (i := 132) (by decide +kernel) (by decide +kernel))
theorem f_X6_57_5 : mm_Fld RX6 57 5 2 := ⟨RX6, TX6, 7, "TwoEndQueues$Script", rfl, by decide, kw_X6, kf_X6_57, Or.inl rfl⟩
theorem p_X6_57_5 : mm_Put RX6 57 5 2 .int false := ⟨RX6, TX6, 7, "TwoEndQueues$Script", tyX6, rfl, by decide, kw_X6, kf_X6_57, Or.inl rfl, tyX6_ok, nmX6, rfl, by decide +kernel, fun h => by cases h⟩
theorem kf_X6_15 : Cond.fieldLink RX6 15 "TwoEndQueues$Script" "length" "I" ∈ mm_GW := (mm_in (i := 133) (by decide +kernel) (by decide +kernel))
theorem f_X6_15_5 : mm_Fld RX6 15 5 3 := ⟨RX6, TX6, 7, "TwoEndQueues$Script", rfl, by decide, kw_X6, kf_X6_15, Or.inl rfl⟩
theorem p_X6_15_5 : mm_Put RX6 15 5 3 .int false := ⟨RX6, TX6, 7, "TwoEndQueues$Script", tyX6, rfl, by decide, kw_X6, kf_X6_15, Or.inl rfl, tyX6_ok, nmX6, rfl, by decide +kernel, fun h => by cases h⟩
theorem kf_X7_186 : Cond.fieldLink RX7 186 "TwoEndQueues$Script" "length" "I" ∈ mm_GW := (mm_in (i := 134) (by decide +kernel) (by decide +kernel))
theorem f_X7_186_5 : mm_Fld RX7 186 5 3 := ⟨RX6, TX6, 7, "TwoEndQueues$Script", rfl, by decide, kw_X6, kf_X7_186, Or.inl rfl⟩
theorem p_X7_186_5 : mm_Put RX7 186 5 3 .int false := ⟨RX6, TX6, 7, "TwoEndQueues$Script", tyX6, rfl, by decide, kw_X6, kf_X7_186, Or.inl rfl, tyX6_ok, nmX6, rfl, by decide +kernel, fun h => by cases h⟩
theorem kf_X6_37 : Cond.fieldLink RX6 37 "TwoEndQueues$Script" "command" "I" ∈ mm_GW := (mm_in (i := 135) (by decide +kernel) (by decide +kernel))
theorem f_X6_37_5 : mm_Fld RX6 37 5 4 := ⟨RX6, TX6, 7, "TwoEndQueues$Script", rfl, by decide, kw_X6, kf_X6_37, Or.inl rfl⟩
theorem p_X6_37_5 : mm_Put RX6 37 5 4 .int false := ⟨RX6, TX6, 7, "TwoEndQueues$Script", tyX6, rfl, by decide, kw_X6, kf_X6_37, Or.inl rfl, tyX6_ok, nmX6, rfl, by decide +kernel, fun h => by cases h⟩
theorem kf_X7_208 : Cond.fieldLink RX7 208 "TwoEndQueues$Script" "command" "I" ∈ mm_GW := (mm_in (i := 136) (by decide +kernel) (by decide +kernel))
theorem f_X7_208_5 : mm_Fld RX7 208 5 4 := ⟨RX6, TX6, 7, "TwoEndQueues$Script", rfl, by decide, kw_X6, kf_X7_208, Or.inl rfl⟩
theorem p_X7_208_5 : mm_Put RX7 208 5 4 .int false := ⟨RX6, TX6, 7, "TwoEndQueues$Script", tyX6, rfl, by decide, kw_X6, kf_X7_208, Or.inl rfl, tyX6_ok, nmX6, rfl, by decide +kernel, fun h => by cases h⟩
theorem kf_X6_63 : Cond.fieldLink RX6 63 "TwoEndQueues$Script" "handle" "I" ∈ mm_GW := (mm_in (i := 137) (by decide +kernel) (by decide +kernel))
theorem f_X6_63_5 : mm_Fld RX6 63 5 5 := ⟨RX6, TX6, 7, "TwoEndQueues$Script", rfl, by decide, kw_X6, kf_X6_63, Or.inl rfl⟩
theorem p_X6_63_5 : mm_Put RX6 63 5 5 .int false := ⟨RX6, TX6, 7, "TwoEndQueues$Script", tyX6, rfl, by decide, kw_X6, kf_X6_63, Or.inl rfl, tyX6_ok, nmX6, rfl, by decide +kernel, fun h => by cases h⟩
theorem kf_X7_211 : Cond.fieldLink RX7 211 "TwoEndQueues$Script" "handle" "I" ∈ mm_GW := (mm_in (i := 138) (by decide +kernel) (by decide +kernel))
theorem f_X7_211_5 : mm_Fld RX7 211 5 5 := ⟨RX6, TX6, 7, "TwoEndQueues$Script", rfl, by decide, kw_X6, kf_X7_211, Or.inl rfl⟩
theorem p_X7_211_5 : mm_Put RX7 211 5 5 .int false := ⟨RX6, TX6, 7, "TwoEndQueues$Script", tyX6, rfl, by decide, kw_X6, kf_X7_211, Or.inl rfl, tyX6_ok, nmX6, rfl, by decide +kernel, fun h => by cases h⟩
theorem kf_X6_60 : Cond.fieldLink RX6 60 "TwoEndQueues$Script" "key" "I" ∈ mm_GW := (mm_in (i := 139) (by decide +kernel) (by decide +kernel))
theorem f_X6_60_5 : mm_Fld RX6 60 5 6 := ⟨RX6, TX6, 7, "TwoEndQueues$Script", rfl, by decide, kw_X6, kf_X6_60, Or.inl rfl⟩
theorem p_X6_60_5 : mm_Put RX6 60 5 6 .int false := ⟨RX6, TX6, 7, "TwoEndQueues$Script", tyX6, rfl, by decide, kw_X6, kf_X6_60, Or.inl rfl, tyX6_ok, nmX6, rfl, by decide +kernel, fun h => by cases h⟩
theorem kf_X7_214 : Cond.fieldLink RX7 214 "TwoEndQueues$Script" "key" "I" ∈ mm_GW := (mm_in (i := 140) (by decide +kernel) (by decide +kernel))
theorem f_X7_214_5 : mm_Fld RX7 214 5 6 := ⟨RX6, TX6, 7, "TwoEndQueues$Script", rfl, by decide, kw_X6, kf_X7_214, Or.inl rfl⟩
theorem p_X7_214_5 : mm_Put RX7 214 5 6 .int false := ⟨RX6, TX6, 7, "TwoEndQueues$Script", tyX6, rfl, by decide, kw_X6, kf_X7_214, Or.inl rfl, tyX6_ok, nmX6, rfl, by decide +kernel, fun h => by cases h⟩
theorem kf_X7_10 : Cond.fieldLink RX7 10 "TwoEndQueues" "queues" "LTwoEndQueues$Queues;" ∈ mm_GW := (mm_in (i := 157) (by decide +kernel) (by decide +kernel))
theorem f_X7_10_6 : mm_Fld RX7 10 6 0 := ⟨RX7, TX7, 4, "TwoEndQueues", rfl, by decide, kw_X7, kf_X7_10, Or.inl rfl⟩
theorem p_X7_10_6 : mm_Put RX7 10 6 0 (.object "TwoEndQueues$Queues") true := ⟨RX7, TX7, 4, "TwoEndQueues", tyX7, rfl, by decide, kw_X7, kf_X7_10, Or.inl rfl, tyX7_ok, nmX7, rfl, by decide +kernel, fun _ => rfl⟩
theorem kf_X7_16 : Cond.fieldLink RX7 16 "TwoEndQueues" "thought" "LTwoEndQueues$Queues;" ∈ mm_GW := (mm_in (i := 158) (by decide +kernel) (by decide +kernel))
theorem f_X7_16_6 : mm_Fld RX7 16 6 1 := ⟨RX7, TX7, 4, "TwoEndQueues", rfl, by decide, kw_X7, kf_X7_16, Or.inl rfl⟩
theorem p_X7_16_6 : mm_Put RX7 16 6 1 (.object "TwoEndQueues$Queues") true := ⟨RX7, TX7, 4, "TwoEndQueues", tyX7, rfl, by decide, kw_X7, kf_X7_16, Or.inl rfl, tyX7_ok, nmX7, rfl, by decide +kernel, fun _ => rfl⟩
theorem kf_X7_22 : Cond.fieldLink RX7 22 "TwoEndQueues" "history" "LTwoEndQueues$History;" ∈ mm_GW := (mm_in (i := 159) (by decide +kernel) (by decide +kernel))
theorem f_X7_22_6 : mm_Fld RX7 22 6 2 := ⟨RX7, TX7, 4, "TwoEndQueues", rfl, by decide, kw_X7, kf_X7_22, Or.inl rfl⟩
theorem p_X7_22_6 : mm_Put RX7 22 6 2 (.object "TwoEndQueues$History") true := ⟨RX7, TX7, 4, "TwoEndQueues", tyX7, rfl, by decide, kw_X7, kf_X7_22, Or.inl rfl, tyX7_ok, nmX7, rfl, by decide +kernel, fun _ => rfl⟩
theorem kf_X7_29 : Cond.fieldLink RX7 29 "TwoEndQueues" "script" "LTwoEndQueues$Script;" ∈ mm_GW := (mm_in (i := 160) (by decide +kernel) (by decide +kernel))
theorem f_X7_29_6 : mm_Fld RX7 29 6 3 := ⟨RX7, TX7, 4, "TwoEndQueues", rfl, by decide, kw_X7, kf_X7_29, Or.inl rfl⟩
theorem p_X7_29_6 : mm_Put RX7 29 6 3 (.object "TwoEndQueues$Script") true := ⟨RX7, TX7, 4, "TwoEndQueues", tyX7, rfl, by decide, kw_X7, kf_X7_29, Or.inl rfl, tyX7_ok, nmX7, rfl, by decide +kernel, fun _ => rfl⟩
theorem kf_X8_7 : Cond.fieldLink RX8 7 "TwoEndQueuesModel" "now" "[I" ∈ mm_GW := (mm_in (i := 944) (by decide +kernel) (by decide +kernel))
theorem f_X8_7_7 : mm_Fld RX8 7 7 0 := ⟨RX8, TX8, 11, "TwoEndQueuesModel", rfl, by decide, kw_X8, kf_X8_7, Or.inl rfl⟩
theorem p_X8_7_7 : mm_Put RX8 7 7 0 (.array .int) true := ⟨RX8, TX8, 11, "TwoEndQueuesModel", tyX8, rfl, by decide, kw_X8, kf_X8_7, Or.inl rfl, tyX8_ok, nmX8, rfl, by decide +kernel, fun _ => rfl⟩
theorem kf_X8_13 : Cond.fieldLink RX8 13 "TwoEndQueuesModel" "past" "[I" ∈ mm_GW := (mm_in (i := 945) (by decide +kernel) (by decide +kernel))
theorem f_X8_13_7 : mm_Fld RX8 13 7 1 := ⟨RX8, TX8, 11, "TwoEndQueuesModel", rfl, by decide, kw_X8, kf_X8_13, Or.inl rfl⟩
theorem p_X8_13_7 : mm_Put RX8 13 7 1 (.array .int) true := ⟨RX8, TX8, 11, "TwoEndQueuesModel", tyX8, rfl, by decide, kw_X8, kf_X8_13, Or.inl rfl, tyX8_ok, nmX8, rfl, by decide +kernel, fun _ => rfl⟩
theorem kf_X8_16 : Cond.fieldLink RX8 16 "TwoEndQueuesModel" "kept" "[I" ∈ mm_GW := (mm_in (i := 946) (by decide +kernel) (by decide +kernel))
theorem f_X8_16_7 : mm_Fld RX8 16 7 2 := ⟨RX8, TX8, 11, "TwoEndQueuesModel", rfl, by decide, kw_X8, kf_X8_16, Or.inl rfl⟩
theorem p_X8_16_7 : mm_Put RX8 16 7 2 (.array .int) true := ⟨RX8, TX8, 11, "TwoEndQueuesModel", tyX8, rfl, by decide, kw_X8, kf_X8_16, Or.inl rfl, tyX8_ok, nmX8, rfl, by decide +kernel, fun _ => rfl⟩
theorem kf_X8_26 : Cond.fieldLink RX8 26 "TwoEndQueuesModel" "saved" "I" ∈ mm_GW := (mm_in (i := 947) (by decide +kernel) (by decide +kernel))
theorem f_X8_26_7 : mm_Fld RX8 26 7 3 := ⟨RX8, TX8, 11, "TwoEndQueuesModel", rfl, by decide, kw_X8, kf_X8_26, Or.inl rfl⟩
theorem p_X8_26_7 : mm_Put RX8 26 7 3 .int false := ⟨RX8, TX8, 11, "TwoEndQueuesModel", tyX8, rfl, by decide, kw_X8, kf_X8_26, Or.inl rfl, tyX8_ok, nmX8, rfl, by decide +kernel, fun h => by cases h⟩
theorem kf_X8_22 : Cond.fieldLink RX8 22 "TwoEndQueuesModel" "refusal" "I" ∈ mm_GW := (mm_in (i := 948) (by decide +kernel) (by decide +kernel))
theorem f_X8_22_7 : mm_Fld RX8 22 7 4 := ⟨RX8, TX8, 11, "TwoEndQueuesModel", rfl, by decide, kw_X8, kf_X8_22, Or.inl rfl⟩
theorem p_X8_22_7 : mm_Put RX8 22 7 4 .int false := ⟨RX8, TX8, 11, "TwoEndQueuesModel", tyX8, rfl, by decide, kw_X8, kf_X8_22, Or.inl rfl, tyX8_ok, nmX8, rfl, by decide +kernel, fun h => by cases h⟩
theorem kf_X8_19 : Cond.fieldLink RX8 19 "TwoEndQueuesModel" "text" "[I" ∈ mm_GW := (mm_in (i := 949) (by decide +kernel) (by decide +kernel))
theorem f_X8_19_7 : mm_Fld RX8 19 7 5 := ⟨RX8, TX8, 11, "TwoEndQueuesModel", rfl, by decide, kw_X8, kf_X8_19, Or.inl rfl⟩
theorem p_X8_19_7 : mm_Put RX8 19 7 5 (.array .int) true := ⟨RX8, TX8, 11, "TwoEndQueuesModel", tyX8, rfl, by decide, kw_X8, kf_X8_19, Or.inl rfl, tyX8_ok, nmX8, rfl, by decide +kernel, fun _ => rfl⟩
theorem kf_X8_215 : Cond.fieldLink RX8 215 "TwoEndQueuesModel" "length" "I" ∈ mm_GW := (mm_in (i := 950) (by decide +kernel) (by decide +kernel))
theorem f_X8_215_7 : mm_Fld RX8 215 7 6 := ⟨RX8, TX8, 11, "TwoEndQueuesModel", rfl, by decide, kw_X8, kf_X8_215, Or.inl rfl⟩
theorem p_X8_215_7 : mm_Put RX8 215 7 6 .int false := ⟨RX8, TX8, 11, "TwoEndQueuesModel", tyX8, rfl, by decide, kw_X8, kf_X8_215, Or.inl rfl, tyX8_ok, nmX8, rfl, by decide +kernel, fun h => by cases h⟩
theorem kf_X8_218 : Cond.fieldLink RX8 218 "TwoEndQueuesModel" "place" "I" ∈ mm_GW := (mm_in (i := 951) (by decide +kernel) (by decide +kernel))
theorem f_X8_218_7 : mm_Fld RX8 218 7 7 := ⟨RX8, TX8, 11, "TwoEndQueuesModel", rfl, by decide, kw_X8, kf_X8_218, Or.inl rfl⟩
theorem p_X8_218_7 : mm_Put RX8 218 7 7 .int false := ⟨RX8, TX8, 11, "TwoEndQueuesModel", tyX8, rfl, by decide, kw_X8, kf_X8_218, Or.inl rfl, tyX8_ok, nmX8, rfl, by decide +kernel, fun h => by cases h⟩
theorem kf_X8_221 : Cond.fieldLink RX8 221 "TwoEndQueuesModel" "wrong" "I" ∈ mm_GW := (mm_in (i := 952) (by decide +kernel) (by decide +kernel))
theorem f_X8_221_7 : mm_Fld RX8 221 7 8 := ⟨RX8, TX8, 11, "TwoEndQueuesModel", rfl, by decide, kw_X8, kf_X8_221, Or.inl rfl⟩
theorem p_X8_221_7 : mm_Put RX8 221 7 8 .int false := ⟨RX8, TX8, 11, "TwoEndQueuesModel", tyX8, rfl, by decide, kw_X8, kf_X8_221, Or.inl rfl, tyX8_ok, nmX8, rfl, by decide +kernel, fun h => by cases h⟩
theorem kf_X8_229 : Cond.fieldLink RX8 229 "TwoEndQueuesModel" "done" "I" ∈ mm_GW := (mm_in (i := 953) (by decide +kernel) (by decide +kernel))
theorem f_X8_229_7 : mm_Fld RX8 229 7 9 := ⟨RX8, TX8, 11, "TwoEndQueuesModel", rfl, by decide, kw_X8, kf_X8_229, Or.inl rfl⟩
theorem p_X8_229_7 : mm_Put RX8 229 7 9 .int false := ⟨RX8, TX8, 11, "TwoEndQueuesModel", tyX8, rfl, by decide, kw_X8, kf_X8_229, Or.inl rfl, tyX8_ok, nmX8, rfl, by decide +kernel, fun h => by cases h⟩
theorem kf_X8_248 : Cond.fieldLink RX8 248 "TwoEndQueuesModel" "hash" "J" ∈ mm_GW := (mm_in (i := 954) (by decide +kernel) (by decide +kernel))
theorem f_X8_248_7 : mm_Fld RX8 248 7 10 := ⟨RX8, TX8, 11, "TwoEndQueuesModel", rfl, by decide, kw_X8, kf_X8_248, Or.inl rfl⟩
theorem p_X8_248_7 : mm_Put RX8 248 7 10 .long false := ⟨RX8, TX8, 11, "TwoEndQueuesModel", tyX8, rfl, by decide, kw_X8, kf_X8_248, Or.inl rfl, tyX8_ok, nmX8, rfl, by decide +kernel, fun h => by cases h⟩
theorem kl_L_85 : Cond.methodLink RL 85 yX7_init ∈ mm_GW := (mm_in (i := 21) (by decide +kernel) (by decide +kernel))
theorem n_L_85 : mm_In RL 85 yX7_init cX7_init 1 0 := ⟨kc_X7_init, ki_X7, kn_X7_init, rfl, ⟨by decide, by decide⟩, by decide +kernel, Or.inl kl_L_85⟩
theorem kl_X7_1 : Cond.methodLink RX7 1 Lib.objectInit ∈ mm_GW := (mm_in (i := 24) (by decide +kernel) (by decide +kernel))
theorem kl_X5_3 : Cond.methodLink RX5 3 Lib.objectInit ∈ mm_GW := (mm_in (i := 32) (by decide +kernel) (by decide +kernel))
theorem kl_X3_3 : Cond.methodLink RX3 3 Lib.objectInit ∈ mm_GW := (mm_in (i := 41) (by decide +kernel) (by decide +kernel))
theorem kl_X5_27 : Cond.methodLink RX5 27 yX0_init ∈ mm_GW := (mm_in (i := 78) (by decide +kernel) (by decide +kernel))
theorem n_X5_27 : mm_In RX5 27 yX0_init cX0_init 2 1 := ⟨kc_X0_init, ki_X0, kn_X0_init, rfl, ⟨by decide, by decide⟩, by decide +kernel, Or.inl kl_X5_27⟩
theorem kl_X7_21 : Cond.methodLink RX7 21 yX1_init ∈ mm_GW := (mm_in (i := 106) (by decide +kernel) (by decide +kernel))
theorem n_X7_21 : mm_In RX7 21 yX1_init cX1_init 2 0 := ⟨kc_X1_init, ki_X1, kn_X1_init, rfl, ⟨by decide, by decide⟩, by decide +kernel, Or.inl kl_X7_21⟩
theorem kl_X1_3 : Cond.methodLink RX1 3 Lib.objectInit ∈ mm_GW := (mm_in (i := 109) (by decide +kernel) (by decide +kernel))
theorem kl_X6_3 : Cond.methodLink RX6 3 Lib.objectInit ∈ mm_GW := (mm_in (i := 129) (by decide +kernel) (by decide +kernel))
theorem kl_L_112 : Cond.methodLink RL 112 yX7_build ∈ mm_GW := (mm_in (i := 170) (by decide +kernel) (by decide +kernel))
theorem v_L_112_6 : mm_V RL 112 6 yX7_build cX7_build 2 (some .int) 0 := ⟨RX7, TX7, 4, rfl, kc_X7_build, ki_X7, kn_X7_build, Or.inl ⟨kl_L_112, (mm_in (i := 172) (by decide +kernel) (by decide +kernel)), ⟨by decide, by decide⟩, by decide +kernel⟩⟩
theorem kl_X7_48 : Cond.methodLink RX7 48 yX1_keep ∈ mm_GW := (mm_in (i := 174) (by decide +kernel) (by decide +kernel))
theorem v_X7_48_1 : mm_V RX7 48 1 yX1_keep cX1_keep 3 none 1 := ⟨RX1, TX1, 3, rfl, kc_X1_keep, ki_X1, kn_X1_keep, Or.inl ⟨kl_X7_48, (mm_in (i := 176) (by decide +kernel) (by decide +kernel)), ⟨by decide, by decide⟩, by decide +kernel⟩⟩
theorem kl_X1_22 : Cond.methodLink RX1 22 yX5_copyFrom ∈ mm_GW := (mm_in (i := 178) (by decide +kernel) (by decide +kernel))
theorem v_X1_22_4 : mm_V RX1 22 4 yX5_copyFrom cX5_copyFrom 3 none 1 := ⟨RX5, TX5, 4, rfl, kc_X5_copyFrom, ki_X5, kn_X5_copyFrom, Or.inl ⟨kl_X1_22, (mm_in (i := 180) (by decide +kernel) (by decide +kernel)), ⟨by decide, by decide⟩, by decide +kernel⟩⟩
theorem kl_X5_54 : Cond.methodLink RX5 54 yX5_layout ∈ mm_GW := (mm_in (i := 182) (by decide +kernel) (by decide +kernel))
theorem v_X5_54_4 : mm_V RX5 54 4 yX5_layout cX5_layout 2 (some (.object "TwoEndQueues$Layout")) 1 := ⟨RX5, TX5, 4, rfl, kc_X5_layout, ki_X5, kn_X5_layout, Or.inl ⟨kl_X5_54, (mm_in (i := 184) (by decide +kernel) (by decide +kernel)), ⟨by decide, by decide⟩, by decide +kernel⟩⟩
theorem kl_X5_98 : Cond.methodLink RX5 98 yX3_copyFrom ∈ mm_GW := (mm_in (i := 186) (by decide +kernel) (by decide +kernel))
theorem v_X5_98_0 : mm_V RX5 98 0 yX3_copyFrom cX3_copyFrom 2 none 1 := ⟨RX0, TX0, 4, rfl, kc_X3_copyFrom, ki_X3, kn_X3_copyFrom, Or.inr ⟨"TwoEndQueues$Layout", yX3_copyFrom, kl_X5_98, (mm_in (i := 188) (by decide +kernel) (by decide +kernel)), (mm_in (i := 189) (by decide +kernel) (by decide +kernel)), ⟨by decide, by decide⟩, by decide +kernel, Or.inl rfl⟩⟩
theorem v_X5_98_2 : mm_V RX5 98 2 yX3_copyFrom cX3_copyFrom 2 none 1 := ⟨RX2, TX2, 3, rfl, kc_X3_copyFrom, ki_X3, kn_X3_copyFrom, Or.inr ⟨"TwoEndQueues$Layout", yX3_copyFrom, kl_X5_98, (mm_in (i := 188) (by decide +kernel) (by decide +kernel)), (mm_in (i := 190) (by decide +kernel) (by decide +kernel)), ⟨by decide, by decide⟩, by decide +kernel, Or.inl rfl⟩⟩
theorem v_X5_98_3 : mm_V RX5 98 3 yX3_copyFrom cX3_copyFrom 2 none 1 := ⟨RX4, TX4, 3, rfl, kc_X3_copyFrom, ki_X3, kn_X3_copyFrom, Or.inr ⟨"TwoEndQueues$Layout", yX3_copyFrom, kl_X5_98, (mm_in (i := 188) (by decide +kernel) (by decide +kernel)), (mm_in (i := 191) (by decide +kernel) (by decide +kernel)), ⟨by decide, by decide⟩, by decide +kernel, Or.inl rfl⟩⟩
theorem v_X5_98 {ci : Nat} (h : ci = 0 ∨ ci = 2 ∨ ci = 3) : mm_V RX5 98 ci yX3_copyFrom cX3_copyFrom 2 none 1 := by rcases h with rfl | rfl | rfl <;> first | exact v_X5_98_0 | exact v_X5_98_2 | exact v_X5_98_3
theorem kl_X3_53 : Cond.methodLink RX3 53 ⟨"java/lang/System", "arraycopy", "(Ljava/lang/Object;ILjava/lang/Object;II)V"⟩ ∈ mm_GW := (mm_in (i := 193) (by decide +kernel) (by decide +kernel))
theorem kl_X1_29 : Cond.methodLink RX1 29 yJ9_min_7cf53 ∈ mm_GW := (mm_in (i := 196) (by decide +kernel) (by decide +kernel))
theorem s_X1_29 : mm_St RX1 29 yJ9_min_7cf53 2 := ⟨ki_J9, ks_J9_min_7cf53, ⟨by decide, by decide⟩, by decide +kernel, Or.inl kl_X1_29⟩
theorem kl_X7_82 : Cond.methodLink RX7 82 yX5_countedInAll ∈ mm_GW := (mm_in (i := 199) (by decide +kernel) (by decide +kernel))
theorem v_X7_82_4 : mm_V RX7 82 4 yX5_countedInAll cX5_countedInAll 1 (some .int) 0 := ⟨RX5, TX5, 4, rfl, kc_X5_countedInAll, ki_X5, kn_X5_countedInAll, Or.inl ⟨kl_X7_82, (mm_in (i := 201) (by decide +kernel) (by decide +kernel)), ⟨by decide, by decide⟩, by decide +kernel⟩⟩
theorem kl_X5_72 : Cond.methodLink RX5 72 yX5_countedIn ∈ mm_GW := (mm_in (i := 203) (by decide +kernel) (by decide +kernel))
theorem v_X5_72_4 : mm_V RX5 72 4 yX5_countedIn cX5_countedIn 2 (some .int) 1 := ⟨RX5, TX5, 4, rfl, kc_X5_countedIn, ki_X5, kn_X5_countedIn, Or.inl ⟨kl_X5_72, (mm_in (i := 205) (by decide +kernel) (by decide +kernel)), ⟨by decide, by decide⟩, by decide +kernel⟩⟩
theorem kl_X7_85 : Cond.methodLink RX7 85 yX5_arrange ∈ mm_GW := (mm_in (i := 207) (by decide +kernel) (by decide +kernel))
theorem v_X7_85_4 : mm_V RX7 85 4 yX5_arrange cX5_arrange 2 none 0 := ⟨RX5, TX5, 4, rfl, kc_X5_arrange, ki_X5, kn_X5_arrange, Or.inl ⟨kl_X7_85, (mm_in (i := 209) (by decide +kernel) (by decide +kernel)), ⟨by decide, by decide⟩, by decide +kernel⟩⟩
theorem kl_X5_94 : Cond.methodLink RX5 94 yX3_arrange ∈ mm_GW := (mm_in (i := 211) (by decide +kernel) (by decide +kernel))
theorem v_X5_94_0 : mm_V RX5 94 0 yX3_arrange cX3_arrange 1 none 0 := ⟨RX0, TX0, 4, rfl, kc_X3_arrange, ki_X3, kn_X3_arrange, Or.inr ⟨"TwoEndQueues$Layout", yX3_arrange, kl_X5_94, (mm_in (i := 213) (by decide +kernel) (by decide +kernel)), (mm_in (i := 214) (by decide +kernel) (by decide +kernel)), ⟨by decide, by decide⟩, by decide +kernel, Or.inl rfl⟩⟩
theorem v_X5_94_2 : mm_V RX5 94 2 yX3_arrange cX3_arrange 1 none 0 := ⟨RX2, TX2, 3, rfl, kc_X3_arrange, ki_X3, kn_X3_arrange, Or.inr ⟨"TwoEndQueues$Layout", yX3_arrange, kl_X5_94, (mm_in (i := 213) (by decide +kernel) (by decide +kernel)), (mm_in (i := 215) (by decide +kernel) (by decide +kernel)), ⟨by decide, by decide⟩, by decide +kernel, Or.inl rfl⟩⟩
theorem v_X5_94_3 : mm_V RX5 94 3 yX3_arrange cX3_arrange 1 none 0 := ⟨RX4, TX4, 3, rfl, kc_X3_arrange, ki_X3, kn_X3_arrange, Or.inr ⟨"TwoEndQueues$Layout", yX3_arrange, kl_X5_94, (mm_in (i := 213) (by decide +kernel) (by decide +kernel)), (mm_in (i := 216) (by decide +kernel) (by decide +kernel)), ⟨by decide, by decide⟩, by decide +kernel, Or.inl rfl⟩⟩
theorem v_X5_94 {ci : Nat} (h : ci = 0 ∨ ci = 2 ∨ ci = 3) : mm_V RX5 94 ci yX3_arrange cX3_arrange 1 none 0 := by rcases h with rfl | rfl | rfl <;> first | exact v_X5_94_0 | exact v_X5_94_2 | exact v_X5_94_3
theorem kl_X3_43 : Cond.methodLink RX3 43 yX3_lineUp ∈ mm_GW := (mm_in (i := 218) (by decide +kernel) (by decide +kernel))
theorem kl_X3_37 : Cond.methodLink RX3 37 yX3_find ∈ mm_GW := (mm_in (i := 222) (by decide +kernel) (by decide +kernel))
theorem v_X3_37_0 : mm_V RX3 37 0 yX3_find cX3_find 3 (some .int) 1 := ⟨RX0, TX0, 4, rfl, kc_X3_find, ki_X3, kn_X3_find, Or.inr ⟨"TwoEndQueues$Layout", yX3_find, kl_X3_37, (mm_in (i := 224) (by decide +kernel) (by decide +kernel)), (mm_in (i := 225) (by decide +kernel) (by decide +kernel)), ⟨by decide, by decide⟩, by decide +kernel, Or.inl rfl⟩⟩
theorem v_X3_37_2 : mm_V RX3 37 2 yX3_find cX3_find 3 (some .int) 1 := ⟨RX2, TX2, 3, rfl, kc_X3_find, ki_X3, kn_X3_find, Or.inr ⟨"TwoEndQueues$Layout", yX3_find, kl_X3_37, (mm_in (i := 224) (by decide +kernel) (by decide +kernel)), (mm_in (i := 226) (by decide +kernel) (by decide +kernel)), ⟨by decide, by decide⟩, by decide +kernel, Or.inl rfl⟩⟩
theorem v_X3_37_3 : mm_V RX3 37 3 yX3_find cX3_find 3 (some .int) 1 := ⟨RX4, TX4, 3, rfl, kc_X3_find, ki_X3, kn_X3_find, Or.inr ⟨"TwoEndQueues$Layout", yX3_find, kl_X3_37, (mm_in (i := 224) (by decide +kernel) (by decide +kernel)), (mm_in (i := 227) (by decide +kernel) (by decide +kernel)), ⟨by decide, by decide⟩, by decide +kernel, Or.inl rfl⟩⟩
theorem v_X3_37 {ci : Nat} (h : ci = 0 ∨ ci = 2 ∨ ci = 3) : mm_V RX3 37 ci yX3_find cX3_find 3 (some .int) 1 := by rcases h with rfl | rfl | rfl <;> first | exact v_X3_37_0 | exact v_X3_37_2 | exact v_X3_37_3
theorem kl_X3_27 : Cond.methodLink RX3 27 yX3_handleAt ∈ mm_GW := (mm_in (i := 229) (by decide +kernel) (by decide +kernel))
theorem v_X3_27_0 : mm_V RX3 27 0 yX3_handleAt cX3_handleAt 2 (some .int) 1 := ⟨RX0, TX0, 4, rfl, kc_X3_handleAt, ki_X3, kn_X3_handleAt, Or.inr ⟨"TwoEndQueues$Layout", yX3_handleAt, kl_X3_27, (mm_in (i := 231) (by decide +kernel) (by decide +kernel)), (mm_in (i := 232) (by decide +kernel) (by decide +kernel)), ⟨by decide, by decide⟩, by decide +kernel, Or.inl rfl⟩⟩
theorem v_X3_27_2 : mm_V RX3 27 2 yX3_handleAt cX3_handleAt 2 (some .int) 1 := ⟨RX2, TX2, 3, rfl, kc_X3_handleAt, ki_X3, kn_X3_handleAt, Or.inr ⟨"TwoEndQueues$Layout", yX3_handleAt, kl_X3_27, (mm_in (i := 231) (by decide +kernel) (by decide +kernel)), (mm_in (i := 233) (by decide +kernel) (by decide +kernel)), ⟨by decide, by decide⟩, by decide +kernel, Or.inl rfl⟩⟩
theorem v_X3_27_3 : mm_V RX3 27 3 yX3_handleAt cX3_handleAt 2 (some .int) 1 := ⟨RX4, TX4, 3, rfl, kc_X3_handleAt, ki_X3, kn_X3_handleAt, Or.inr ⟨"TwoEndQueues$Layout", yX3_handleAt, kl_X3_27, (mm_in (i := 231) (by decide +kernel) (by decide +kernel)), (mm_in (i := 234) (by decide +kernel) (by decide +kernel)), ⟨by decide, by decide⟩, by decide +kernel, Or.inl rfl⟩⟩
theorem v_X3_27 {ci : Nat} (h : ci = 0 ∨ ci = 2 ∨ ci = 3) : mm_V RX3 27 ci yX3_handleAt cX3_handleAt 2 (some .int) 1 := by rcases h with rfl | rfl | rfl <;> first | exact v_X3_27_0 | exact v_X3_27_2 | exact v_X3_27_3
theorem kl_X3_19 : Cond.methodLink RX3 19 yX3_isPosition ∈ mm_GW := (mm_in (i := 236) (by decide +kernel) (by decide +kernel))
theorem v_X3_19_0 : mm_V RX3 19 0 yX3_isPosition cX3_isPosition 2 (some .boolean) 1 := ⟨RX0, TX0, 4, rfl, kc_X3_isPosition, ki_X3, kn_X3_isPosition, Or.inr ⟨"TwoEndQueues$Layout", yX3_isPosition, kl_X3_19, (mm_in (i := 238) (by decide +kernel) (by decide +kernel)), (mm_in (i := 239) (by decide +kernel) (by decide +kernel)), ⟨by decide, by decide⟩, by decide +kernel, Or.inl rfl⟩⟩
theorem v_X3_19_2 : mm_V RX3 19 2 yX3_isPosition cX3_isPosition 2 (some .boolean) 1 := ⟨RX2, TX2, 3, rfl, kc_X3_isPosition, ki_X3, kn_X3_isPosition, Or.inr ⟨"TwoEndQueues$Layout", yX3_isPosition, kl_X3_19, (mm_in (i := 238) (by decide +kernel) (by decide +kernel)), (mm_in (i := 240) (by decide +kernel) (by decide +kernel)), ⟨by decide, by decide⟩, by decide +kernel, Or.inl rfl⟩⟩
theorem v_X3_19_3 : mm_V RX3 19 3 yX3_isPosition cX3_isPosition 2 (some .boolean) 1 := ⟨RX4, TX4, 3, rfl, kc_X3_isPosition, ki_X3, kn_X3_isPosition, Or.inr ⟨"TwoEndQueues$Layout", yX3_isPosition, kl_X3_19, (mm_in (i := 238) (by decide +kernel) (by decide +kernel)), (mm_in (i := 241) (by decide +kernel) (by decide +kernel)), ⟨by decide, by decide⟩, by decide +kernel, Or.inl rfl⟩⟩
theorem v_X3_19 {ci : Nat} (h : ci = 0 ∨ ci = 2 ∨ ci = 3) : mm_V RX3 19 ci yX3_isPosition cX3_isPosition 2 (some .boolean) 1 := by rcases h with rfl | rfl | rfl <;> first | exact v_X3_19_0 | exact v_X3_19_2 | exact v_X3_19_3
theorem kl_X3_49 : Cond.methodLink RX3 49 yX3_exchange ∈ mm_GW := (mm_in (i := 243) (by decide +kernel) (by decide +kernel))
theorem v_X3_49_0 : mm_V RX3 49 0 yX3_exchange cX3_exchange 4 none 2 := ⟨RX0, TX0, 4, rfl, kc_X3_exchange, ki_X3, kn_X3_exchange, Or.inr ⟨"TwoEndQueues$Layout", yX3_exchange, kl_X3_49, (mm_in (i := 245) (by decide +kernel) (by decide +kernel)), (mm_in (i := 246) (by decide +kernel) (by decide +kernel)), ⟨by decide, by decide⟩, by decide +kernel, Or.inl rfl⟩⟩
theorem v_X3_49_2 : mm_V RX3 49 2 yX3_exchange cX3_exchange 4 none 2 := ⟨RX2, TX2, 3, rfl, kc_X3_exchange, ki_X3, kn_X3_exchange, Or.inr ⟨"TwoEndQueues$Layout", yX3_exchange, kl_X3_49, (mm_in (i := 245) (by decide +kernel) (by decide +kernel)), (mm_in (i := 247) (by decide +kernel) (by decide +kernel)), ⟨by decide, by decide⟩, by decide +kernel, Or.inl rfl⟩⟩
theorem v_X3_49_3 : mm_V RX3 49 3 yX3_exchange cX3_exchange 4 none 2 := ⟨RX4, TX4, 3, rfl, kc_X3_exchange, ki_X3, kn_X3_exchange, Or.inr ⟨"TwoEndQueues$Layout", yX3_exchange, kl_X3_49, (mm_in (i := 245) (by decide +kernel) (by decide +kernel)), (mm_in (i := 248) (by decide +kernel) (by decide +kernel)), ⟨by decide, by decide⟩, by decide +kernel, Or.inl rfl⟩⟩
theorem v_X3_49 {ci : Nat} (h : ci = 0 ∨ ci = 2 ∨ ci = 3) : mm_V RX3 49 ci yX3_exchange cX3_exchange 4 none 2 := by rcases h with rfl | rfl | rfl <;> first | exact v_X3_49_0 | exact v_X3_49_2 | exact v_X3_49_3
theorem kl_X3_46 : Cond.methodLink RX3 46 ⟨"TwoEndQueues$Layout", "settleAll", "()V"⟩ ∈ mm_GW := (mm_in (i := 250) (by decide +kernel) (by decide +kernel))
theorem v_X3_46_0 : mm_V RX3 46 0 yX0_settleAll cX0_settleAll 2 none 0 := ⟨RX0, TX0, 4, rfl, kc_X0_settleAll, ki_X0, kn_X0_settleAll, Or.inr ⟨"TwoEndQueues$Layout", ⟨"TwoEndQueues$Layout", "settleAll", "()V"⟩, kl_X3_46, (mm_in (i := 252) (by decide +kernel) (by decide +kernel)), (mm_in (i := 253) (by decide +kernel) (by decide +kernel)), ⟨by decide, by decide⟩, by decide +kernel, Or.inr (mm_inl (i := 251) (by decide +kernel))⟩⟩
theorem v_X3_46_2 : mm_V RX3 46 2 yX2_settleAll cX2_settleAll 2 none 0 := ⟨RX2, TX2, 3, rfl, kc_X2_settleAll, ki_X2, kn_X2_settleAll, Or.inr ⟨"TwoEndQueues$Layout", ⟨"TwoEndQueues$Layout", "settleAll", "()V"⟩, kl_X3_46, (mm_in (i := 252) (by decide +kernel) (by decide +kernel)), (mm_in (i := 270) (by decide +kernel) (by decide +kernel)), ⟨by decide, by decide⟩, by decide +kernel, Or.inr (mm_inl (i := 251) (by decide +kernel))⟩⟩
theorem v_X3_46_3 : mm_V RX3 46 3 yX4_settleAll cX4_settleAll 2 none 0 := ⟨RX4, TX4, 3, rfl, kc_X4_settleAll, ki_X4, kn_X4_settleAll, Or.inr ⟨"TwoEndQueues$Layout", ⟨"TwoEndQueues$Layout", "settleAll", "()V"⟩, kl_X3_46, (mm_in (i := 252) (by decide +kernel) (by decide +kernel)), (mm_in (i := 301) (by decide +kernel) (by decide +kernel)), ⟨by decide, by decide⟩, by decide +kernel, Or.inr (mm_inl (i := 251) (by decide +kernel))⟩⟩
theorem kl_X0_41 : Cond.methodLink RX0 41 yX0_down ∈ mm_GW := (mm_in (i := 256) (by decide +kernel) (by decide +kernel))
theorem v_X0_41_0 : mm_V RX0 41 0 yX0_down cX0_down 7 none 1 := ⟨RX0, TX0, 4, rfl, kc_X0_down, ki_X0, kn_X0_down, Or.inl ⟨kl_X0_41, (mm_inp (i := 0) (by decide +kernel) (by decide +kernel)), ⟨by decide, by decide⟩, by decide +kernel⟩⟩
theorem kl_X0_29 : Cond.methodLink RX0 29 ⟨"TwoEndQueues$HeapLayout", "ahead", "(IIZ)Z"⟩ ∈ mm_GW := (mm_in (i := 260) (by decide +kernel) (by decide +kernel))
theorem v_X0_29_0 : mm_V RX0 29 0 yX3_ahead cX3_ahead 4 (some .boolean) 3 := ⟨RX0, TX0, 4, rfl, kc_X3_ahead, ki_X3, kn_X3_ahead, Or.inr ⟨"TwoEndQueues$Layout", ⟨"TwoEndQueues$HeapLayout", "ahead", "(IIZ)Z"⟩, kl_X0_29, (mm_in (i := 261) (by decide +kernel) (by decide +kernel)), (mm_in (i := 263) (by decide +kernel) (by decide +kernel)), ⟨by decide, by decide⟩, by decide +kernel, Or.inl rfl⟩⟩
theorem kl_X0_33 : Cond.methodLink RX0 33 ⟨"TwoEndQueues$HeapLayout", "exchange", "(II)V"⟩ ∈ mm_GW := (mm_in (i := 266) (by decide +kernel) (by decide +kernel))
theorem v_X0_33_0 : mm_V RX0 33 0 yX3_exchange cX3_exchange 4 none 2 := ⟨RX0, TX0, 4, rfl, kc_X3_exchange, ki_X3, kn_X3_exchange, Or.inr ⟨"TwoEndQueues$Layout", ⟨"TwoEndQueues$HeapLayout", "exchange", "(II)V"⟩, kl_X0_33, (mm_in (i := 267) (by decide +kernel) (by decide +kernel)), (mm_in (i := 269) (by decide +kernel) (by decide +kernel)), ⟨by decide, by decide⟩, by decide +kernel, Or.inl rfl⟩⟩
theorem kl_X2_46 : Cond.methodLink RX2 46 yX2_sinkLow ∈ mm_GW := (mm_in (i := 273) (by decide +kernel) (by decide +kernel))
theorem v_X2_46_2 : mm_V RX2 46 2 yX2_sinkLow cX2_sinkLow 7 none 1 := ⟨RX2, TX2, 3, rfl, kc_X2_sinkLow, ki_X2, kn_X2_sinkLow, Or.inl ⟨kl_X2_46, (mm_inp (i := 1) (by decide +kernel) (by decide +kernel)), ⟨by decide, by decide⟩, by decide +kernel⟩⟩
theorem kl_X2_36 : Cond.methodLink RX2 36 yX2_order ∈ mm_GW := (mm_in (i := 277) (by decide +kernel) (by decide +kernel))
theorem v_X2_36_2 : mm_V RX2 36 2 yX2_order cX2_order 2 none 1 := ⟨RX2, TX2, 3, rfl, kc_X2_order, ki_X2, kn_X2_order, Or.inl ⟨kl_X2_36, (mm_inp (i := 2) (by decide +kernel) (by decide +kernel)), ⟨by decide, by decide⟩, by decide +kernel⟩⟩
theorem kl_X2_9 : Cond.methodLink RX2 9 yX2_high ∈ mm_GW := (mm_in (i := 281) (by decide +kernel) (by decide +kernel))
theorem s_X2_9 : mm_St RX2 9 yX2_high 1 := ⟨ki_X2, ks_X2_high, ⟨by decide, by decide⟩, by decide +kernel, Or.inl kl_X2_9⟩
theorem kl_X2_19 : Cond.methodLink RX2 19 yX2_low ∈ mm_GW := (mm_in (i := 284) (by decide +kernel) (by decide +kernel))
theorem s_X2_19 : mm_St RX2 19 yX2_low 1 := ⟨ki_X2, ks_X2_low, ⟨by decide, by decide⟩, by decide +kernel, Or.inl kl_X2_19⟩
theorem kl_X2_25 : Cond.methodLink RX2 25 ⟨"TwoEndQueues$IntervalLayout", "ahead", "(IIZ)Z"⟩ ∈ mm_GW := (mm_in (i := 287) (by decide +kernel) (by decide +kernel))
theorem v_X2_25_2 : mm_V RX2 25 2 yX3_ahead cX3_ahead 4 (some .boolean) 3 := ⟨RX2, TX2, 3, rfl, kc_X3_ahead, ki_X3, kn_X3_ahead, Or.inr ⟨"TwoEndQueues$Layout", ⟨"TwoEndQueues$IntervalLayout", "ahead", "(IIZ)Z"⟩, kl_X2_25, (mm_in (i := 288) (by decide +kernel) (by decide +kernel)), (mm_in (i := 289) (by decide +kernel) (by decide +kernel)), ⟨by decide, by decide⟩, by decide +kernel, Or.inl rfl⟩⟩
theorem kl_X2_29 : Cond.methodLink RX2 29 ⟨"TwoEndQueues$IntervalLayout", "exchange", "(II)V"⟩ ∈ mm_GW := (mm_in (i := 290) (by decide +kernel) (by decide +kernel))
theorem v_X2_29_2 : mm_V RX2 29 2 yX3_exchange cX3_exchange 4 none 2 := ⟨RX2, TX2, 3, rfl, kc_X3_exchange, ki_X3, kn_X3_exchange, Or.inr ⟨"TwoEndQueues$Layout", ⟨"TwoEndQueues$IntervalLayout", "exchange", "(II)V"⟩, kl_X2_29, (mm_in (i := 291) (by decide +kernel) (by decide +kernel)), (mm_in (i := 292) (by decide +kernel) (by decide +kernel)), ⟨by decide, by decide⟩, by decide +kernel, Or.inl rfl⟩⟩
theorem kl_X2_49 : Cond.methodLink RX2 49 yX2_sinkHigh ∈ mm_GW := (mm_in (i := 293) (by decide +kernel) (by decide +kernel))
theorem v_X2_49_2 : mm_V RX2 49 2 yX2_sinkHigh cX2_sinkHigh 7 none 1 := ⟨RX2, TX2, 3, rfl, kc_X2_sinkHigh, ki_X2, kn_X2_sinkHigh, Or.inl ⟨kl_X2_49, (mm_inp (i := 3) (by decide +kernel) (by decide +kernel)), ⟨by decide, by decide⟩, by decide +kernel⟩⟩
theorem kl_X2_22 : Cond.methodLink RX2 22 yX2_top ∈ mm_GW := (mm_in (i := 297) (by decide +kernel) (by decide +kernel))
theorem v_X2_22_2 : mm_V RX2 22 2 yX2_top cX2_top 2 (some .int) 1 := ⟨RX2, TX2, 3, rfl, kc_X2_top, ki_X2, kn_X2_top, Or.inl ⟨kl_X2_22, (mm_inp (i := 4) (by decide +kernel) (by decide +kernel)), ⟨by decide, by decide⟩, by decide +kernel⟩⟩
theorem kl_X4_52 : Cond.methodLink RX4 52 yX4_sink ∈ mm_GW := (mm_in (i := 304) (by decide +kernel) (by decide +kernel))
theorem v_X4_52_3 : mm_V RX4 52 3 yX4_sink cX4_sink 7 none 1 := ⟨RX4, TX4, 3, rfl, kc_X4_sink, ki_X4, kn_X4_sink, Or.inl ⟨kl_X4_52, (mm_inp (i := 5) (by decide +kernel) (by decide +kernel)), ⟨by decide, by decide⟩, by decide +kernel⟩⟩
theorem kl_X4_33 : Cond.methodLink RX4 33 yX4_isLow ∈ mm_GW := (mm_in (i := 308) (by decide +kernel) (by decide +kernel))
theorem s_X4_33 : mm_St RX4 33 yX4_isLow 1 := ⟨ki_X4, ks_X4_isLow, ⟨by decide, by decide⟩, by decide +kernel, Or.inl kl_X4_33⟩
theorem kl_X4_9 : Cond.methodLink RX4 9 yX4_levelOf ∈ mm_GW := (mm_in (i := 311) (by decide +kernel) (by decide +kernel))
theorem s_X4_9 : mm_St RX4 9 yX4_levelOf 1 := ⟨ki_X4, ks_X4_levelOf, ⟨by decide, by decide⟩, by decide +kernel, Or.inl kl_X4_9⟩
theorem kl_X4_37 : Cond.methodLink RX4 37 yX4_foremostBelow ∈ mm_GW := (mm_in (i := 314) (by decide +kernel) (by decide +kernel))
theorem v_X4_37_3 : mm_V RX4 37 3 yX4_foremostBelow cX4_foremostBelow 6 (some .int) 2 := ⟨RX4, TX4, 3, rfl, kc_X4_foremostBelow, ki_X4, kn_X4_foremostBelow, Or.inl ⟨kl_X4_37, (mm_inp (i := 6) (by decide +kernel) (by decide +kernel)), ⟨by decide, by decide⟩, by decide +kernel⟩⟩
theorem kl_X4_25 : Cond.methodLink RX4 25 ⟨"TwoEndQueues$LevelLayout", "ahead", "(IIZ)Z"⟩ ∈ mm_GW := (mm_in (i := 318) (by decide +kernel) (by decide +kernel))
theorem v_X4_25_3 : mm_V RX4 25 3 yX3_ahead cX3_ahead 4 (some .boolean) 3 := ⟨RX4, TX4, 3, rfl, kc_X3_ahead, ki_X3, kn_X3_ahead, Or.inr ⟨"TwoEndQueues$Layout", ⟨"TwoEndQueues$LevelLayout", "ahead", "(IIZ)Z"⟩, kl_X4_25, (mm_in (i := 319) (by decide +kernel) (by decide +kernel)), (mm_in (i := 320) (by decide +kernel) (by decide +kernel)), ⟨by decide, by decide⟩, by decide +kernel, Or.inl rfl⟩⟩
theorem kl_X4_29 : Cond.methodLink RX4 29 ⟨"TwoEndQueues$LevelLayout", "exchange", "(II)V"⟩ ∈ mm_GW := (mm_in (i := 321) (by decide +kernel) (by decide +kernel))
theorem v_X4_29_3 : mm_V RX4 29 3 yX3_exchange cX3_exchange 4 none 2 := ⟨RX4, TX4, 3, rfl, kc_X3_exchange, ki_X3, kn_X3_exchange, Or.inr ⟨"TwoEndQueues$Layout", ⟨"TwoEndQueues$LevelLayout", "exchange", "(II)V"⟩, kl_X4_29, (mm_in (i := 322) (by decide +kernel) (by decide +kernel)), (mm_in (i := 323) (by decide +kernel) (by decide +kernel)), ⟨by decide, by decide⟩, by decide +kernel, Or.inl rfl⟩⟩
theorem kl_X4_41 : Cond.methodLink RX4 41 ⟨"TwoEndQueues$LevelLayout", "parentOf", "(I)I"⟩ ∈ mm_GW := (mm_in (i := 324) (by decide +kernel) (by decide +kernel))
theorem kl_L_116 : Cond.methodLink RL 116 yX7_clear ∈ mm_GW := (mm_in (i := 328) (by decide +kernel) (by decide +kernel))
theorem v_L_116_6 : mm_V RL 116 6 yX7_clear cX7_clear 2 (some .int) 0 := ⟨RX7, TX7, 4, rfl, kc_X7_clear, ki_X7, kn_X7_clear, Or.inl ⟨kl_L_116, (mm_in (i := 330) (by decide +kernel) (by decide +kernel)), ⟨by decide, by decide⟩, by decide +kernel⟩⟩
theorem kl_X7_37 : Cond.methodLink RX7 37 yX5_itemCount ∈ mm_GW := (mm_in (i := 332) (by decide +kernel) (by decide +kernel))
theorem v_X7_37_4 : mm_V RX7 37 4 yX5_itemCount cX5_itemCount 1 (some .int) 0 := ⟨RX5, TX5, 4, rfl, kc_X5_itemCount, ki_X5, kn_X5_itemCount, Or.inl ⟨kl_X7_37, (mm_in (i := 334) (by decide +kernel) (by decide +kernel)), ⟨by decide, by decide⟩, by decide +kernel⟩⟩
theorem kl_X7_88 : Cond.methodLink RX7 88 yX5_empty ∈ mm_GW := (mm_in (i := 336) (by decide +kernel) (by decide +kernel))
theorem v_X7_88_4 : mm_V RX7 88 4 yX5_empty cX5_empty 2 none 0 := ⟨RX5, TX5, 4, rfl, kc_X5_empty, ki_X5, kn_X5_empty, Or.inl ⟨kl_X7_88, (mm_in (i := 338) (by decide +kernel) (by decide +kernel)), ⟨by decide, by decide⟩, by decide +kernel⟩⟩
theorem kl_L_120 : Cond.methodLink RL 120 yX7_size ∈ mm_GW := (mm_in (i := 340) (by decide +kernel) (by decide +kernel))
theorem v_L_120_6 : mm_V RL 120 6 yX7_size cX7_size 1 (some .int) 0 := ⟨RX7, TX7, 4, rfl, kc_X7_size, ki_X7, kn_X7_size, Or.inl ⟨kl_L_120, (mm_in (i := 342) (by decide +kernel) (by decide +kernel)), ⟨by decide, by decide⟩, by decide +kernel⟩⟩
theorem kl_L_124 : Cond.methodLink RL 124 yX7_handles ∈ mm_GW := (mm_in (i := 344) (by decide +kernel) (by decide +kernel))
theorem v_L_124_6 : mm_V RL 124 6 yX7_handles cX7_handles 1 (some .int) 0 := ⟨RX7, TX7, 4, rfl, kc_X7_handles, ki_X7, kn_X7_handles, Or.inl ⟨kl_L_124, (mm_in (i := 346) (by decide +kernel) (by decide +kernel)), ⟨by decide, by decide⟩, by decide +kernel⟩⟩
theorem kl_X7_91 : Cond.methodLink RX7 91 yX5_handleSet ∈ mm_GW := (mm_in (i := 348) (by decide +kernel) (by decide +kernel))
theorem v_X7_91_4 : mm_V RX7 91 4 yX5_handleSet cX5_handleSet 3 (some .int) 0 := ⟨RX5, TX5, 4, rfl, kc_X5_handleSet, ki_X5, kn_X5_handleSet, Or.inl ⟨kl_X7_91, (mm_in (i := 350) (by decide +kernel) (by decide +kernel)), ⟨by decide, by decide⟩, by decide +kernel⟩⟩
theorem kl_X5_48 : Cond.methodLink RX5 48 ⟨"TwoEndQueues$IntervalLayout", "handleAt", "(I)I"⟩ ∈ mm_GW := (mm_in (i := 352) (by decide +kernel) (by decide +kernel))
theorem v_X5_48_2 : mm_V RX5 48 2 yX3_handleAt cX3_handleAt 2 (some .int) 1 := ⟨RX2, TX2, 3, rfl, kc_X3_handleAt, ki_X3, kn_X3_handleAt, Or.inr ⟨"TwoEndQueues$Layout", ⟨"TwoEndQueues$IntervalLayout", "handleAt", "(I)I"⟩, kl_X5_48, (mm_in (i := 353) (by decide +kernel) (by decide +kernel)), (mm_in (i := 355) (by decide +kernel) (by decide +kernel)), ⟨by decide, by decide⟩, by decide +kernel, Or.inl rfl⟩⟩
theorem kl_L_140 : Cond.methodLink RL 140 yX7_ranked ∈ mm_GW := (mm_in (i := 356) (by decide +kernel) (by decide +kernel))
theorem v_L_140_6 : mm_V RL 140 6 yX7_ranked cX7_ranked 3 (some .int) 1 := ⟨RX7, TX7, 4, rfl, kc_X7_ranked, ki_X7, kn_X7_ranked, Or.inl ⟨kl_L_140, (mm_in (i := 358) (by decide +kernel) (by decide +kernel)), ⟨by decide, by decide⟩, by decide +kernel⟩⟩
theorem kl_X7_114 : Cond.methodLink RX7 114 yX5_has ∈ mm_GW := (mm_in (i := 360) (by decide +kernel) (by decide +kernel))
theorem v_X7_114_4 : mm_V RX7 114 4 yX5_has cX5_has 2 (some .boolean) 1 := ⟨RX5, TX5, 4, rfl, kc_X5_has, ki_X5, kn_X5_has, Or.inl ⟨kl_X7_114, (mm_in (i := 362) (by decide +kernel) (by decide +kernel)), ⟨by decide, by decide⟩, by decide +kernel⟩⟩
theorem kl_X5_41 : Cond.methodLink RX5 41 ⟨"TwoEndQueues$IntervalLayout", "find", "(I)I"⟩ ∈ mm_GW := (mm_in (i := 364) (by decide +kernel) (by decide +kernel))
theorem v_X5_41_2 : mm_V RX5 41 2 yX3_find cX3_find 3 (some .int) 1 := ⟨RX2, TX2, 3, rfl, kc_X3_find, ki_X3, kn_X3_find, Or.inr ⟨"TwoEndQueues$Layout", ⟨"TwoEndQueues$IntervalLayout", "find", "(I)I"⟩, kl_X5_41, (mm_in (i := 365) (by decide +kernel) (by decide +kernel)), (mm_in (i := 367) (by decide +kernel) (by decide +kernel)), ⟨by decide, by decide⟩, by decide +kernel, Or.inl rfl⟩⟩
theorem kl_X7_118 : Cond.methodLink RX7 118 yX5_countLess ∈ mm_GW := (mm_in (i := 368) (by decide +kernel) (by decide +kernel))
theorem v_X7_118_4 : mm_V RX7 118 4 yX5_countLess cX5_countLess 5 (some .int) 1 := ⟨RX5, TX5, 4, rfl, kc_X5_countLess, ki_X5, kn_X5_countLess, Or.inl ⟨kl_X7_118, (mm_in (i := 370) (by decide +kernel) (by decide +kernel)), ⟨by decide, by decide⟩, by decide +kernel⟩⟩
theorem kl_X5_51 : Cond.methodLink RX5 51 ⟨"TwoEndQueues$IntervalLayout", "itemAt", "(I)I"⟩ ∈ mm_GW := (mm_in (i := 372) (by decide +kernel) (by decide +kernel))
theorem v_X5_51_2 : mm_V RX5 51 2 yX3_itemAt cX3_itemAt 2 (some .int) 1 := ⟨RX2, TX2, 3, rfl, kc_X3_itemAt, ki_X3, kn_X3_itemAt, Or.inr ⟨"TwoEndQueues$Layout", ⟨"TwoEndQueues$IntervalLayout", "itemAt", "(I)I"⟩, kl_X5_51, (mm_in (i := 373) (by decide +kernel) (by decide +kernel)), (mm_in (i := 375) (by decide +kernel) (by decide +kernel)), ⟨by decide, by decide⟩, by decide +kernel, Or.inl rfl⟩⟩
theorem kl_L_147 : Cond.methodLink RL 147 yX7_between ∈ mm_GW := (mm_in (i := 378) (by decide +kernel) (by decide +kernel))
theorem v_L_147_6 : mm_V RL 147 6 yX7_between cX7_between 5 (some .int) 2 := ⟨RX7, TX7, 4, rfl, kc_X7_between, ki_X7, kn_X7_between, Or.inl ⟨kl_L_147, (mm_in (i := 380) (by decide +kernel) (by decide +kernel)), ⟨by decide, by decide⟩, by decide +kernel⟩⟩
theorem kl_X7_72 : Cond.methodLink RX7 72 yX5_keyOf ∈ mm_GW := (mm_in (i := 382) (by decide +kernel) (by decide +kernel))
theorem v_X7_72_4 : mm_V RX7 72 4 yX5_keyOf cX5_keyOf 2 (some .int) 1 := ⟨RX5, TX5, 4, rfl, kc_X5_keyOf, ki_X5, kn_X5_keyOf, Or.inl ⟨kl_X7_72, (mm_in (i := 384) (by decide +kernel) (by decide +kernel)), ⟨by decide, by decide⟩, by decide +kernel⟩⟩
theorem kl_X5_45 : Cond.methodLink RX5 45 ⟨"TwoEndQueues$IntervalLayout", "keyAt", "(I)I"⟩ ∈ mm_GW := (mm_in (i := 386) (by decide +kernel) (by decide +kernel))
theorem v_X5_45_2 : mm_V RX5 45 2 yX3_keyAt cX3_keyAt 2 (some .int) 1 := ⟨RX2, TX2, 3, rfl, kc_X3_keyAt, ki_X3, kn_X3_keyAt, Or.inr ⟨"TwoEndQueues$Layout", ⟨"TwoEndQueues$IntervalLayout", "keyAt", "(I)I"⟩, kl_X5_45, (mm_in (i := 387) (by decide +kernel) (by decide +kernel)), (mm_in (i := 389) (by decide +kernel) (by decide +kernel)), ⟨by decide, by decide⟩, by decide +kernel, Or.inl rfl⟩⟩
theorem kl_X3_23 : Cond.methodLink RX3 23 yX3_itemAt ∈ mm_GW := (mm_in (i := 392) (by decide +kernel) (by decide +kernel))
theorem v_X3_23_0 : mm_V RX3 23 0 yX3_itemAt cX3_itemAt 2 (some .int) 1 := ⟨RX0, TX0, 4, rfl, kc_X3_itemAt, ki_X3, kn_X3_itemAt, Or.inr ⟨"TwoEndQueues$Layout", yX3_itemAt, kl_X3_23, (mm_in (i := 1367) (by decide +kernel) (by decide +kernel)), (mm_in (i := 1368) (by decide +kernel) (by decide +kernel)), ⟨by decide, by decide⟩, by decide +kernel, Or.inl rfl⟩⟩
theorem v_X3_23_2 : mm_V RX3 23 2 yX3_itemAt cX3_itemAt 2 (some .int) 1 := ⟨RX2, TX2, 3, rfl, kc_X3_itemAt, ki_X3, kn_X3_itemAt, Or.inr ⟨"TwoEndQueues$Layout", yX3_itemAt, kl_X3_23, (mm_in (i := 1367) (by decide +kernel) (by decide +kernel)), (mm_in (i := 1369) (by decide +kernel) (by decide +kernel)), ⟨by decide, by decide⟩, by decide +kernel, Or.inl rfl⟩⟩
theorem v_X3_23_3 : mm_V RX3 23 3 yX3_itemAt cX3_itemAt 2 (some .int) 1 := ⟨RX4, TX4, 3, rfl, kc_X3_itemAt, ki_X3, kn_X3_itemAt, Or.inr ⟨"TwoEndQueues$Layout", yX3_itemAt, kl_X3_23, (mm_in (i := 1367) (by decide +kernel) (by decide +kernel)), (mm_in (i := 1370) (by decide +kernel) (by decide +kernel)), ⟨by decide, by decide⟩, by decide +kernel, Or.inl rfl⟩⟩
theorem v_X3_23 {ci : Nat} (h : ci = 0 ∨ ci = 2 ∨ ci = 3) : mm_V RX3 23 ci yX3_itemAt cX3_itemAt 2 (some .int) 1 := by rcases h with rfl | rfl | rfl <;> first | exact v_X3_23_0 | exact v_X3_23_2 | exact v_X3_23_3
theorem kl_L_173 : Cond.methodLink RL 173 yX7_forget ∈ mm_GW := (mm_in (i := 393) (by decide +kernel) (by decide +kernel))
theorem v_L_173_6 : mm_V RL 173 6 yX7_forget cX7_forget 2 (some .int) 0 := ⟨RX7, TX7, 4, rfl, kc_X7_forget, ki_X7, kn_X7_forget, Or.inl ⟨kl_L_173, (mm_in (i := 395) (by decide +kernel) (by decide +kernel)), ⟨by decide, by decide⟩, by decide +kernel⟩⟩
theorem kl_X7_173 : Cond.methodLink RX7 173 yX5_forgetCounts ∈ mm_GW := (mm_in (i := 397) (by decide +kernel) (by decide +kernel))
theorem v_X7_173_4 : mm_V RX7 173 4 yX5_forgetCounts cX5_forgetCounts 2 none 0 := ⟨RX5, TX5, 4, rfl, kc_X5_forgetCounts, ki_X5, kn_X5_forgetCounts, Or.inl ⟨kl_X7_173, (mm_in (i := 399) (by decide +kernel) (by decide +kernel)), ⟨by decide, by decide⟩, by decide +kernel⟩⟩
theorem kl_L_183 : Cond.methodLink RL 183 yX7_fewest ∈ mm_GW := (mm_in (i := 401) (by decide +kernel) (by decide +kernel))
theorem v_L_183_6 : mm_V RL 183 6 yX7_fewest cX7_fewest 3 (some .int) 0 := ⟨RX7, TX7, 4, rfl, kc_X7_fewest, ki_X7, kn_X7_fewest, Or.inl ⟨kl_L_183, (mm_in (i := 403) (by decide +kernel) (by decide +kernel)), ⟨by decide, by decide⟩, by decide +kernel⟩⟩
theorem kl_X7_170 : Cond.methodLink RX7 170 yX5_countedIn ∈ mm_GW := (mm_in (i := 405) (by decide +kernel) (by decide +kernel))
theorem v_X7_170_4 : mm_V RX7 170 4 yX5_countedIn cX5_countedIn 2 (some .int) 1 := ⟨RX5, TX5, 4, rfl, kc_X5_countedIn, ki_X5, kn_X5_countedIn, Or.inl ⟨kl_X7_170, (mm_in (i := 205) (by decide +kernel) (by decide +kernel)), ⟨by decide, by decide⟩, by decide +kernel⟩⟩
theorem kl_L_190 : Cond.methodLink RL 190 yX7_clearText ∈ mm_GW := (mm_in (i := 406) (by decide +kernel) (by decide +kernel))
theorem v_L_190_6 : mm_V RL 190 6 yX7_clearText cX7_clearText 2 (some .int) 0 := ⟨RX7, TX7, 4, rfl, kc_X7_clearText, ki_X7, kn_X7_clearText, Or.inl ⟨kl_L_190, (mm_in (i := 408) (by decide +kernel) (by decide +kernel)), ⟨by decide, by decide⟩, by decide +kernel⟩⟩
theorem kl_L_194 : Cond.methodLink RL 194 yX7_fault ∈ mm_GW := (mm_in (i := 410) (by decide +kernel) (by decide +kernel))
theorem v_L_194_6 : mm_V RL 194 6 yX7_fault cX7_fault 1 (some .int) 0 := ⟨RX7, TX7, 4, rfl, kc_X7_fault, ki_X7, kn_X7_fault, Or.inl ⟨kl_L_194, (mm_in (i := 412) (by decide +kernel) (by decide +kernel)), ⟨by decide, by decide⟩, by decide +kernel⟩⟩
theorem kl_X7_196 : Cond.methodLink RX7 196 yX6_firstFault ∈ mm_GW := (mm_in (i := 414) (by decide +kernel) (by decide +kernel))
theorem v_X7_196_5 : mm_V RX7 196 5 yX6_firstFault cX6_firstFault 2 (some .int) 0 := ⟨RX6, TX6, 7, rfl, kc_X6_firstFault, ki_X6, kn_X6_firstFault, Or.inl ⟨kl_X7_196, (mm_in (i := 416) (by decide +kernel) (by decide +kernel)), ⟨by decide, by decide⟩, by decide +kernel⟩⟩
theorem kl_X6_22 : Cond.methodLink RX6 22 yX6_rewind ∈ mm_GW := (mm_in (i := 418) (by decide +kernel) (by decide +kernel))
theorem v_X6_22_5 : mm_V RX6 22 5 yX6_rewind cX6_rewind 1 none 0 := ⟨RX6, TX6, 7, rfl, kc_X6_rewind, ki_X6, kn_X6_rewind, Or.inl ⟨kl_X6_22, (mm_in (i := 420) (by decide +kernel) (by decide +kernel)), ⟨by decide, by decide⟩, by decide +kernel⟩⟩
theorem kl_X6_25 : Cond.methodLink RX6 25 yX6_readCommand ∈ mm_GW := (mm_in (i := 422) (by decide +kernel) (by decide +kernel))
theorem v_X6_25_5 : mm_V RX6 25 5 yX6_readCommand cX6_readCommand 1 (some .boolean) 0 := ⟨RX6, TX6, 7, rfl, kc_X6_readCommand, ki_X6, kn_X6_readCommand, Or.inl ⟨kl_X6_25, (mm_in (i := 424) (by decide +kernel) (by decide +kernel)), ⟨by decide, by decide⟩, by decide +kernel⟩⟩
theorem kl_X6_29 : Cond.methodLink RX6 29 yX6_current ∈ mm_GW := (mm_in (i := 426) (by decide +kernel) (by decide +kernel))
theorem v_X6_29_5 : mm_V RX6 29 5 yX6_current cX6_current 1 (some .char) 0 := ⟨RX6, TX6, 7, rfl, kc_X6_current, ki_X6, kn_X6_current, Or.inl ⟨kl_X6_29, (mm_inp (i := 7) (by decide +kernel) (by decide +kernel)), ⟨by decide, by decide⟩, by decide +kernel⟩⟩
theorem kl_X6_33 : Cond.methodLink RX6 33 yX6_commandOf ∈ mm_GW := (mm_in (i := 430) (by decide +kernel) (by decide +kernel))
theorem s_X6_33 : mm_St RX6 33 yX6_commandOf 1 := ⟨ki_X6, ks_X6_commandOf, ⟨by decide, by decide⟩, by decide +kernel, Or.inl kl_X6_33⟩
theorem kl_X6_40 : Cond.methodLink RX6 40 yX6_readArguments ∈ mm_GW := (mm_in (i := 433) (by decide +kernel) (by decide +kernel))
theorem v_X6_40_5 : mm_V RX6 40 5 yX6_readArguments cX6_readArguments 1 (some .boolean) 0 := ⟨RX6, TX6, 7, rfl, kc_X6_readArguments, ki_X6, kn_X6_readArguments, Or.inl ⟨kl_X6_40, (mm_inp (i := 8) (by decide +kernel) (by decide +kernel)), ⟨by decide, by decide⟩, by decide +kernel⟩⟩
theorem kl_X6_47 : Cond.methodLink RX6 47 yX6_readKey ∈ mm_GW := (mm_in (i := 437) (by decide +kernel) (by decide +kernel))
theorem v_X6_47_5 : mm_V RX6 47 5 yX6_readKey cX6_readKey 3 (some .boolean) 0 := ⟨RX6, TX6, 7, rfl, kc_X6_readKey, ki_X6, kn_X6_readKey, Or.inl ⟨kl_X6_47, (mm_inp (i := 9) (by decide +kernel) (by decide +kernel)), ⟨by decide, by decide⟩, by decide +kernel⟩⟩
theorem kl_X6_43 : Cond.methodLink RX6 43 yX6_readSign ∈ mm_GW := (mm_in (i := 441) (by decide +kernel) (by decide +kernel))
theorem v_X6_43_5 : mm_V RX6 43 5 yX6_readSign cX6_readSign 2 (some .boolean) 1 := ⟨RX6, TX6, 7, rfl, kc_X6_readSign, ki_X6, kn_X6_readSign, Or.inl ⟨kl_X6_43, (mm_inp (i := 10) (by decide +kernel) (by decide +kernel)), ⟨by decide, by decide⟩, by decide +kernel⟩⟩
theorem kl_X6_53 : Cond.methodLink RX6 53 yX6_readNumber ∈ mm_GW := (mm_in (i := 445) (by decide +kernel) (by decide +kernel))
theorem v_X6_53_5 : mm_V RX6 53 5 yX6_readNumber cX6_readNumber 3 (some .boolean) 1 := ⟨RX6, TX6, 7, rfl, kc_X6_readNumber, ki_X6, kn_X6_readNumber, Or.inl ⟨kl_X6_53, (mm_inp (i := 11) (by decide +kernel) (by decide +kernel)), ⟨by decide, by decide⟩, by decide +kernel⟩⟩
theorem kl_X6_50 : Cond.methodLink RX6 50 yX6_readHandle ∈ mm_GW := (mm_in (i := 449) (by decide +kernel) (by decide +kernel))
theorem v_X6_50_5 : mm_V RX6 50 5 yX6_readHandle cX6_readHandle 2 (some .boolean) 0 := ⟨RX6, TX6, 7, rfl, kc_X6_readHandle, ki_X6, kn_X6_readHandle, Or.inl ⟨kl_X6_50, (mm_inp (i := 12) (by decide +kernel) (by decide +kernel)), ⟨by decide, by decide⟩, by decide +kernel⟩⟩
theorem kl_L_204 : Cond.methodLink RL 204 yX7_checksum ∈ mm_GW := (mm_in (i := 453) (by decide +kernel) (by decide +kernel))
theorem v_L_204_6 : mm_V RL 204 6 yX7_checksum cX7_checksum 5 (some .long) 0 := ⟨RX7, TX7, 4, rfl, kc_X7_checksum, ki_X7, kn_X7_checksum, Or.inl ⟨kl_L_204, (mm_in (i := 455) (by decide +kernel) (by decide +kernel)), ⟨by decide, by decide⟩, by decide +kernel⟩⟩
theorem kl_X7_124 : Cond.methodLink RX7 124 yX5_layout ∈ mm_GW := (mm_in (i := 459) (by decide +kernel) (by decide +kernel))
theorem v_X7_124_4 : mm_V RX7 124 4 yX5_layout cX5_layout 2 (some (.object "TwoEndQueues$Layout")) 1 := ⟨RX5, TX5, 4, rfl, kc_X5_layout, ki_X5, kn_X5_layout, Or.inl ⟨kl_X7_124, (mm_in (i := 184) (by decide +kernel) (by decide +kernel)), ⟨by decide, by decide⟩, by decide +kernel⟩⟩
theorem kl_X7_128 : Cond.methodLink RX7 128 yX3_handleAt ∈ mm_GW := (mm_in (i := 460) (by decide +kernel) (by decide +kernel))
theorem v_X7_128_0 : mm_V RX7 128 0 yX3_handleAt cX3_handleAt 2 (some .int) 1 := ⟨RX0, TX0, 4, rfl, kc_X3_handleAt, ki_X3, kn_X3_handleAt, Or.inr ⟨"TwoEndQueues$Layout", yX3_handleAt, kl_X7_128, (mm_in (i := 231) (by decide +kernel) (by decide +kernel)), (mm_in (i := 232) (by decide +kernel) (by decide +kernel)), ⟨by decide, by decide⟩, by decide +kernel, Or.inl rfl⟩⟩
theorem v_X7_128_2 : mm_V RX7 128 2 yX3_handleAt cX3_handleAt 2 (some .int) 1 := ⟨RX2, TX2, 3, rfl, kc_X3_handleAt, ki_X3, kn_X3_handleAt, Or.inr ⟨"TwoEndQueues$Layout", yX3_handleAt, kl_X7_128, (mm_in (i := 231) (by decide +kernel) (by decide +kernel)), (mm_in (i := 233) (by decide +kernel) (by decide +kernel)), ⟨by decide, by decide⟩, by decide +kernel, Or.inl rfl⟩⟩
theorem v_X7_128_3 : mm_V RX7 128 3 yX3_handleAt cX3_handleAt 2 (some .int) 1 := ⟨RX4, TX4, 3, rfl, kc_X3_handleAt, ki_X3, kn_X3_handleAt, Or.inr ⟨"TwoEndQueues$Layout", yX3_handleAt, kl_X7_128, (mm_in (i := 231) (by decide +kernel) (by decide +kernel)), (mm_in (i := 234) (by decide +kernel) (by decide +kernel)), ⟨by decide, by decide⟩, by decide +kernel, Or.inl rfl⟩⟩
theorem v_X7_128 {ci : Nat} (h : ci = 0 ∨ ci = 2 ∨ ci = 3) : mm_V RX7 128 ci yX3_handleAt cX3_handleAt 2 (some .int) 1 := by rcases h with rfl | rfl | rfl <;> first | exact v_X7_128_0 | exact v_X7_128_2 | exact v_X7_128_3
theorem kl_X7_136 : Cond.methodLink RX7 136 ⟨"TwoEndQueues$Layout", "brokenPairs", "()I"⟩ ∈ mm_GW := (mm_in (i := 461) (by decide +kernel) (by decide +kernel))
theorem v_X7_136_0 : mm_V RX7 136 0 yX0_brokenPairs cX0_brokenPairs 5 (some .int) 0 := ⟨RX0, TX0, 4, rfl, kc_X0_brokenPairs, ki_X0, kn_X0_brokenPairs, Or.inr ⟨"TwoEndQueues$Layout", ⟨"TwoEndQueues$Layout", "brokenPairs", "()I"⟩, kl_X7_136, (mm_in (i := 463) (by decide +kernel) (by decide +kernel)), (mm_in (i := 464) (by decide +kernel) (by decide +kernel)), ⟨by decide, by decide⟩, by decide +kernel, Or.inr (mm_inl (i := 462) (by decide +kernel))⟩⟩
theorem v_X7_136_2 : mm_V RX7 136 2 yX2_brokenPairs cX2_brokenPairs 3 (some .int) 0 := ⟨RX2, TX2, 3, rfl, kc_X2_brokenPairs, ki_X2, kn_X2_brokenPairs, Or.inr ⟨"TwoEndQueues$Layout", ⟨"TwoEndQueues$Layout", "brokenPairs", "()I"⟩, kl_X7_136, (mm_in (i := 463) (by decide +kernel) (by decide +kernel)), (mm_in (i := 472) (by decide +kernel) (by decide +kernel)), ⟨by decide, by decide⟩, by decide +kernel, Or.inr (mm_inl (i := 462) (by decide +kernel))⟩⟩
theorem v_X7_136_3 : mm_V RX7 136 3 yX4_brokenPairs cX4_brokenPairs 6 (some .int) 0 := ⟨RX4, TX4, 3, rfl, kc_X4_brokenPairs, ki_X4, kn_X4_brokenPairs, Or.inr ⟨"TwoEndQueues$Layout", ⟨"TwoEndQueues$Layout", "brokenPairs", "()I"⟩, kl_X7_136, (mm_in (i := 463) (by decide +kernel) (by decide +kernel)), (mm_in (i := 478) (by decide +kernel) (by decide +kernel)), ⟨by decide, by decide⟩, by decide +kernel, Or.inr (mm_inl (i := 462) (by decide +kernel))⟩⟩
theorem kl_X0_19 : Cond.methodLink RX0 19 ⟨"TwoEndQueues$HeapLayout", "parentOf", "(I)I"⟩ ∈ mm_GW := (mm_in (i := 467) (by decide +kernel) (by decide +kernel))
theorem kl_X0_44 : Cond.methodLink RX0 44 ⟨"TwoEndQueues$HeapLayout", "itemAt", "(I)I"⟩ ∈ mm_GW := (mm_in (i := 469) (by decide +kernel) (by decide +kernel))
theorem v_X0_44_0 : mm_V RX0 44 0 yX3_itemAt cX3_itemAt 2 (some .int) 1 := ⟨RX0, TX0, 4, rfl, kc_X3_itemAt, ki_X3, kn_X3_itemAt, Or.inr ⟨"TwoEndQueues$Layout", ⟨"TwoEndQueues$HeapLayout", "itemAt", "(I)I"⟩, kl_X0_44, (mm_in (i := 470) (by decide +kernel) (by decide +kernel)), (mm_in (i := 471) (by decide +kernel) (by decide +kernel)), ⟨by decide, by decide⟩, by decide +kernel, Or.inl rfl⟩⟩
theorem kl_X2_52 : Cond.methodLink RX2 52 ⟨"TwoEndQueues$IntervalLayout", "itemAt", "(I)I"⟩ ∈ mm_GW := (mm_in (i := 475) (by decide +kernel) (by decide +kernel))
theorem v_X2_52_2 : mm_V RX2 52 2 yX3_itemAt cX3_itemAt 2 (some .int) 1 := ⟨RX2, TX2, 3, rfl, kc_X3_itemAt, ki_X3, kn_X3_itemAt, Or.inr ⟨"TwoEndQueues$Layout", ⟨"TwoEndQueues$IntervalLayout", "itemAt", "(I)I"⟩, kl_X2_52, (mm_in (i := 373) (by decide +kernel) (by decide +kernel)), (mm_in (i := 375) (by decide +kernel) (by decide +kernel)), ⟨by decide, by decide⟩, by decide +kernel, Or.inl rfl⟩⟩
theorem kl_X2_33 : Cond.methodLink RX2 33 ⟨"TwoEndQueues$IntervalLayout", "parentOf", "(I)I"⟩ ∈ mm_GW := (mm_in (i := 476) (by decide +kernel) (by decide +kernel))
theorem kl_X4_19 : Cond.methodLink RX4 19 ⟨"TwoEndQueues$LevelLayout", "itemAt", "(I)I"⟩ ∈ mm_GW := (mm_in (i := 481) (by decide +kernel) (by decide +kernel))
theorem v_X4_19_3 : mm_V RX4 19 3 yX3_itemAt cX3_itemAt 2 (some .int) 1 := ⟨RX4, TX4, 3, rfl, kc_X3_itemAt, ki_X3, kn_X3_itemAt, Or.inr ⟨"TwoEndQueues$Layout", ⟨"TwoEndQueues$LevelLayout", "itemAt", "(I)I"⟩, kl_X4_19, (mm_in (i := 482) (by decide +kernel) (by decide +kernel)), (mm_in (i := 483) (by decide +kernel) (by decide +kernel)), ⟨by decide, by decide⟩, by decide +kernel, Or.inl rfl⟩⟩
theorem kl_L_89 : Cond.methodLink RL 89 yL_insert ∈ mm_GW := (mm_in (i := 484) (by decide +kernel) (by decide +kernel))
theorem s_L_89 : mm_St RL 89 yL_insert 3 := ⟨ki_L, ks_L_insert, ⟨by decide, by decide⟩, by decide +kernel, Or.inl kl_L_89⟩
theorem kl_L_7 : Cond.methodLink RL 7 yX7_insert ∈ mm_GW := (mm_in (i := 489) (by decide +kernel) (by decide +kernel))
theorem v_L_7_6 : mm_V RL 7 6 yX7_insert cX7_insert 2 (some .int) 1 := ⟨RX7, TX7, 4, rfl, kc_X7_insert, ki_X7, kn_X7_insert, Or.inl ⟨kl_L_7, (mm_in (i := 491) (by decide +kernel) (by decide +kernel)), ⟨by decide, by decide⟩, by decide +kernel⟩⟩
theorem kl_X7_33 : Cond.methodLink RX7 33 yX7_requireKey ∈ mm_GW := (mm_in (i := 493) (by decide +kernel) (by decide +kernel))
theorem s_X7_33 : mm_St RX7 33 yX7_requireKey 1 := ⟨ki_X7, ks_X7_requireKey, ⟨by decide, by decide⟩, by decide +kernel, Or.inl kl_X7_33⟩
theorem kl_X7_229 : Cond.methodLink RX7 229 yX7_isKey ∈ mm_GW := (mm_in (i := 496) (by decide +kernel) (by decide +kernel))
theorem s_X7_229 : mm_St RX7 229 yX7_isKey 1 := ⟨ki_X7, ks_X7_isKey, ⟨by decide, by decide⟩, by decide +kernel, Or.inl kl_X7_229⟩
theorem kl_X7_98 : Cond.methodLink RX7 98 ⟨"java/lang/IllegalArgumentException", "<init>", "(Ljava/lang/String;)V"⟩ ∈ mm_GW := (mm_in (i := 541) (by decide +kernel) (by decide +kernel))
theorem kl_X7_45 : Cond.methodLink RX7 45 ⟨"java/lang/IllegalStateException", "<init>", "(Ljava/lang/String;)V"⟩ ∈ mm_GW := (mm_in (i := 577) (by decide +kernel) (by decide +kernel))
theorem kl_X7_52 : Cond.methodLink RX7 52 yX5_putIn ∈ mm_GW := (mm_in (i := 583) (by decide +kernel) (by decide +kernel))
theorem v_X7_52_4 : mm_V RX7 52 4 yX5_putIn cX5_putIn 4 (some .int) 1 := ⟨RX5, TX5, 4, rfl, kc_X5_putIn, ki_X5, kn_X5_putIn, Or.inl ⟨kl_X7_52, (mm_in (i := 585) (by decide +kernel) (by decide +kernel)), ⟨by decide, by decide⟩, by decide +kernel⟩⟩
theorem kl_X5_79 : Cond.methodLink RX5 79 yX5_lowestFreeHandle ∈ mm_GW := (mm_in (i := 587) (by decide +kernel) (by decide +kernel))
theorem v_X5_79_4 : mm_V RX5 79 4 yX5_lowestFreeHandle cX5_lowestFreeHandle 2 (some .int) 0 := ⟨RX5, TX5, 4, rfl, kc_X5_lowestFreeHandle, ki_X5, kn_X5_lowestFreeHandle, Or.inl ⟨kl_X5_79, (mm_inp (i := 14) (by decide +kernel) (by decide +kernel)), ⟨by decide, by decide⟩, by decide +kernel⟩⟩
theorem kl_X5_75 : Cond.methodLink RX5 75 yX5_has ∈ mm_GW := (mm_in (i := 591) (by decide +kernel) (by decide +kernel))
theorem v_X5_75_4 : mm_V RX5 75 4 yX5_has cX5_has 2 (some .boolean) 1 := ⟨RX5, TX5, 4, rfl, kc_X5_has, ki_X5, kn_X5_has, Or.inl ⟨kl_X5_75, (mm_in (i := 362) (by decide +kernel) (by decide +kernel)), ⟨by decide, by decide⟩, by decide +kernel⟩⟩
theorem kl_X5_82 : Cond.methodLink RX5 82 yX3_putIn ∈ mm_GW := (mm_in (i := 592) (by decide +kernel) (by decide +kernel))
theorem v_X5_82_0 : mm_V RX5 82 0 yX3_putIn cX3_putIn 3 none 2 := ⟨RX0, TX0, 4, rfl, kc_X3_putIn, ki_X3, kn_X3_putIn, Or.inr ⟨"TwoEndQueues$Layout", yX3_putIn, kl_X5_82, (mm_in (i := 594) (by decide +kernel) (by decide +kernel)), (mm_in (i := 595) (by decide +kernel) (by decide +kernel)), ⟨by decide, by decide⟩, by decide +kernel, Or.inl rfl⟩⟩
theorem v_X5_82_2 : mm_V RX5 82 2 yX3_putIn cX3_putIn 3 none 2 := ⟨RX2, TX2, 3, rfl, kc_X3_putIn, ki_X3, kn_X3_putIn, Or.inr ⟨"TwoEndQueues$Layout", yX3_putIn, kl_X5_82, (mm_in (i := 594) (by decide +kernel) (by decide +kernel)), (mm_in (i := 596) (by decide +kernel) (by decide +kernel)), ⟨by decide, by decide⟩, by decide +kernel, Or.inl rfl⟩⟩
theorem v_X5_82_3 : mm_V RX5 82 3 yX3_putIn cX3_putIn 3 none 2 := ⟨RX4, TX4, 3, rfl, kc_X3_putIn, ki_X3, kn_X3_putIn, Or.inr ⟨"TwoEndQueues$Layout", yX3_putIn, kl_X5_82, (mm_in (i := 594) (by decide +kernel) (by decide +kernel)), (mm_in (i := 597) (by decide +kernel) (by decide +kernel)), ⟨by decide, by decide⟩, by decide +kernel, Or.inl rfl⟩⟩
theorem v_X5_82 {ci : Nat} (h : ci = 0 ∨ ci = 2 ∨ ci = 3) : mm_V RX5 82 ci yX3_putIn cX3_putIn 3 none 2 := by rcases h with rfl | rfl | rfl <;> first | exact v_X5_82_0 | exact v_X5_82_2 | exact v_X5_82_3
theorem kl_X3_33 : Cond.methodLink RX3 33 ⟨"TwoEndQueues$Layout", "enter", "(I)V"⟩ ∈ mm_GW := (mm_in (i := 599) (by decide +kernel) (by decide +kernel))
theorem v_X3_33_0 : mm_V RX3 33 0 yX0_enter cX0_enter 3 none 1 := ⟨RX0, TX0, 4, rfl, kc_X0_enter, ki_X0, kn_X0_enter, Or.inr ⟨"TwoEndQueues$Layout", ⟨"TwoEndQueues$Layout", "enter", "(I)V"⟩, kl_X3_33, (mm_in (i := 601) (by decide +kernel) (by decide +kernel)), (mm_in (i := 602) (by decide +kernel) (by decide +kernel)), ⟨by decide, by decide⟩, by decide +kernel, Or.inr (mm_inl (i := 600) (by decide +kernel))⟩⟩
theorem v_X3_33_2 : mm_V RX3 33 2 yX2_enter cX2_enter 5 none 1 := ⟨RX2, TX2, 3, rfl, kc_X2_enter, ki_X2, kn_X2_enter, Or.inr ⟨"TwoEndQueues$Layout", ⟨"TwoEndQueues$Layout", "enter", "(I)V"⟩, kl_X3_33, (mm_in (i := 601) (by decide +kernel) (by decide +kernel)), (mm_in (i := 605) (by decide +kernel) (by decide +kernel)), ⟨by decide, by decide⟩, by decide +kernel, Or.inr (mm_inl (i := 600) (by decide +kernel))⟩⟩
theorem v_X3_33_3 : mm_V RX3 33 3 yX4_enter cX4_enter 4 none 1 := ⟨RX4, TX4, 3, rfl, kc_X4_enter, ki_X4, kn_X4_enter, Or.inr ⟨"TwoEndQueues$Layout", ⟨"TwoEndQueues$Layout", "enter", "(I)V"⟩, kl_X3_33, (mm_in (i := 601) (by decide +kernel) (by decide +kernel)), (mm_in (i := 616) (by decide +kernel) (by decide +kernel)), ⟨by decide, by decide⟩, by decide +kernel, Or.inr (mm_inl (i := 600) (by decide +kernel))⟩⟩
theorem kl_X2_40 : Cond.methodLink RX2 40 yX2_riseHigh ∈ mm_GW := (mm_in (i := 608) (by decide +kernel) (by decide +kernel))
theorem v_X2_40_2 : mm_V RX2 40 2 yX2_riseHigh cX2_riseHigh 6 none 2 := ⟨RX2, TX2, 3, rfl, kc_X2_riseHigh, ki_X2, kn_X2_riseHigh, Or.inl ⟨kl_X2_40, (mm_inp (i := 15) (by decide +kernel) (by decide +kernel)), ⟨by decide, by decide⟩, by decide +kernel⟩⟩
theorem kl_X2_43 : Cond.methodLink RX2 43 yX2_riseLow ∈ mm_GW := (mm_in (i := 612) (by decide +kernel) (by decide +kernel))
theorem v_X2_43_2 : mm_V RX2 43 2 yX2_riseLow cX2_riseLow 4 none 1 := ⟨RX2, TX2, 3, rfl, kc_X2_riseLow, ki_X2, kn_X2_riseLow, Or.inl ⟨kl_X2_43, (mm_inp (i := 16) (by decide +kernel) (by decide +kernel)), ⟨by decide, by decide⟩, by decide +kernel⟩⟩
theorem kl_X4_44 : Cond.methodLink RX4 44 yX4_rise ∈ mm_GW := (mm_in (i := 619) (by decide +kernel) (by decide +kernel))
theorem v_X4_44_3 : mm_V RX4 44 3 yX4_rise cX4_rise 5 none 2 := ⟨RX4, TX4, 3, rfl, kc_X4_rise, ki_X4, kn_X4_rise, Or.inl ⟨kl_X4_44, (mm_inp (i := 17) (by decide +kernel) (by decide +kernel)), ⟨by decide, by decide⟩, by decide +kernel⟩⟩
theorem kl_L_98 : Cond.methodLink RL 98 yL_takeLeast ∈ mm_GW := (mm_in (i := 623) (by decide +kernel) (by decide +kernel))
theorem s_L_98 : mm_St RL 98 yL_takeLeast 2 := ⟨ki_L, ks_L_takeLeast, ⟨by decide, by decide⟩, by decide +kernel, Or.inl kl_L_98⟩
theorem kl_L_17 : Cond.methodLink RL 17 yX7_takeLeast ∈ mm_GW := (mm_in (i := 626) (by decide +kernel) (by decide +kernel))
theorem v_L_17_6 : mm_V RL 17 6 yX7_takeLeast cX7_takeLeast 2 (some .int) 0 := ⟨RX7, TX7, 4, rfl, kc_X7_takeLeast, ki_X7, kn_X7_takeLeast, Or.inl ⟨kl_L_17, (mm_in (i := 628) (by decide +kernel) (by decide +kernel)), ⟨by decide, by decide⟩, by decide +kernel⟩⟩
theorem kl_X7_56 : Cond.methodLink RX7 56 yX7_requireItems ∈ mm_GW := (mm_in (i := 630) (by decide +kernel) (by decide +kernel))
theorem v_X7_56_6 : mm_V RX7 56 6 yX7_requireItems cX7_requireItems 1 none 0 := ⟨RX7, TX7, 4, rfl, kc_X7_requireItems, ki_X7, kn_X7_requireItems, Or.inl ⟨kl_X7_56, (mm_inp (i := 18) (by decide +kernel) (by decide +kernel)), ⟨by decide, by decide⟩, by decide +kernel⟩⟩
theorem kl_X7_59 : Cond.methodLink RX7 59 yX5_leastOf ∈ mm_GW := (mm_in (i := 635) (by decide +kernel) (by decide +kernel))
theorem v_X7_59_4 : mm_V RX7 59 4 yX5_leastOf cX5_leastOf 2 (some .int) 1 := ⟨RX5, TX5, 4, rfl, kc_X5_leastOf, ki_X5, kn_X5_leastOf, Or.inl ⟨kl_X7_59, (mm_in (i := 637) (by decide +kernel) (by decide +kernel)), ⟨by decide, by decide⟩, by decide +kernel⟩⟩
theorem kl_X5_58 : Cond.methodLink RX5 58 yX3_handleAt ∈ mm_GW := (mm_in (i := 639) (by decide +kernel) (by decide +kernel))
theorem v_X5_58_0 : mm_V RX5 58 0 yX3_handleAt cX3_handleAt 2 (some .int) 1 := ⟨RX0, TX0, 4, rfl, kc_X3_handleAt, ki_X3, kn_X3_handleAt, Or.inr ⟨"TwoEndQueues$Layout", yX3_handleAt, kl_X5_58, (mm_in (i := 231) (by decide +kernel) (by decide +kernel)), (mm_in (i := 232) (by decide +kernel) (by decide +kernel)), ⟨by decide, by decide⟩, by decide +kernel, Or.inl rfl⟩⟩
theorem v_X5_58_2 : mm_V RX5 58 2 yX3_handleAt cX3_handleAt 2 (some .int) 1 := ⟨RX2, TX2, 3, rfl, kc_X3_handleAt, ki_X3, kn_X3_handleAt, Or.inr ⟨"TwoEndQueues$Layout", yX3_handleAt, kl_X5_58, (mm_in (i := 231) (by decide +kernel) (by decide +kernel)), (mm_in (i := 233) (by decide +kernel) (by decide +kernel)), ⟨by decide, by decide⟩, by decide +kernel, Or.inl rfl⟩⟩
theorem v_X5_58_3 : mm_V RX5 58 3 yX3_handleAt cX3_handleAt 2 (some .int) 1 := ⟨RX4, TX4, 3, rfl, kc_X3_handleAt, ki_X3, kn_X3_handleAt, Or.inr ⟨"TwoEndQueues$Layout", yX3_handleAt, kl_X5_58, (mm_in (i := 231) (by decide +kernel) (by decide +kernel)), (mm_in (i := 234) (by decide +kernel) (by decide +kernel)), ⟨by decide, by decide⟩, by decide +kernel, Or.inl rfl⟩⟩
theorem v_X5_58 {ci : Nat} (h : ci = 0 ∨ ci = 2 ∨ ci = 3) : mm_V RX5 58 ci yX3_handleAt cX3_handleAt 2 (some .int) 1 := by rcases h with rfl | rfl | rfl <;> first | exact v_X5_58_0 | exact v_X5_58_2 | exact v_X5_58_3
theorem kl_X7_62 : Cond.methodLink RX7 62 yX5_carryOut ∈ mm_GW := (mm_in (i := 640) (by decide +kernel) (by decide +kernel))
theorem v_X7_62_4 : mm_V RX7 62 4 yX5_carryOut cX5_carryOut 4 (some .boolean) 3 := ⟨RX5, TX5, 4, rfl, kc_X5_carryOut, ki_X5, kn_X5_carryOut, Or.inl ⟨kl_X7_62, (mm_in (i := 642) (by decide +kernel) (by decide +kernel)), ⟨by decide, by decide⟩, by decide +kernel⟩⟩
theorem kl_X5_108 : Cond.methodLink RX5 108 yX5_isPossible ∈ mm_GW := (mm_in (i := 644) (by decide +kernel) (by decide +kernel))
theorem v_X5_108_4 : mm_V RX5 108 4 yX5_isPossible cX5_isPossible 4 (some .boolean) 3 := ⟨RX5, TX5, 4, rfl, kc_X5_isPossible, ki_X5, kn_X5_isPossible, Or.inl ⟨kl_X5_108, (mm_inp (i := 19) (by decide +kernel) (by decide +kernel)), ⟨by decide, by decide⟩, by decide +kernel⟩⟩
theorem kl_X5_105 : Cond.methodLink RX5 105 yX5_itemCount ∈ mm_GW := (mm_in (i := 649) (by decide +kernel) (by decide +kernel))
theorem v_X5_105_4 : mm_V RX5 105 4 yX5_itemCount cX5_itemCount 1 (some .int) 0 := ⟨RX5, TX5, 4, rfl, kc_X5_itemCount, ki_X5, kn_X5_itemCount, Or.inl ⟨kl_X5_105, (mm_in (i := 334) (by decide +kernel) (by decide +kernel)), ⟨by decide, by decide⟩, by decide +kernel⟩⟩
theorem kl_X5_112 : Cond.methodLink RX5 112 yX5_putIn ∈ mm_GW := (mm_in (i := 650) (by decide +kernel) (by decide +kernel))
theorem v_X5_112_4 : mm_V RX5 112 4 yX5_putIn cX5_putIn 4 (some .int) 1 := ⟨RX5, TX5, 4, rfl, kc_X5_putIn, ki_X5, kn_X5_putIn, Or.inl ⟨kl_X5_112, (mm_in (i := 585) (by decide +kernel) (by decide +kernel)), ⟨by decide, by decide⟩, by decide +kernel⟩⟩
theorem kl_X5_114 : Cond.methodLink RX5 114 yX5_leastOf ∈ mm_GW := (mm_in (i := 651) (by decide +kernel) (by decide +kernel))
theorem v_X5_114_4 : mm_V RX5 114 4 yX5_leastOf cX5_leastOf 2 (some .int) 1 := ⟨RX5, TX5, 4, rfl, kc_X5_leastOf, ki_X5, kn_X5_leastOf, Or.inl ⟨kl_X5_114, (mm_in (i := 637) (by decide +kernel) (by decide +kernel)), ⟨by decide, by decide⟩, by decide +kernel⟩⟩
theorem kl_X5_117 : Cond.methodLink RX5 117 yX5_takeOut ∈ mm_GW := (mm_in (i := 652) (by decide +kernel) (by decide +kernel))
theorem v_X5_117_4 : mm_V RX5 117 4 yX5_takeOut cX5_takeOut 3 none 1 := ⟨RX5, TX5, 4, rfl, kc_X5_takeOut, ki_X5, kn_X5_takeOut, Or.inl ⟨kl_X5_117, (mm_in (i := 654) (by decide +kernel) (by decide +kernel)), ⟨by decide, by decide⟩, by decide +kernel⟩⟩
theorem kl_X5_86 : Cond.methodLink RX5 86 yX3_takeOut ∈ mm_GW := (mm_in (i := 656) (by decide +kernel) (by decide +kernel))
theorem v_X5_86_0 : mm_V RX5 86 0 yX3_takeOut cX3_takeOut 3 none 1 := ⟨RX0, TX0, 4, rfl, kc_X3_takeOut, ki_X3, kn_X3_takeOut, Or.inr ⟨"TwoEndQueues$Layout", yX3_takeOut, kl_X5_86, (mm_in (i := 658) (by decide +kernel) (by decide +kernel)), (mm_in (i := 659) (by decide +kernel) (by decide +kernel)), ⟨by decide, by decide⟩, by decide +kernel, Or.inl rfl⟩⟩
theorem v_X5_86_2 : mm_V RX5 86 2 yX3_takeOut cX3_takeOut 3 none 1 := ⟨RX2, TX2, 3, rfl, kc_X3_takeOut, ki_X3, kn_X3_takeOut, Or.inr ⟨"TwoEndQueues$Layout", yX3_takeOut, kl_X5_86, (mm_in (i := 658) (by decide +kernel) (by decide +kernel)), (mm_in (i := 660) (by decide +kernel) (by decide +kernel)), ⟨by decide, by decide⟩, by decide +kernel, Or.inl rfl⟩⟩
theorem v_X5_86_3 : mm_V RX5 86 3 yX3_takeOut cX3_takeOut 3 none 1 := ⟨RX4, TX4, 3, rfl, kc_X3_takeOut, ki_X3, kn_X3_takeOut, Or.inr ⟨"TwoEndQueues$Layout", yX3_takeOut, kl_X5_86, (mm_in (i := 658) (by decide +kernel) (by decide +kernel)), (mm_in (i := 661) (by decide +kernel) (by decide +kernel)), ⟨by decide, by decide⟩, by decide +kernel, Or.inl rfl⟩⟩
theorem v_X5_86 {ci : Nat} (h : ci = 0 ∨ ci = 2 ∨ ci = 3) : mm_V RX5 86 ci yX3_takeOut cX3_takeOut 3 none 1 := by rcases h with rfl | rfl | rfl <;> first | exact v_X5_86_0 | exact v_X5_86_2 | exact v_X5_86_3
theorem kl_X3_40 : Cond.methodLink RX3 40 ⟨"TwoEndQueues$Layout", "settle", "(I)V"⟩ ∈ mm_GW := (mm_in (i := 663) (by decide +kernel) (by decide +kernel))
theorem v_X3_40_0 : mm_V RX3 40 0 yX0_settle cX0_settle 2 none 1 := ⟨RX0, TX0, 4, rfl, kc_X0_settle, ki_X0, kn_X0_settle, Or.inr ⟨"TwoEndQueues$Layout", ⟨"TwoEndQueues$Layout", "settle", "(I)V"⟩, kl_X3_40, (mm_in (i := 665) (by decide +kernel) (by decide +kernel)), (mm_in (i := 666) (by decide +kernel) (by decide +kernel)), ⟨by decide, by decide⟩, by decide +kernel, Or.inr (mm_inl (i := 664) (by decide +kernel))⟩⟩
theorem v_X3_40_2 : mm_V RX3 40 2 yX2_settle cX2_settle 3 none 1 := ⟨RX2, TX2, 3, rfl, kc_X2_settle, ki_X2, kn_X2_settle, Or.inr ⟨"TwoEndQueues$Layout", ⟨"TwoEndQueues$Layout", "settle", "(I)V"⟩, kl_X3_40, (mm_in (i := 665) (by decide +kernel) (by decide +kernel)), (mm_in (i := 670) (by decide +kernel) (by decide +kernel)), ⟨by decide, by decide⟩, by decide +kernel, Or.inr (mm_inl (i := 664) (by decide +kernel))⟩⟩
theorem v_X3_40_3 : mm_V RX3 40 3 yX4_settle cX4_settle 2 none 1 := ⟨RX4, TX4, 3, rfl, kc_X4_settle, ki_X4, kn_X4_settle, Or.inr ⟨"TwoEndQueues$Layout", ⟨"TwoEndQueues$Layout", "settle", "(I)V"⟩, kl_X3_40, (mm_in (i := 665) (by decide +kernel) (by decide +kernel)), (mm_in (i := 673) (by decide +kernel) (by decide +kernel)), ⟨by decide, by decide⟩, by decide +kernel, Or.inr (mm_inl (i := 664) (by decide +kernel))⟩⟩
theorem kl_X0_37 : Cond.methodLink RX0 37 yX0_enter ∈ mm_GW := (mm_in (i := 669) (by decide +kernel) (by decide +kernel))
theorem v_X0_37_0 : mm_V RX0 37 0 yX0_enter cX0_enter 3 none 1 := ⟨RX0, TX0, 4, rfl, kc_X0_enter, ki_X0, kn_X0_enter, Or.inl ⟨kl_X0_37, (mm_in (i := 1372) (by decide +kernel) (by decide +kernel)), ⟨by decide, by decide⟩, by decide +kernel⟩⟩
theorem kl_X4_48 : Cond.methodLink RX4 48 yX4_enter ∈ mm_GW := (mm_in (i := 676) (by decide +kernel) (by decide +kernel))
theorem v_X4_48_3 : mm_V RX4 48 3 yX4_enter cX4_enter 4 none 1 := ⟨RX4, TX4, 3, rfl, kc_X4_enter, ki_X4, kn_X4_enter, Or.inl ⟨kl_X4_48, (mm_in (i := 1373) (by decide +kernel) (by decide +kernel)), ⟨by decide, by decide⟩, by decide +kernel⟩⟩
theorem kl_X5_118 : Cond.methodLink RX5 118 yX4_countFindingGreatest ∈ mm_GW := (mm_in (i := 677) (by decide +kernel) (by decide +kernel))
theorem v_X5_118_3 : mm_V RX5 118 3 yX4_countFindingGreatest cX4_countFindingGreatest 1 none 0 := ⟨RX4, TX4, 3, rfl, kc_X4_countFindingGreatest, ki_X4, kn_X4_countFindingGreatest, Or.inl ⟨kl_X5_118, (mm_in (i := 679) (by decide +kernel) (by decide +kernel)), ⟨by decide, by decide⟩, by decide +kernel⟩⟩
theorem kl_X5_121 : Cond.methodLink RX5 121 yX5_greatestOf ∈ mm_GW := (mm_in (i := 681) (by decide +kernel) (by decide +kernel))
theorem v_X5_121_4 : mm_V RX5 121 4 yX5_greatestOf cX5_greatestOf 2 (some .int) 1 := ⟨RX5, TX5, 4, rfl, kc_X5_greatestOf, ki_X5, kn_X5_greatestOf, Or.inl ⟨kl_X5_121, (mm_in (i := 683) (by decide +kernel) (by decide +kernel)), ⟨by decide, by decide⟩, by decide +kernel⟩⟩
theorem kl_X5_61 : Cond.methodLink RX5 61 yX2_greatestPosition ∈ mm_GW := (mm_in (i := 685) (by decide +kernel) (by decide +kernel))
theorem v_X5_61_2 : mm_V RX5 61 2 yX2_greatestPosition cX2_greatestPosition 1 (some .int) 0 := ⟨RX2, TX2, 3, rfl, kc_X2_greatestPosition, ki_X2, kn_X2_greatestPosition, Or.inl ⟨kl_X5_61, (mm_in (i := 687) (by decide +kernel) (by decide +kernel)), ⟨by decide, by decide⟩, by decide +kernel⟩⟩
theorem kl_X5_65 : Cond.methodLink RX5 65 yX4_greatestPosition ∈ mm_GW := (mm_in (i := 689) (by decide +kernel) (by decide +kernel))
theorem v_X5_65_3 : mm_V RX5 65 3 yX4_greatestPosition cX4_greatestPosition 1 (some .int) 0 := ⟨RX4, TX4, 3, rfl, kc_X4_greatestPosition, ki_X4, kn_X4_greatestPosition, Or.inl ⟨kl_X5_65, (mm_in (i := 691) (by decide +kernel) (by decide +kernel)), ⟨by decide, by decide⟩, by decide +kernel⟩⟩
theorem kl_X5_66 : Cond.methodLink RX5 66 ⟨"TwoEndQueues$LevelLayout", "handleAt", "(I)I"⟩ ∈ mm_GW := (mm_in (i := 693) (by decide +kernel) (by decide +kernel))
theorem v_X5_66_3 : mm_V RX5 66 3 yX3_handleAt cX3_handleAt 2 (some .int) 1 := ⟨RX4, TX4, 3, rfl, kc_X3_handleAt, ki_X3, kn_X3_handleAt, Or.inr ⟨"TwoEndQueues$Layout", ⟨"TwoEndQueues$LevelLayout", "handleAt", "(I)I"⟩, kl_X5_66, (mm_in (i := 694) (by decide +kernel) (by decide +kernel)), (mm_in (i := 695) (by decide +kernel) (by decide +kernel)), ⟨by decide, by decide⟩, by decide +kernel, Or.inl rfl⟩⟩
theorem kl_X5_67 : Cond.methodLink RX5 67 ⟨"TwoEndQueues$HeapLayout", "handleAt", "(I)I"⟩ ∈ mm_GW := (mm_in (i := 696) (by decide +kernel) (by decide +kernel))
theorem v_X5_67_0 : mm_V RX5 67 0 yX3_handleAt cX3_handleAt 2 (some .int) 1 := ⟨RX0, TX0, 4, rfl, kc_X3_handleAt, ki_X3, kn_X3_handleAt, Or.inr ⟨"TwoEndQueues$Layout", ⟨"TwoEndQueues$HeapLayout", "handleAt", "(I)I"⟩, kl_X5_67, (mm_in (i := 697) (by decide +kernel) (by decide +kernel)), (mm_in (i := 698) (by decide +kernel) (by decide +kernel)), ⟨by decide, by decide⟩, by decide +kernel, Or.inl rfl⟩⟩
theorem kl_X5_124 : Cond.methodLink RX5 124 yX5_giveKey ∈ mm_GW := (mm_in (i := 699) (by decide +kernel) (by decide +kernel))
theorem v_X5_124_4 : mm_V RX5 124 4 yX5_giveKey cX5_giveKey 4 none 2 := ⟨RX5, TX5, 4, rfl, kc_X5_giveKey, ki_X5, kn_X5_giveKey, Or.inl ⟨kl_X5_124, (mm_in (i := 701) (by decide +kernel) (by decide +kernel)), ⟨by decide, by decide⟩, by decide +kernel⟩⟩
theorem kl_X5_91 : Cond.methodLink RX5 91 yX3_giveKey ∈ mm_GW := (mm_in (i := 703) (by decide +kernel) (by decide +kernel))
theorem v_X5_91_0 : mm_V RX5 91 0 yX3_giveKey cX3_giveKey 4 none 2 := ⟨RX0, TX0, 4, rfl, kc_X3_giveKey, ki_X3, kn_X3_giveKey, Or.inr ⟨"TwoEndQueues$Layout", yX3_giveKey, kl_X5_91, (mm_in (i := 705) (by decide +kernel) (by decide +kernel)), (mm_in (i := 706) (by decide +kernel) (by decide +kernel)), ⟨by decide, by decide⟩, by decide +kernel, Or.inl rfl⟩⟩
theorem v_X5_91_2 : mm_V RX5 91 2 yX3_giveKey cX3_giveKey 4 none 2 := ⟨RX2, TX2, 3, rfl, kc_X3_giveKey, ki_X3, kn_X3_giveKey, Or.inr ⟨"TwoEndQueues$Layout", yX3_giveKey, kl_X5_91, (mm_in (i := 705) (by decide +kernel) (by decide +kernel)), (mm_in (i := 707) (by decide +kernel) (by decide +kernel)), ⟨by decide, by decide⟩, by decide +kernel, Or.inl rfl⟩⟩
theorem v_X5_91_3 : mm_V RX5 91 3 yX3_giveKey cX3_giveKey 4 none 2 := ⟨RX4, TX4, 3, rfl, kc_X3_giveKey, ki_X3, kn_X3_giveKey, Or.inr ⟨"TwoEndQueues$Layout", yX3_giveKey, kl_X5_91, (mm_in (i := 705) (by decide +kernel) (by decide +kernel)), (mm_in (i := 708) (by decide +kernel) (by decide +kernel)), ⟨by decide, by decide⟩, by decide +kernel, Or.inl rfl⟩⟩
theorem v_X5_91 {ci : Nat} (h : ci = 0 ∨ ci = 2 ∨ ci = 3) : mm_V RX5 91 ci yX3_giveKey cX3_giveKey 4 none 2 := by rcases h with rfl | rfl | rfl <;> first | exact v_X5_91_0 | exact v_X5_91_2 | exact v_X5_91_3
theorem kl_X5_125 : Cond.methodLink RX5 125 yX5_arrange ∈ mm_GW := (mm_in (i := 710) (by decide +kernel) (by decide +kernel))
theorem v_X5_125_4 : mm_V RX5 125 4 yX5_arrange cX5_arrange 2 none 0 := ⟨RX5, TX5, 4, rfl, kc_X5_arrange, ki_X5, kn_X5_arrange, Or.inl ⟨kl_X5_125, (mm_in (i := 209) (by decide +kernel) (by decide +kernel)), ⟨by decide, by decide⟩, by decide +kernel⟩⟩
theorem kl_L_102 : Cond.methodLink RL 102 yL_takeGreatest ∈ mm_GW := (mm_in (i := 711) (by decide +kernel) (by decide +kernel))
theorem s_L_102 : mm_St RL 102 yL_takeGreatest 2 := ⟨ki_L, ks_L_takeGreatest, ⟨by decide, by decide⟩, by decide +kernel, Or.inl kl_L_102⟩
theorem kl_L_21 : Cond.methodLink RL 21 yX7_takeGreatest ∈ mm_GW := (mm_in (i := 714) (by decide +kernel) (by decide +kernel))
theorem v_L_21_6 : mm_V RL 21 6 yX7_takeGreatest cX7_takeGreatest 2 (some .int) 0 := ⟨RX7, TX7, 4, rfl, kc_X7_takeGreatest, ki_X7, kn_X7_takeGreatest, Or.inl ⟨kl_L_21, (mm_in (i := 716) (by decide +kernel) (by decide +kernel)), ⟨by decide, by decide⟩, by decide +kernel⟩⟩
theorem kl_X7_66 : Cond.methodLink RX7 66 yX5_greatestOf ∈ mm_GW := (mm_in (i := 718) (by decide +kernel) (by decide +kernel))
theorem v_X7_66_4 : mm_V RX7 66 4 yX5_greatestOf cX5_greatestOf 2 (some .int) 1 := ⟨RX5, TX5, 4, rfl, kc_X5_greatestOf, ki_X5, kn_X5_greatestOf, Or.inl ⟨kl_X7_66, (mm_in (i := 683) (by decide +kernel) (by decide +kernel)), ⟨by decide, by decide⟩, by decide +kernel⟩⟩
theorem kl_L_105 : Cond.methodLink RL 105 yL_remove ∈ mm_GW := (mm_in (i := 719) (by decide +kernel) (by decide +kernel))
theorem s_L_105 : mm_St RL 105 yL_remove 3 := ⟨ki_L, ks_L_remove, ⟨by decide, by decide⟩, by decide +kernel, Or.inl kl_L_105⟩
theorem kl_L_24 : Cond.methodLink RL 24 yX7_remove ∈ mm_GW := (mm_in (i := 723) (by decide +kernel) (by decide +kernel))
theorem v_L_24_6 : mm_V RL 24 6 yX7_remove cX7_remove 3 (some .int) 1 := ⟨RX7, TX7, 4, rfl, kc_X7_remove, ki_X7, kn_X7_remove, Or.inl ⟨kl_L_24, (mm_in (i := 725) (by decide +kernel) (by decide +kernel)), ⟨by decide, by decide⟩, by decide +kernel⟩⟩
theorem kl_X7_69 : Cond.methodLink RX7 69 yX7_requireItem ∈ mm_GW := (mm_in (i := 727) (by decide +kernel) (by decide +kernel))
theorem v_X7_69_6 : mm_V RX7 69 6 yX7_requireItem cX7_requireItem 2 none 1 := ⟨RX7, TX7, 4, rfl, kc_X7_requireItem, ki_X7, kn_X7_requireItem, Or.inl ⟨kl_X7_69, (mm_inp (i := 20) (by decide +kernel) (by decide +kernel)), ⟨by decide, by decide⟩, by decide +kernel⟩⟩
theorem kl_X7_242 : Cond.methodLink RX7 242 ⟨"java/lang/IndexOutOfBoundsException", "<init>", "(Ljava/lang/String;)V"⟩ ∈ mm_GW := (mm_in (i := 741) (by decide +kernel) (by decide +kernel))
theorem kl_X7_75 : Cond.methodLink RX7 75 yX5_takeOut ∈ mm_GW := (mm_in (i := 747) (by decide +kernel) (by decide +kernel))
theorem v_X7_75_4 : mm_V RX7 75 4 yX5_takeOut cX5_takeOut 3 none 1 := ⟨RX5, TX5, 4, rfl, kc_X5_takeOut, ki_X5, kn_X5_takeOut, Or.inl ⟨kl_X7_75, (mm_in (i := 654) (by decide +kernel) (by decide +kernel)), ⟨by decide, by decide⟩, by decide +kernel⟩⟩
theorem kl_L_108 : Cond.methodLink RL 108 yL_change ∈ mm_GW := (mm_in (i := 748) (by decide +kernel) (by decide +kernel))
theorem s_L_108 : mm_St RL 108 yL_change 4 := ⟨ki_L, ks_L_change, ⟨by decide, by decide⟩, by decide +kernel, Or.inl kl_L_108⟩
theorem kl_L_29 : Cond.methodLink RL 29 yX7_change ∈ mm_GW := (mm_in (i := 751) (by decide +kernel) (by decide +kernel))
theorem v_L_29_6 : mm_V RL 29 6 yX7_change cX7_change 4 (some .int) 2 := ⟨RX7, TX7, 4, rfl, kc_X7_change, ki_X7, kn_X7_change, Or.inl ⟨kl_L_29, (mm_in (i := 753) (by decide +kernel) (by decide +kernel)), ⟨by decide, by decide⟩, by decide +kernel⟩⟩
theorem kl_X7_78 : Cond.methodLink RX7 78 yX5_giveKey ∈ mm_GW := (mm_in (i := 755) (by decide +kernel) (by decide +kernel))
theorem v_X7_78_4 : mm_V RX7 78 4 yX5_giveKey cX5_giveKey 4 none 2 := ⟨RX5, TX5, 4, rfl, kc_X5_giveKey, ki_X5, kn_X5_giveKey, Or.inl ⟨kl_X7_78, (mm_in (i := 701) (by decide +kernel) (by decide +kernel)), ⟨by decide, by decide⟩, by decide +kernel⟩⟩
theorem kl_L_128 : Cond.methodLink RL 128 yL_key ∈ mm_GW := (mm_in (i := 756) (by decide +kernel) (by decide +kernel))
theorem s_L_128 : mm_St RL 128 yL_key 3 := ⟨ki_L, ks_L_key, ⟨by decide, by decide⟩, by decide +kernel, Or.inl kl_L_128⟩
theorem kl_L_33 : Cond.methodLink RL 33 yX7_key ∈ mm_GW := (mm_in (i := 759) (by decide +kernel) (by decide +kernel))
theorem v_L_33_6 : mm_V RL 33 6 yX7_key cX7_key 2 (some .int) 1 := ⟨RX7, TX7, 4, rfl, kc_X7_key, ki_X7, kn_X7_key, Or.inl ⟨kl_L_33, (mm_in (i := 761) (by decide +kernel) (by decide +kernel)), ⟨by decide, by decide⟩, by decide +kernel⟩⟩
theorem kl_L_131 : Cond.methodLink RL 131 yL_fill ∈ mm_GW := (mm_in (i := 763) (by decide +kernel) (by decide +kernel))
theorem s_L_131 : mm_St RL 131 yL_fill 4 := ⟨ki_L, ks_L_fill, ⟨by decide, by decide⟩, by decide +kernel, Or.inl kl_L_131⟩
theorem kl_L_36 : Cond.methodLink RL 36 yX7_fill ∈ mm_GW := (mm_in (i := 766) (by decide +kernel) (by decide +kernel))
theorem v_L_36_6 : mm_V RL 36 6 yX7_fill cX7_fill 6 (some .int) 2 := ⟨RX7, TX7, 4, rfl, kc_X7_fill, ki_X7, kn_X7_fill, Or.inl ⟨kl_L_36, (mm_in (i := 768) (by decide +kernel) (by decide +kernel)), ⟨by decide, by decide⟩, by decide +kernel⟩⟩
theorem kl_L_134 : Cond.methodLink RL 134 yL_least ∈ mm_GW := (mm_in (i := 777) (by decide +kernel) (by decide +kernel))
theorem s_L_134 : mm_St RL 134 yL_least 3 := ⟨ki_L, ks_L_least, ⟨by decide, by decide⟩, by decide +kernel, Or.inl kl_L_134⟩
theorem kl_L_39 : Cond.methodLink RL 39 yX7_least ∈ mm_GW := (mm_in (i := 780) (by decide +kernel) (by decide +kernel))
theorem v_L_39_6 : mm_V RL 39 6 yX7_least cX7_least 2 (some .int) 1 := ⟨RX7, TX7, 4, rfl, kc_X7_least, ki_X7, kn_X7_least, Or.inl ⟨kl_L_39, (mm_in (i := 782) (by decide +kernel) (by decide +kernel)), ⟨by decide, by decide⟩, by decide +kernel⟩⟩
theorem kl_X7_111 : Cond.methodLink RX7 111 yX7_requireQueue ∈ mm_GW := (mm_in (i := 784) (by decide +kernel) (by decide +kernel))
theorem s_X7_111 : mm_St RX7 111 yX7_requireQueue 1 := ⟨ki_X7, ks_X7_requireQueue, ⟨by decide, by decide⟩, by decide +kernel, Or.inl kl_X7_111⟩
theorem kl_L_137 : Cond.methodLink RL 137 yL_greatest ∈ mm_GW := (mm_in (i := 788) (by decide +kernel) (by decide +kernel))
theorem s_L_137 : mm_St RL 137 yL_greatest 3 := ⟨ki_L, ks_L_greatest, ⟨by decide, by decide⟩, by decide +kernel, Or.inl kl_L_137⟩
theorem kl_L_42 : Cond.methodLink RL 42 yX7_greatest ∈ mm_GW := (mm_in (i := 791) (by decide +kernel) (by decide +kernel))
theorem v_L_42_6 : mm_V RL 42 6 yX7_greatest cX7_greatest 2 (some .int) 1 := ⟨RX7, TX7, 4, rfl, kc_X7_greatest, ki_X7, kn_X7_greatest, Or.inl ⟨kl_L_42, (mm_in (i := 793) (by decide +kernel) (by decide +kernel)), ⟨by decide, by decide⟩, by decide +kernel⟩⟩
theorem kl_L_144 : Cond.methodLink RL 144 yL_rank ∈ mm_GW := (mm_in (i := 795) (by decide +kernel) (by decide +kernel))
theorem s_L_144 : mm_St RL 144 yL_rank 3 := ⟨ki_L, ks_L_rank, ⟨by decide, by decide⟩, by decide +kernel, Or.inl kl_L_144⟩
theorem kl_L_45 : Cond.methodLink RL 45 yX7_rank ∈ mm_GW := (mm_in (i := 798) (by decide +kernel) (by decide +kernel))
theorem v_L_45_6 : mm_V RL 45 6 yX7_rank cX7_rank 2 (some .int) 1 := ⟨RX7, TX7, 4, rfl, kc_X7_rank, ki_X7, kn_X7_rank, Or.inl ⟨kl_L_45, (mm_in (i := 800) (by decide +kernel) (by decide +kernel)), ⟨by decide, by decide⟩, by decide +kernel⟩⟩
theorem kl_L_151 : Cond.methodLink RL 151 yL_at ∈ mm_GW := (mm_in (i := 802) (by decide +kernel) (by decide +kernel))
theorem s_L_151 : mm_St RL 151 yL_at 4 := ⟨ki_L, ks_L_at, ⟨by decide, by decide⟩, by decide +kernel, Or.inl kl_L_151⟩
theorem kl_L_48 : Cond.methodLink RL 48 yX7_at ∈ mm_GW := (mm_in (i := 805) (by decide +kernel) (by decide +kernel))
theorem v_L_48_6 : mm_V RL 48 6 yX7_at cX7_at 3 (some .int) 2 := ⟨RX7, TX7, 4, rfl, kc_X7_at, ki_X7, kn_X7_at, Or.inl ⟨kl_L_48, (mm_in (i := 807) (by decide +kernel) (by decide +kernel)), ⟨by decide, by decide⟩, by decide +kernel⟩⟩
theorem kl_X7_121 : Cond.methodLink RX7 121 yX7_requireLayout ∈ mm_GW := (mm_in (i := 809) (by decide +kernel) (by decide +kernel))
theorem s_X7_121 : mm_St RX7 121 yX7_requireLayout 1 := ⟨ki_X7, ks_X7_requireLayout, ⟨by decide, by decide⟩, by decide +kernel, Or.inl kl_X7_121⟩
theorem kl_L_154 : Cond.methodLink RL 154 yL_where ∈ mm_GW := (mm_in (i := 813) (by decide +kernel) (by decide +kernel))
theorem s_L_154 : mm_St RL 154 yL_where 4 := ⟨ki_L, ks_L_where, ⟨by decide, by decide⟩, by decide +kernel, Or.inl kl_L_154⟩
theorem kl_L_51 : Cond.methodLink RL 51 yX7_where ∈ mm_GW := (mm_in (i := 816) (by decide +kernel) (by decide +kernel))
theorem v_L_51_6 : mm_V RL 51 6 yX7_where cX7_where 3 (some .int) 2 := ⟨RX7, TX7, 4, rfl, kc_X7_where, ki_X7, kn_X7_where, Or.inl ⟨kl_L_51, (mm_in (i := 818) (by decide +kernel) (by decide +kernel)), ⟨by decide, by decide⟩, by decide +kernel⟩⟩
theorem kl_X7_133 : Cond.methodLink RX7 133 yX3_find ∈ mm_GW := (mm_in (i := 820) (by decide +kernel) (by decide +kernel))
theorem v_X7_133_0 : mm_V RX7 133 0 yX3_find cX3_find 3 (some .int) 1 := ⟨RX0, TX0, 4, rfl, kc_X3_find, ki_X3, kn_X3_find, Or.inr ⟨"TwoEndQueues$Layout", yX3_find, kl_X7_133, (mm_in (i := 224) (by decide +kernel) (by decide +kernel)), (mm_in (i := 225) (by decide +kernel) (by decide +kernel)), ⟨by decide, by decide⟩, by decide +kernel, Or.inl rfl⟩⟩
theorem v_X7_133_2 : mm_V RX7 133 2 yX3_find cX3_find 3 (some .int) 1 := ⟨RX2, TX2, 3, rfl, kc_X3_find, ki_X3, kn_X3_find, Or.inr ⟨"TwoEndQueues$Layout", yX3_find, kl_X7_133, (mm_in (i := 224) (by decide +kernel) (by decide +kernel)), (mm_in (i := 226) (by decide +kernel) (by decide +kernel)), ⟨by decide, by decide⟩, by decide +kernel, Or.inl rfl⟩⟩
theorem v_X7_133_3 : mm_V RX7 133 3 yX3_find cX3_find 3 (some .int) 1 := ⟨RX4, TX4, 3, rfl, kc_X3_find, ki_X3, kn_X3_find, Or.inr ⟨"TwoEndQueues$Layout", yX3_find, kl_X7_133, (mm_in (i := 224) (by decide +kernel) (by decide +kernel)), (mm_in (i := 227) (by decide +kernel) (by decide +kernel)), ⟨by decide, by decide⟩, by decide +kernel, Or.inl rfl⟩⟩
theorem v_X7_133 {ci : Nat} (h : ci = 0 ∨ ci = 2 ∨ ci = 3) : mm_V RX7 133 ci yX3_find cX3_find 3 (some .int) 1 := by rcases h with rfl | rfl | rfl <;> first | exact v_X7_133_0 | exact v_X7_133_2 | exact v_X7_133_3
theorem kl_L_157 : Cond.methodLink RL 157 yL_violations ∈ mm_GW := (mm_in (i := 821) (by decide +kernel) (by decide +kernel))
theorem s_L_157 : mm_St RL 157 yL_violations 3 := ⟨ki_L, ks_L_violations, ⟨by decide, by decide⟩, by decide +kernel, Or.inl kl_L_157⟩
theorem kl_L_54 : Cond.methodLink RL 54 yX7_violations ∈ mm_GW := (mm_in (i := 824) (by decide +kernel) (by decide +kernel))
theorem v_L_54_6 : mm_V RL 54 6 yX7_violations cX7_violations 2 (some .int) 1 := ⟨RX7, TX7, 4, rfl, kc_X7_violations, ki_X7, kn_X7_violations, Or.inl ⟨kl_L_54, (mm_in (i := 826) (by decide +kernel) (by decide +kernel)), ⟨by decide, by decide⟩, by decide +kernel⟩⟩
theorem kl_L_160 : Cond.methodLink RL 160 yL_disturb ∈ mm_GW := (mm_in (i := 828) (by decide +kernel) (by decide +kernel))
theorem s_L_160 : mm_St RL 160 yL_disturb 5 := ⟨ki_L, ks_L_disturb, ⟨by decide, by decide⟩, by decide +kernel, Or.inl kl_L_160⟩
theorem kl_L_57 : Cond.methodLink RL 57 yX7_disturb ∈ mm_GW := (mm_in (i := 831) (by decide +kernel) (by decide +kernel))
theorem v_L_57_6 : mm_V RL 57 6 yX7_disturb cX7_disturb 4 (some .int) 3 := ⟨RX7, TX7, 4, rfl, kc_X7_disturb, ki_X7, kn_X7_disturb, Or.inl ⟨kl_L_57, (mm_in (i := 833) (by decide +kernel) (by decide +kernel)), ⟨by decide, by decide⟩, by decide +kernel⟩⟩
theorem kl_X7_139 : Cond.methodLink RX7 139 yX7_requirePosition ∈ mm_GW := (mm_in (i := 835) (by decide +kernel) (by decide +kernel))
theorem v_X7_139_6 : mm_V RX7 139 6 yX7_requirePosition cX7_requirePosition 2 none 1 := ⟨RX7, TX7, 4, rfl, kc_X7_requirePosition, ki_X7, kn_X7_requirePosition, Or.inl ⟨kl_X7_139, (mm_inp (i := 21) (by decide +kernel) (by decide +kernel)), ⟨by decide, by decide⟩, by decide +kernel⟩⟩
theorem kl_X7_142 : Cond.methodLink RX7 142 yX3_exchange ∈ mm_GW := (mm_in (i := 840) (by decide +kernel) (by decide +kernel))
theorem v_X7_142_0 : mm_V RX7 142 0 yX3_exchange cX3_exchange 4 none 2 := ⟨RX0, TX0, 4, rfl, kc_X3_exchange, ki_X3, kn_X3_exchange, Or.inr ⟨"TwoEndQueues$Layout", yX3_exchange, kl_X7_142, (mm_in (i := 245) (by decide +kernel) (by decide +kernel)), (mm_in (i := 246) (by decide +kernel) (by decide +kernel)), ⟨by decide, by decide⟩, by decide +kernel, Or.inl rfl⟩⟩
theorem v_X7_142_2 : mm_V RX7 142 2 yX3_exchange cX3_exchange 4 none 2 := ⟨RX2, TX2, 3, rfl, kc_X3_exchange, ki_X3, kn_X3_exchange, Or.inr ⟨"TwoEndQueues$Layout", yX3_exchange, kl_X7_142, (mm_in (i := 245) (by decide +kernel) (by decide +kernel)), (mm_in (i := 247) (by decide +kernel) (by decide +kernel)), ⟨by decide, by decide⟩, by decide +kernel, Or.inl rfl⟩⟩
theorem v_X7_142_3 : mm_V RX7 142 3 yX3_exchange cX3_exchange 4 none 2 := ⟨RX4, TX4, 3, rfl, kc_X3_exchange, ki_X3, kn_X3_exchange, Or.inr ⟨"TwoEndQueues$Layout", yX3_exchange, kl_X7_142, (mm_in (i := 245) (by decide +kernel) (by decide +kernel)), (mm_in (i := 248) (by decide +kernel) (by decide +kernel)), ⟨by decide, by decide⟩, by decide +kernel, Or.inl rfl⟩⟩
theorem v_X7_142 {ci : Nat} (h : ci = 0 ∨ ci = 2 ∨ ci = 3) : mm_V RX7 142 ci yX3_exchange cX3_exchange 4 none 2 := by rcases h with rfl | rfl | rfl <;> first | exact v_X7_142_0 | exact v_X7_142_2 | exact v_X7_142_3
theorem kl_L_164 : Cond.methodLink RL 164 yL_level ∈ mm_GW := (mm_in (i := 841) (by decide +kernel) (by decide +kernel))
theorem s_L_164 : mm_St RL 164 yL_level 3 := ⟨ki_L, ks_L_level, ⟨by decide, by decide⟩, by decide +kernel, Or.inl kl_L_164⟩
theorem kl_L_61 : Cond.methodLink RL 61 yX7_level ∈ mm_GW := (mm_in (i := 844) (by decide +kernel) (by decide +kernel))
theorem v_L_61_6 : mm_V RL 61 6 yX7_level cX7_level 2 (some .int) 1 := ⟨RX7, TX7, 4, rfl, kc_X7_level, ki_X7, kn_X7_level, Or.inl ⟨kl_L_61, (mm_in (i := 846) (by decide +kernel) (by decide +kernel)), ⟨by decide, by decide⟩, by decide +kernel⟩⟩
theorem kl_X7_148 : Cond.methodLink RX7 148 yX4_levelOf ∈ mm_GW := (mm_in (i := 850) (by decide +kernel) (by decide +kernel))
theorem s_X7_148 : mm_St RX7 148 yX4_levelOf 1 := ⟨ki_X4, ks_X4_levelOf, ⟨by decide, by decide⟩, by decide +kernel, Or.inl kl_X7_148⟩
theorem kl_L_167 : Cond.methodLink RL 167 yL_ancestors ∈ mm_GW := (mm_in (i := 851) (by decide +kernel) (by decide +kernel))
theorem s_L_167 : mm_St RL 167 yL_ancestors 3 := ⟨ki_L, ks_L_ancestors, ⟨by decide, by decide⟩, by decide +kernel, Or.inl kl_L_167⟩
theorem kl_L_64 : Cond.methodLink RL 64 yX7_ancestors ∈ mm_GW := (mm_in (i := 854) (by decide +kernel) (by decide +kernel))
theorem v_L_64_6 : mm_V RL 64 6 yX7_ancestors cX7_ancestors 2 (some .int) 1 := ⟨RX7, TX7, 4, rfl, kc_X7_ancestors, ki_X7, kn_X7_ancestors, Or.inl ⟨kl_L_64, (mm_in (i := 856) (by decide +kernel) (by decide +kernel)), ⟨by decide, by decide⟩, by decide +kernel⟩⟩
theorem kl_X7_157 : Cond.methodLink RX7 157 yX0_handlesAbove ∈ mm_GW := (mm_in (i := 858) (by decide +kernel) (by decide +kernel))
theorem v_X7_157_0 : mm_V RX7 157 0 yX0_handlesAbove cX0_handlesAbove 4 (some .int) 1 := ⟨RX0, TX0, 4, rfl, kc_X0_handlesAbove, ki_X0, kn_X0_handlesAbove, Or.inl ⟨kl_X7_157, (mm_in (i := 860) (by decide +kernel) (by decide +kernel)), ⟨by decide, by decide⟩, by decide +kernel⟩⟩
theorem kl_X0_15 : Cond.methodLink RX0 15 ⟨"TwoEndQueues$HeapLayout", "find", "(I)I"⟩ ∈ mm_GW := (mm_in (i := 862) (by decide +kernel) (by decide +kernel))
theorem v_X0_15_0 : mm_V RX0 15 0 yX3_find cX3_find 3 (some .int) 1 := ⟨RX0, TX0, 4, rfl, kc_X3_find, ki_X3, kn_X3_find, Or.inr ⟨"TwoEndQueues$Layout", ⟨"TwoEndQueues$HeapLayout", "find", "(I)I"⟩, kl_X0_15, (mm_in (i := 863) (by decide +kernel) (by decide +kernel)), (mm_in (i := 864) (by decide +kernel) (by decide +kernel)), ⟨by decide, by decide⟩, by decide +kernel, Or.inl rfl⟩⟩
theorem kl_X0_22 : Cond.methodLink RX0 22 ⟨"TwoEndQueues$HeapLayout", "handleAt", "(I)I"⟩ ∈ mm_GW := (mm_in (i := 865) (by decide +kernel) (by decide +kernel))
theorem v_X0_22_0 : mm_V RX0 22 0 yX3_handleAt cX3_handleAt 2 (some .int) 1 := ⟨RX0, TX0, 4, rfl, kc_X3_handleAt, ki_X3, kn_X3_handleAt, Or.inr ⟨"TwoEndQueues$Layout", ⟨"TwoEndQueues$HeapLayout", "handleAt", "(I)I"⟩, kl_X0_22, (mm_in (i := 697) (by decide +kernel) (by decide +kernel)), (mm_in (i := 698) (by decide +kernel) (by decide +kernel)), ⟨by decide, by decide⟩, by decide +kernel, Or.inl rfl⟩⟩
theorem kl_X7_165 : Cond.methodLink RX7 165 yJ6_bitCount_0f7a4 ∈ mm_GW := (mm_in (i := 866) (by decide +kernel) (by decide +kernel))
theorem s_X7_165 : mm_St RX7 165 yJ6_bitCount_0f7a4 1 := ⟨ki_J6, ks_J6_bitCount_0f7a4, ⟨by decide, by decide⟩, by decide +kernel, Or.inl kl_X7_165⟩
theorem kl_L_170 : Cond.methodLink RL 170 yL_comparisons ∈ mm_GW := (mm_in (i := 872) (by decide +kernel) (by decide +kernel))
theorem s_L_170 : mm_St RL 170 yL_comparisons 3 := ⟨ki_L, ks_L_comparisons, ⟨by decide, by decide⟩, by decide +kernel, Or.inl kl_L_170⟩
theorem kl_L_67 : Cond.methodLink RL 67 yX7_comparisons ∈ mm_GW := (mm_in (i := 875) (by decide +kernel) (by decide +kernel))
theorem v_L_67_6 : mm_V RL 67 6 yX7_comparisons cX7_comparisons 2 (some .int) 1 := ⟨RX7, TX7, 4, rfl, kc_X7_comparisons, ki_X7, kn_X7_comparisons, Or.inl ⟨kl_L_67, (mm_in (i := 877) (by decide +kernel) (by decide +kernel)), ⟨by decide, by decide⟩, by decide +kernel⟩⟩
theorem kl_L_177 : Cond.methodLink RL 177 yL_wouldNeed ∈ mm_GW := (mm_in (i := 879) (by decide +kernel) (by decide +kernel))
theorem s_L_177 : mm_St RL 177 yL_wouldNeed 5 := ⟨ki_L, ks_L_wouldNeed, ⟨by decide, by decide⟩, by decide +kernel, Or.inl kl_L_177⟩
theorem kl_L_70 : Cond.methodLink RL 70 yX7_wouldNeed ∈ mm_GW := (mm_in (i := 882) (by decide +kernel) (by decide +kernel))
theorem v_L_70_6 : mm_V RL 70 6 yX7_wouldNeed cX7_wouldNeed 4 (some .int) 3 := ⟨RX7, TX7, 4, rfl, kc_X7_wouldNeed, ki_X7, kn_X7_wouldNeed, Or.inl ⟨kl_L_70, (mm_in (i := 884) (by decide +kernel) (by decide +kernel)), ⟨by decide, by decide⟩, by decide +kernel⟩⟩
theorem kl_X7_178 : Cond.methodLink RX7 178 yX5_copyFrom ∈ mm_GW := (mm_in (i := 887) (by decide +kernel) (by decide +kernel))
theorem v_X7_178_4 : mm_V RX7 178 4 yX5_copyFrom cX5_copyFrom 3 none 1 := ⟨RX5, TX5, 4, rfl, kc_X5_copyFrom, ki_X5, kn_X5_copyFrom, Or.inl ⟨kl_X7_178, (mm_in (i := 180) (by decide +kernel) (by decide +kernel)), ⟨by decide, by decide⟩, by decide +kernel⟩⟩
theorem kl_L_180 : Cond.methodLink RL 180 yL_sortingNeeds ∈ mm_GW := (mm_in (i := 888) (by decide +kernel) (by decide +kernel))
theorem s_L_180 : mm_St RL 180 yL_sortingNeeds 3 := ⟨ki_L, ks_L_sortingNeeds, ⟨by decide, by decide⟩, by decide +kernel, Or.inl kl_L_180⟩
theorem kl_L_73 : Cond.methodLink RL 73 yX7_sortingNeeds ∈ mm_GW := (mm_in (i := 891) (by decide +kernel) (by decide +kernel))
theorem v_L_73_6 : mm_V RL 73 6 yX7_sortingNeeds cX7_sortingNeeds 3 (some .int) 1 := ⟨RX7, TX7, 4, rfl, kc_X7_sortingNeeds, ki_X7, kn_X7_sortingNeeds, Or.inl ⟨kl_L_73, (mm_in (i := 893) (by decide +kernel) (by decide +kernel)), ⟨by decide, by decide⟩, by decide +kernel⟩⟩
theorem kl_X7_181 : Cond.methodLink RX7 181 yX5_takeOutOf ∈ mm_GW := (mm_in (i := 895) (by decide +kernel) (by decide +kernel))
theorem v_X7_181_4 : mm_V RX7 181 4 yX5_takeOutOf cX5_takeOutOf 3 none 2 := ⟨RX5, TX5, 4, rfl, kc_X5_takeOutOf, ki_X5, kn_X5_takeOutOf, Or.inl ⟨kl_X7_181, (mm_in (i := 897) (by decide +kernel) (by decide +kernel)), ⟨by decide, by decide⟩, by decide +kernel⟩⟩
theorem kl_X5_90 : Cond.methodLink RX5 90 ⟨"TwoEndQueues$HeapLayout", "takeOut", "(I)V"⟩ ∈ mm_GW := (mm_in (i := 899) (by decide +kernel) (by decide +kernel))
theorem v_X5_90_0 : mm_V RX5 90 0 yX3_takeOut cX3_takeOut 3 none 1 := ⟨RX0, TX0, 4, rfl, kc_X3_takeOut, ki_X3, kn_X3_takeOut, Or.inr ⟨"TwoEndQueues$Layout", ⟨"TwoEndQueues$HeapLayout", "takeOut", "(I)V"⟩, kl_X5_90, (mm_in (i := 900) (by decide +kernel) (by decide +kernel)), (mm_in (i := 902) (by decide +kernel) (by decide +kernel)), ⟨by decide, by decide⟩, by decide +kernel, Or.inl rfl⟩⟩
theorem kl_L_187 : Cond.methodLink RL 187 yL_type ∈ mm_GW := (mm_in (i := 903) (by decide +kernel) (by decide +kernel))
theorem s_L_187 : mm_St RL 187 yL_type 3 := ⟨ki_L, ks_L_type, ⟨by decide, by decide⟩, by decide +kernel, Or.inl kl_L_187⟩
theorem kl_L_76 : Cond.methodLink RL 76 yX7_type ∈ mm_GW := (mm_in (i := 906) (by decide +kernel) (by decide +kernel))
theorem v_L_76_6 : mm_V RL 76 6 yX7_type cX7_type 2 (some .int) 1 := ⟨RX7, TX7, 4, rfl, kc_X7_type, ki_X7, kn_X7_type, Or.inl ⟨kl_L_76, (mm_in (i := 908) (by decide +kernel) (by decide +kernel)), ⟨by decide, by decide⟩, by decide +kernel⟩⟩
theorem kl_X7_192 : Cond.methodLink RX7 192 yX6_append ∈ mm_GW := (mm_in (i := 912) (by decide +kernel) (by decide +kernel))
theorem v_X7_192_5 : mm_V RX7 192 5 yX6_append cX6_append 2 none 1 := ⟨RX6, TX6, 7, rfl, kc_X6_append, ki_X6, kn_X6_append, Or.inl ⟨kl_X7_192, (mm_in (i := 914) (by decide +kernel) (by decide +kernel)), ⟨by decide, by decide⟩, by decide +kernel⟩⟩
theorem kl_L_198 : Cond.methodLink RL 198 yL_run ∈ mm_GW := (mm_in (i := 916) (by decide +kernel) (by decide +kernel))
theorem s_L_198 : mm_St RL 198 yL_run 2 := ⟨ki_L, ks_L_run, ⟨by decide, by decide⟩, by decide +kernel, Or.inl kl_L_198⟩
theorem kl_L_79 : Cond.methodLink RL 79 yX7_run ∈ mm_GW := (mm_in (i := 919) (by decide +kernel) (by decide +kernel))
theorem v_L_79_6 : mm_V RL 79 6 yX7_run cX7_run 3 (some .int) 0 := ⟨RX7, TX7, 4, rfl, kc_X7_run, ki_X7, kn_X7_run, Or.inl ⟨kl_L_79, (mm_in (i := 921) (by decide +kernel) (by decide +kernel)), ⟨by decide, by decide⟩, by decide +kernel⟩⟩
theorem kl_X7_201 : Cond.methodLink RX7 201 yX6_rewind ∈ mm_GW := (mm_in (i := 924) (by decide +kernel) (by decide +kernel))
theorem v_X7_201_5 : mm_V RX7 201 5 yX6_rewind cX6_rewind 1 none 0 := ⟨RX6, TX6, 7, rfl, kc_X6_rewind, ki_X6, kn_X6_rewind, Or.inl ⟨kl_X7_201, (mm_in (i := 420) (by decide +kernel) (by decide +kernel)), ⟨by decide, by decide⟩, by decide +kernel⟩⟩
theorem kl_X7_204 : Cond.methodLink RX7 204 yX6_readCommand ∈ mm_GW := (mm_in (i := 925) (by decide +kernel) (by decide +kernel))
theorem v_X7_204_5 : mm_V RX7 204 5 yX6_readCommand cX6_readCommand 1 (some .boolean) 0 := ⟨RX6, TX6, 7, rfl, kc_X6_readCommand, ki_X6, kn_X6_readCommand, Or.inl ⟨kl_X7_204, (mm_in (i := 424) (by decide +kernel) (by decide +kernel)), ⟨by decide, by decide⟩, by decide +kernel⟩⟩
theorem kl_L_201 : Cond.methodLink RL 201 yL_undo ∈ mm_GW := (mm_in (i := 926) (by decide +kernel) (by decide +kernel))
theorem s_L_201 : mm_St RL 201 yL_undo 2 := ⟨ki_L, ks_L_undo, ⟨by decide, by decide⟩, by decide +kernel, Or.inl kl_L_201⟩
theorem kl_L_82 : Cond.methodLink RL 82 yX7_undo ∈ mm_GW := (mm_in (i := 929) (by decide +kernel) (by decide +kernel))
theorem v_L_82_6 : mm_V RL 82 6 yX7_undo cX7_undo 1 (some .int) 0 := ⟨RX7, TX7, 4, rfl, kc_X7_undo, ki_X7, kn_X7_undo, Or.inl ⟨kl_L_82, (mm_in (i := 931) (by decide +kernel) (by decide +kernel)), ⟨by decide, by decide⟩, by decide +kernel⟩⟩
theorem kl_X7_222 : Cond.methodLink RX7 222 yX1_restore ∈ mm_GW := (mm_in (i := 934) (by decide +kernel) (by decide +kernel))
theorem v_X7_222_1 : mm_V RX7 222 1 yX1_restore cX1_restore 4 none 1 := ⟨RX1, TX1, 3, rfl, kc_X1_restore, ki_X1, kn_X1_restore, Or.inl ⟨kl_X7_222, (mm_in (i := 936) (by decide +kernel) (by decide +kernel)), ⟨by decide, by decide⟩, by decide +kernel⟩⟩
theorem kl_L_88 : Cond.methodLink RL 88 yX8_init ∈ mm_GW := (mm_in (i := 940) (by decide +kernel) (by decide +kernel))
theorem n_L_88 : mm_In RL 88 yX8_init cX8_init 1 0 := ⟨kc_X8_init, ki_X8, kn_X8_init, rfl, ⟨by decide, by decide⟩, by decide +kernel, Or.inl kl_L_88⟩
theorem kl_X8_1 : Cond.methodLink RX8 1 Lib.objectInit ∈ mm_GW := (mm_in (i := 943) (by decide +kernel) (by decide +kernel))
theorem kl_L_95 : Cond.methodLink RL 95 yX8_thrown ∈ mm_GW := (mm_in (i := 978) (by decide +kernel) (by decide +kernel))
theorem v_L_95_7 : mm_V RL 95 7 yX8_thrown cX8_thrown 1 (some .int) 0 := ⟨RX8, TX8, 11, rfl, kc_X8_thrown, ki_X8, kn_X8_thrown, Or.inl ⟨kl_L_95, (mm_in (i := 980) (by decide +kernel) (by decide +kernel)), ⟨by decide, by decide⟩, by decide +kernel⟩⟩
theorem kl_L_203 : Cond.methodLink RL 203 yX8_undo ∈ mm_GW := (mm_in (i := 982) (by decide +kernel) (by decide +kernel))
theorem v_L_203_7 : mm_V RL 203 7 yX8_undo cX8_undo 2 (some .int) 0 := ⟨RX8, TX8, 11, rfl, kc_X8_undo, ki_X8, kn_X8_undo, Or.inl ⟨kl_L_203, (mm_in (i := 984) (by decide +kernel) (by decide +kernel)), ⟨by decide, by decide⟩, by decide +kernel⟩⟩
theorem kl_X8_29 : Cond.methodLink RX8 29 yX8_refused ∈ mm_GW := (mm_in (i := 986) (by decide +kernel) (by decide +kernel))
theorem v_X8_29_7 : mm_V RX8 29 7 yX8_refused cX8_refused 2 (some .boolean) 1 := ⟨RX8, TX8, 11, rfl, kc_X8_refused, ki_X8, kn_X8_refused, Or.inl ⟨kl_X8_29, (mm_inp (i := 22) (by decide +kernel) (by decide +kernel)), ⟨by decide, by decide⟩, by decide +kernel⟩⟩
theorem kl_L_94 : Cond.methodLink RL 94 yX8_insert ∈ mm_GW := (mm_in (i := 990) (by decide +kernel) (by decide +kernel))
theorem v_L_94_7 : mm_V RL 94 7 yX8_insert cX8_insert 2 (some .int) 1 := ⟨RX8, TX8, 11, rfl, kc_X8_insert, ki_X8, kn_X8_insert, Or.inl ⟨kl_L_94, (mm_in (i := 992) (by decide +kernel) (by decide +kernel)), ⟨by decide, by decide⟩, by decide +kernel⟩⟩
theorem kl_X8_138 : Cond.methodLink RX8 138 yX8_isKey ∈ mm_GW := (mm_in (i := 994) (by decide +kernel) (by decide +kernel))
theorem s_X8_138 : mm_St RX8 138 yX8_isKey 1 := ⟨ki_X8, ks_X8_isKey, ⟨by decide, by decide⟩, by decide +kernel, Or.inl kl_X8_138⟩
theorem kl_X8_33 : Cond.methodLink RX8 33 yX8_within ∈ mm_GW := (mm_in (i := 997) (by decide +kernel) (by decide +kernel))
theorem s_X8_33 : mm_St RX8 33 yX8_within 3 := ⟨ki_X8, ks_X8_within, ⟨by decide, by decide⟩, by decide +kernel, Or.inl kl_X8_33⟩
theorem kl_X8_95 : Cond.methodLink RX8 95 yX8_many ∈ mm_GW := (mm_in (i := 1000) (by decide +kernel) (by decide +kernel))
theorem v_X8_95_7 : mm_V RX8 95 7 yX8_many cX8_many 1 (some .int) 0 := ⟨RX8, TX8, 11, rfl, kc_X8_many, ki_X8, kn_X8_many, Or.inl ⟨kl_X8_95, (mm_inp (i := 23) (by decide +kernel) (by decide +kernel)), ⟨by decide, by decide⟩, by decide +kernel⟩⟩
theorem kl_X8_141 : Cond.methodLink RX8 141 yX8_saves ∈ mm_GW := (mm_in (i := 1004) (by decide +kernel) (by decide +kernel))
theorem v_X8_141_7 : mm_V RX8 141 7 yX8_saves cX8_saves 2 none 0 := ⟨RX8, TX8, 11, rfl, kc_X8_saves, ki_X8, kn_X8_saves, Or.inl ⟨kl_X8_141, (mm_inp (i := 24) (by decide +kernel) (by decide +kernel)), ⟨by decide, by decide⟩, by decide +kernel⟩⟩
theorem kl_X8_144 : Cond.methodLink RX8 144 yX8_inserts ∈ mm_GW := (mm_in (i := 1008) (by decide +kernel) (by decide +kernel))
theorem v_X8_144_7 : mm_V RX8 144 7 yX8_inserts cX8_inserts 4 (some .int) 2 := ⟨RX8, TX8, 11, rfl, kc_X8_inserts, ki_X8, kn_X8_inserts, Or.inl ⟨kl_X8_144, (mm_inp (i := 25) (by decide +kernel) (by decide +kernel)), ⟨by decide, by decide⟩, by decide +kernel⟩⟩
theorem kl_X8_133 : Cond.methodLink RX8 133 yX8_freeHandle ∈ mm_GW := (mm_in (i := 1012) (by decide +kernel) (by decide +kernel))
theorem v_X8_133_7 : mm_V RX8 133 7 yX8_freeHandle cX8_freeHandle 2 (some .int) 0 := ⟨RX8, TX8, 11, rfl, kc_X8_freeHandle, ki_X8, kn_X8_freeHandle, Or.inl ⟨kl_X8_133, (mm_inp (i := 26) (by decide +kernel) (by decide +kernel)), ⟨by decide, by decide⟩, by decide +kernel⟩⟩
theorem kl_X8_136 : Cond.methodLink RX8 136 yX8_enters_ ∈ mm_GW := (mm_in (i := 1016) (by decide +kernel) (by decide +kernel))
theorem v_X8_136_7 : mm_V RX8 136 7 yX8_enters_ cX8_enters_ 5 none 2 := ⟨RX8, TX8, 11, rfl, kc_X8_enters_, ki_X8, kn_X8_enters_, Or.inl ⟨kl_X8_136, (mm_inp (i := 27) (by decide +kernel) (by decide +kernel)), ⟨by decide, by decide⟩, by decide +kernel⟩⟩
theorem kl_X8_45 : Cond.methodLink RX8 45 yX8_lays ∈ mm_GW := (mm_in (i := 1020) (by decide +kernel) (by decide +kernel))
theorem v_X8_45_7 : mm_V RX8 45 7 yX8_lays cX8_lays 4 none 3 := ⟨RX8, TX8, 11, rfl, kc_X8_lays, ki_X8, kn_X8_lays, Or.inl ⟨kl_X8_45, (mm_inp (i := 28) (by decide +kernel) (by decide +kernel)), ⟨by decide, by decide⟩, by decide +kernel⟩⟩
theorem kl_X8_99 : Cond.methodLink RX8 99 yX8_comesFirst ∈ mm_GW := (mm_in (i := 1024) (by decide +kernel) (by decide +kernel))
theorem v_X8_99_7 : mm_V RX8 99 7 yX8_comesFirst cX8_comesFirst 4 none 1 := ⟨RX8, TX8, 11, rfl, kc_X8_comesFirst, ki_X8, kn_X8_comesFirst, Or.inl ⟨kl_X8_99, (mm_inp (i := 29) (by decide +kernel) (by decide +kernel)), ⟨by decide, by decide⟩, by decide +kernel⟩⟩
theorem kl_X8_52 : Cond.methodLink RX8 52 yX8_less ∈ mm_GW := (mm_in (i := 1028) (by decide +kernel) (by decide +kernel))
theorem v_X8_52_7 : mm_V RX8 52 7 yX8_less cX8_less 4 (some .boolean) 3 := ⟨RX8, TX8, 11, rfl, kc_X8_less, ki_X8, kn_X8_less, Or.inl ⟨kl_X8_52, (mm_inp (i := 30) (by decide +kernel) (by decide +kernel)), ⟨by decide, by decide⟩, by decide +kernel⟩⟩
theorem kl_X8_37 : Cond.methodLink RX8 37 yX8_item ∈ mm_GW := (mm_in (i := 1032) (by decide +kernel) (by decide +kernel))
theorem v_X8_37_7 : mm_V RX8 37 7 yX8_item cX8_item 3 (some .int) 2 := ⟨RX8, TX8, 11, rfl, kc_X8_item, ki_X8, kn_X8_item, Or.inl ⟨kl_X8_37, (mm_inp (i := 31) (by decide +kernel) (by decide +kernel)), ⟨by decide, by decide⟩, by decide +kernel⟩⟩
theorem kl_X8_41 : Cond.methodLink RX8 41 yX8_isLess ∈ mm_GW := (mm_in (i := 1036) (by decide +kernel) (by decide +kernel))
theorem v_X8_41_7 : mm_V RX8 41 7 yX8_isLess cX8_isLess 3 (some .boolean) 2 := ⟨RX8, TX8, 11, rfl, kc_X8_isLess, ki_X8, kn_X8_isLess, Or.inl ⟨kl_X8_41, (mm_inp (i := 32) (by decide +kernel) (by decide +kernel)), ⟨by decide, by decide⟩, by decide +kernel⟩⟩
theorem kl_X8_55 : Cond.methodLink RX8 55 yX8_exchange ∈ mm_GW := (mm_in (i := 1040) (by decide +kernel) (by decide +kernel))
theorem v_X8_55_7 : mm_V RX8 55 7 yX8_exchange cX8_exchange 5 none 3 := ⟨RX8, TX8, 11, rfl, kc_X8_exchange, ki_X8, kn_X8_exchange, Or.inl ⟨kl_X8_55, (mm_inp (i := 33) (by decide +kernel) (by decide +kernel)), ⟨by decide, by decide⟩, by decide +kernel⟩⟩
theorem kl_X8_65 : Cond.methodLink RX8 65 yX8_risesLow ∈ mm_GW := (mm_in (i := 1044) (by decide +kernel) (by decide +kernel))
theorem v_X8_65_7 : mm_V RX8 65 7 yX8_risesLow cX8_risesLow 3 none 1 := ⟨RX8, TX8, 11, rfl, kc_X8_risesLow, ki_X8, kn_X8_risesLow, Or.inl ⟨kl_X8_65, (mm_inp (i := 34) (by decide +kernel) (by decide +kernel)), ⟨by decide, by decide⟩, by decide +kernel⟩⟩
theorem kl_X8_69 : Cond.methodLink RX8 69 yX8_risesHigh ∈ mm_GW := (mm_in (i := 1048) (by decide +kernel) (by decide +kernel))
theorem v_X8_69_7 : mm_V RX8 69 7 yX8_risesHigh cX8_risesHigh 6 none 2 := ⟨RX8, TX8, 11, rfl, kc_X8_risesHigh, ki_X8, kn_X8_risesHigh, Or.inl ⟨kl_X8_69, (mm_inp (i := 35) (by decide +kernel) (by decide +kernel)), ⟨by decide, by decide⟩, by decide +kernel⟩⟩
theorem kl_X8_102 : Cond.methodLink RX8 102 yX8_enters ∈ mm_GW := (mm_in (i := 1052) (by decide +kernel) (by decide +kernel))
theorem v_X8_102_7 : mm_V RX8 102 7 yX8_enters cX8_enters 3 none 1 := ⟨RX8, TX8, 11, rfl, kc_X8_enters, ki_X8, kn_X8_enters, Or.inl ⟨kl_X8_102, (mm_inp (i := 36) (by decide +kernel) (by decide +kernel)), ⟨by decide, by decide⟩, by decide +kernel⟩⟩
theorem kl_X8_82 : Cond.methodLink RX8 82 yX8_isLow ∈ mm_GW := (mm_in (i := 1056) (by decide +kernel) (by decide +kernel))
theorem s_X8_82 : mm_St RX8 82 yX8_isLow 1 := ⟨ki_X8, ks_X8_isLow, ⟨by decide, by decide⟩, by decide +kernel, Or.inl kl_X8_82⟩
theorem kl_X8_78 : Cond.methodLink RX8 78 yX8_levelOf ∈ mm_GW := (mm_in (i := 1059) (by decide +kernel) (by decide +kernel))
theorem s_X8_78 : mm_St RX8 78 yX8_levelOf 1 := ⟨ki_X8, ks_X8_levelOf, ⟨by decide, by decide⟩, by decide +kernel, Or.inl kl_X8_78⟩
theorem kl_X8_85 : Cond.methodLink RX8 85 yX8_leads ∈ mm_GW := (mm_in (i := 1062) (by decide +kernel) (by decide +kernel))
theorem v_X8_85_7 : mm_V RX8 85 7 yX8_leads cX8_leads 4 (some .boolean) 3 := ⟨RX8, TX8, 11, rfl, kc_X8_leads, ki_X8, kn_X8_leads, Or.inl ⟨kl_X8_85, (mm_inp (i := 37) (by decide +kernel) (by decide +kernel)), ⟨by decide, by decide⟩, by decide +kernel⟩⟩
theorem kl_X8_89 : Cond.methodLink RX8 89 yX8_rises ∈ mm_GW := (mm_in (i := 1066) (by decide +kernel) (by decide +kernel))
theorem v_X8_89_7 : mm_V RX8 89 7 yX8_rises cX8_rises 4 none 1 := ⟨RX8, TX8, 11, rfl, kc_X8_rises, ki_X8, kn_X8_rises, Or.inl ⟨kl_X8_89, (mm_inp (i := 38) (by decide +kernel) (by decide +kernel)), ⟨by decide, by decide⟩, by decide +kernel⟩⟩
theorem kl_X8_105 : Cond.methodLink RX8 105 yX8_up ∈ mm_GW := (mm_in (i := 1070) (by decide +kernel) (by decide +kernel))
theorem v_X8_105_7 : mm_V RX8 105 7 yX8_up cX8_up 4 none 2 := ⟨RX8, TX8, 11, rfl, kc_X8_up, ki_X8, kn_X8_up, Or.inl ⟨kl_X8_105, (mm_inp (i := 39) (by decide +kernel) (by decide +kernel)), ⟨by decide, by decide⟩, by decide +kernel⟩⟩
theorem kl_X8_92 : Cond.methodLink RX8 92 yX8_isAhead ∈ mm_GW := (mm_in (i := 1074) (by decide +kernel) (by decide +kernel))
theorem v_X8_92_7 : mm_V RX8 92 7 yX8_isAhead cX8_isAhead 4 (some .boolean) 3 := ⟨RX8, TX8, 11, rfl, kc_X8_isAhead, ki_X8, kn_X8_isAhead, Or.inl ⟨kl_X8_92, (mm_inp (i := 40) (by decide +kernel) (by decide +kernel)), ⟨by decide, by decide⟩, by decide +kernel⟩⟩
theorem kl_L_101 : Cond.methodLink RL 101 yX8_takeLeast ∈ mm_GW := (mm_in (i := 1078) (by decide +kernel) (by decide +kernel))
theorem v_L_101_7 : mm_V RL 101 7 yX8_takeLeast cX8_takeLeast 2 (some .int) 0 := ⟨RX8, TX8, 11, rfl, kc_X8_takeLeast, ki_X8, kn_X8_takeLeast, Or.inl ⟨kl_L_101, (mm_in (i := 1080) (by decide +kernel) (by decide +kernel)), ⟨by decide, by decide⟩, by decide +kernel⟩⟩
theorem kl_X8_147 : Cond.methodLink RX8 147 yX8_leastOf ∈ mm_GW := (mm_in (i := 1082) (by decide +kernel) (by decide +kernel))
theorem v_X8_147_7 : mm_V RX8 147 7 yX8_leastOf cX8_leastOf 2 (some .int) 1 := ⟨RX8, TX8, 11, rfl, kc_X8_leastOf, ki_X8, kn_X8_leastOf, Or.inl ⟨kl_X8_147, (mm_inp (i := 41) (by decide +kernel) (by decide +kernel)), ⟨by decide, by decide⟩, by decide +kernel⟩⟩
theorem kl_X8_150 : Cond.methodLink RX8 150 yX8_goes ∈ mm_GW := (mm_in (i := 1086) (by decide +kernel) (by decide +kernel))
theorem v_X8_150_7 : mm_V RX8 150 7 yX8_goes cX8_goes 6 none 2 := ⟨RX8, TX8, 11, rfl, kc_X8_goes, ki_X8, kn_X8_goes, Or.inl ⟨kl_X8_150, (mm_inp (i := 42) (by decide +kernel) (by decide +kernel)), ⟨by decide, by decide⟩, by decide +kernel⟩⟩
theorem kl_X8_117 : Cond.methodLink RX8 117 yX8_placeOf ∈ mm_GW := (mm_in (i := 1090) (by decide +kernel) (by decide +kernel))
theorem v_X8_117_7 : mm_V RX8 117 7 yX8_placeOf cX8_placeOf 4 (some .int) 2 := ⟨RX8, TX8, 11, rfl, kc_X8_placeOf, ki_X8, kn_X8_placeOf, Or.inl ⟨kl_X8_117, (mm_inp (i := 43) (by decide +kernel) (by decide +kernel)), ⟨by decide, by decide⟩, by decide +kernel⟩⟩
theorem kl_X8_120 : Cond.methodLink RX8 120 yX8_closes ∈ mm_GW := (mm_in (i := 1094) (by decide +kernel) (by decide +kernel))
theorem v_X8_120_7 : mm_V RX8 120 7 yX8_closes cX8_closes 4 (some .int) 3 := ⟨RX8, TX8, 11, rfl, kc_X8_closes, ki_X8, kn_X8_closes, Or.inl ⟨kl_X8_120, (mm_inp (i := 44) (by decide +kernel) (by decide +kernel)), ⟨by decide, by decide⟩, by decide +kernel⟩⟩
theorem kl_X8_124 : Cond.methodLink RX8 124 yX8_moves ∈ mm_GW := (mm_in (i := 1098) (by decide +kernel) (by decide +kernel))
theorem v_X8_124_7 : mm_V RX8 124 7 yX8_moves cX8_moves 4 none 3 := ⟨RX8, TX8, 11, rfl, kc_X8_moves, ki_X8, kn_X8_moves, Or.inl ⟨kl_X8_124, (mm_inp (i := 45) (by decide +kernel) (by decide +kernel)), ⟨by decide, by decide⟩, by decide +kernel⟩⟩
theorem kl_X8_108 : Cond.methodLink RX8 108 yX8_settles ∈ mm_GW := (mm_in (i := 1102) (by decide +kernel) (by decide +kernel))
theorem v_X8_108_7 : mm_V RX8 108 7 yX8_settles cX8_settles 3 none 2 := ⟨RX8, TX8, 11, rfl, kc_X8_settles, ki_X8, kn_X8_settles, Or.inl ⟨kl_X8_108, (mm_inp (i := 46) (by decide +kernel) (by decide +kernel)), ⟨by decide, by decide⟩, by decide +kernel⟩⟩
theorem kl_X8_58 : Cond.methodLink RX8 58 yX8_orders ∈ mm_GW := (mm_in (i := 1106) (by decide +kernel) (by decide +kernel))
theorem v_X8_58_7 : mm_V RX8 58 7 yX8_orders cX8_orders 3 none 2 := ⟨RX8, TX8, 11, rfl, kc_X8_orders, ki_X8, kn_X8_orders, Or.inl ⟨kl_X8_58, (mm_inp (i := 47) (by decide +kernel) (by decide +kernel)), ⟨by decide, by decide⟩, by decide +kernel⟩⟩
theorem kl_X8_62 : Cond.methodLink RX8 62 yX8_topOf ∈ mm_GW := (mm_in (i := 1110) (by decide +kernel) (by decide +kernel))
theorem v_X8_62_7 : mm_V RX8 62 7 yX8_topOf cX8_topOf 3 (some .int) 2 := ⟨RX8, TX8, 11, rfl, kc_X8_topOf, ki_X8, kn_X8_topOf, Or.inl ⟨kl_X8_62, (mm_inp (i := 48) (by decide +kernel) (by decide +kernel)), ⟨by decide, by decide⟩, by decide +kernel⟩⟩
theorem kl_X8_72 : Cond.methodLink RX8 72 yX8_sinksLow ∈ mm_GW := (mm_in (i := 1114) (by decide +kernel) (by decide +kernel))
theorem v_X8_72_7 : mm_V RX8 72 7 yX8_sinksLow cX8_sinksLow 6 none 2 := ⟨RX8, TX8, 11, rfl, kc_X8_sinksLow, ki_X8, kn_X8_sinksLow, Or.inl ⟨kl_X8_72, (mm_inp (i := 49) (by decide +kernel) (by decide +kernel)), ⟨by decide, by decide⟩, by decide +kernel⟩⟩
theorem kl_X8_75 : Cond.methodLink RX8 75 yX8_sinksHigh ∈ mm_GW := (mm_in (i := 1118) (by decide +kernel) (by decide +kernel))
theorem v_X8_75_7 : mm_V RX8 75 7 yX8_sinksHigh cX8_sinksHigh 6 none 2 := ⟨RX8, TX8, 11, rfl, kc_X8_sinksHigh, ki_X8, kn_X8_sinksHigh, Or.inl ⟨kl_X8_75, (mm_inp (i := 50) (by decide +kernel) (by decide +kernel)), ⟨by decide, by decide⟩, by decide +kernel⟩⟩
theorem kl_X8_111 : Cond.methodLink RX8 111 yX8_sinks ∈ mm_GW := (mm_in (i := 1122) (by decide +kernel) (by decide +kernel))
theorem v_X8_111_7 : mm_V RX8 111 7 yX8_sinks cX8_sinks 9 none 2 := ⟨RX8, TX8, 11, rfl, kc_X8_sinks, ki_X8, kn_X8_sinks, Or.inl ⟨kl_X8_111, (mm_inp (i := 51) (by decide +kernel) (by decide +kernel)), ⟨by decide, by decide⟩, by decide +kernel⟩⟩
theorem kl_X8_114 : Cond.methodLink RX8 114 yX8_down ∈ mm_GW := (mm_in (i := 1126) (by decide +kernel) (by decide +kernel))
theorem v_X8_114_7 : mm_V RX8 114 7 yX8_down cX8_down 7 none 3 := ⟨RX8, TX8, 11, rfl, kc_X8_down, ki_X8, kn_X8_down, Or.inl ⟨kl_X8_114, (mm_inp (i := 52) (by decide +kernel) (by decide +kernel)), ⟨by decide, by decide⟩, by decide +kernel⟩⟩
theorem kl_L_104 : Cond.methodLink RL 104 yX8_takeGreatest ∈ mm_GW := (mm_in (i := 1130) (by decide +kernel) (by decide +kernel))
theorem v_L_104_7 : mm_V RL 104 7 yX8_takeGreatest cX8_takeGreatest 1 (some .int) 0 := ⟨RX8, TX8, 11, rfl, kc_X8_takeGreatest, ki_X8, kn_X8_takeGreatest, Or.inl ⟨kl_L_104, (mm_in (i := 1132) (by decide +kernel) (by decide +kernel)), ⟨by decide, by decide⟩, by decide +kernel⟩⟩
theorem kl_X8_156 : Cond.methodLink RX8 156 yX8_takesGreatest ∈ mm_GW := (mm_in (i := 1134) (by decide +kernel) (by decide +kernel))
theorem v_X8_156_7 : mm_V RX8 156 7 yX8_takesGreatest cX8_takesGreatest 3 (some .int) 1 := ⟨RX8, TX8, 11, rfl, kc_X8_takesGreatest, ki_X8, kn_X8_takesGreatest, Or.inl ⟨kl_X8_156, (mm_inp (i := 53) (by decide +kernel) (by decide +kernel)), ⟨by decide, by decide⟩, by decide +kernel⟩⟩
theorem kl_X8_153 : Cond.methodLink RX8 153 yX8_greatestOf ∈ mm_GW := (mm_in (i := 1138) (by decide +kernel) (by decide +kernel))
theorem v_X8_153_7 : mm_V RX8 153 7 yX8_greatestOf cX8_greatestOf 3 (some .int) 1 := ⟨RX8, TX8, 11, rfl, kc_X8_greatestOf, ki_X8, kn_X8_greatestOf, Or.inl ⟨kl_X8_153, (mm_inp (i := 54) (by decide +kernel) (by decide +kernel)), ⟨by decide, by decide⟩, by decide +kernel⟩⟩
theorem kl_L_107 : Cond.methodLink RL 107 yX8_remove ∈ mm_GW := (mm_in (i := 1142) (by decide +kernel) (by decide +kernel))
theorem v_L_107_7 : mm_V RL 107 7 yX8_remove cX8_remove 3 (some .int) 1 := ⟨RX8, TX8, 11, rfl, kc_X8_remove, ki_X8, kn_X8_remove, Or.inl ⟨kl_L_107, (mm_in (i := 1144) (by decide +kernel) (by decide +kernel)), ⟨by decide, by decide⟩, by decide +kernel⟩⟩
theorem kl_X8_49 : Cond.methodLink RX8 49 yX8_isItem ∈ mm_GW := (mm_in (i := 1146) (by decide +kernel) (by decide +kernel))
theorem v_X8_49_7 : mm_V RX8 49 7 yX8_isItem cX8_isItem 2 (some .boolean) 1 := ⟨RX8, TX8, 11, rfl, kc_X8_isItem, ki_X8, kn_X8_isItem, Or.inl ⟨kl_X8_49, (mm_inp (i := 55) (by decide +kernel) (by decide +kernel)), ⟨by decide, by decide⟩, by decide +kernel⟩⟩
theorem kl_L_111 : Cond.methodLink RL 111 yX8_change ∈ mm_GW := (mm_in (i := 1150) (by decide +kernel) (by decide +kernel))
theorem v_L_111_7 : mm_V RL 111 7 yX8_change cX8_change 4 (some .int) 2 := ⟨RX8, TX8, 11, rfl, kc_X8_change, ki_X8, kn_X8_change, Or.inl ⟨kl_L_111, (mm_in (i := 1152) (by decide +kernel) (by decide +kernel)), ⟨by decide, by decide⟩, by decide +kernel⟩⟩
theorem kl_X8_159 : Cond.methodLink RX8 159 yX8_changes ∈ mm_GW := (mm_in (i := 1154) (by decide +kernel) (by decide +kernel))
theorem v_X8_159_7 : mm_V RX8 159 7 yX8_changes cX8_changes 4 none 2 := ⟨RX8, TX8, 11, rfl, kc_X8_changes, ki_X8, kn_X8_changes, Or.inl ⟨kl_X8_159, (mm_inp (i := 56) (by decide +kernel) (by decide +kernel)), ⟨by decide, by decide⟩, by decide +kernel⟩⟩
theorem kl_L_115 : Cond.methodLink RL 115 yX8_build ∈ mm_GW := (mm_in (i := 1158) (by decide +kernel) (by decide +kernel))
theorem v_L_115_7 : mm_V RL 115 7 yX8_build cX8_build 2 (some .int) 0 := ⟨RX8, TX8, 11, rfl, kc_X8_build, ki_X8, kn_X8_build, Or.inl ⟨kl_L_115, (mm_in (i := 1160) (by decide +kernel) (by decide +kernel)), ⟨by decide, by decide⟩, by decide +kernel⟩⟩
theorem kl_X8_162 : Cond.methodLink RX8 162 yX8_counts ∈ mm_GW := (mm_in (i := 1162) (by decide +kernel) (by decide +kernel))
theorem v_X8_162_7 : mm_V RX8 162 7 yX8_counts cX8_counts 1 (some .int) 0 := ⟨RX8, TX8, 11, rfl, kc_X8_counts, ki_X8, kn_X8_counts, Or.inl ⟨kl_X8_162, (mm_inp (i := 57) (by decide +kernel) (by decide +kernel)), ⟨by decide, by decide⟩, by decide +kernel⟩⟩
theorem kl_X8_165 : Cond.methodLink RX8 165 yX8_builds ∈ mm_GW := (mm_in (i := 1166) (by decide +kernel) (by decide +kernel))
theorem v_X8_165_7 : mm_V RX8 165 7 yX8_builds cX8_builds 5 none 1 := ⟨RX8, TX8, 11, rfl, kc_X8_builds, ki_X8, kn_X8_builds, Or.inl ⟨kl_X8_165, (mm_inp (i := 58) (by decide +kernel) (by decide +kernel)), ⟨by decide, by decide⟩, by decide +kernel⟩⟩
theorem kl_X8_127 : Cond.methodLink RX8 127 yX8_laysAll ∈ mm_GW := (mm_in (i := 1170) (by decide +kernel) (by decide +kernel))
theorem v_X8_127_7 : mm_V RX8 127 7 yX8_laysAll cX8_laysAll 4 none 1 := ⟨RX8, TX8, 11, rfl, kc_X8_laysAll, ki_X8, kn_X8_laysAll, Or.inl ⟨kl_X8_127, (mm_inp (i := 59) (by decide +kernel) (by decide +kernel)), ⟨by decide, by decide⟩, by decide +kernel⟩⟩
theorem kl_X8_130 : Cond.methodLink RX8 130 yX8_buildsAt ∈ mm_GW := (mm_in (i := 1174) (by decide +kernel) (by decide +kernel))
theorem v_X8_130_7 : mm_V RX8 130 7 yX8_buildsAt cX8_buildsAt 4 none 3 := ⟨RX8, TX8, 11, rfl, kc_X8_buildsAt, ki_X8, kn_X8_buildsAt, Or.inl ⟨kl_X8_130, (mm_inp (i := 60) (by decide +kernel) (by decide +kernel)), ⟨by decide, by decide⟩, by decide +kernel⟩⟩
theorem kl_L_119 : Cond.methodLink RL 119 yX8_clear ∈ mm_GW := (mm_in (i := 1178) (by decide +kernel) (by decide +kernel))
theorem v_L_119_7 : mm_V RL 119 7 yX8_clear cX8_clear 3 (some .int) 0 := ⟨RX8, TX8, 11, rfl, kc_X8_clear, ki_X8, kn_X8_clear, Or.inl ⟨kl_L_119, (mm_in (i := 1180) (by decide +kernel) (by decide +kernel)), ⟨by decide, by decide⟩, by decide +kernel⟩⟩
theorem kl_L_123 : Cond.methodLink RL 123 yX8_size ∈ mm_GW := (mm_in (i := 1182) (by decide +kernel) (by decide +kernel))
theorem v_L_123_7 : mm_V RL 123 7 yX8_size cX8_size 1 (some .int) 0 := ⟨RX8, TX8, 11, rfl, kc_X8_size, ki_X8, kn_X8_size, Or.inl ⟨kl_L_123, (mm_in (i := 1184) (by decide +kernel) (by decide +kernel)), ⟨by decide, by decide⟩, by decide +kernel⟩⟩
theorem kl_L_127 : Cond.methodLink RL 127 yX8_handles ∈ mm_GW := (mm_in (i := 1186) (by decide +kernel) (by decide +kernel))
theorem v_L_127_7 : mm_V RL 127 7 yX8_handles cX8_handles 1 (some .int) 0 := ⟨RX8, TX8, 11, rfl, kc_X8_handles, ki_X8, kn_X8_handles, Or.inl ⟨kl_L_127, (mm_in (i := 1188) (by decide +kernel) (by decide +kernel)), ⟨by decide, by decide⟩, by decide +kernel⟩⟩
theorem kl_X8_168 : Cond.methodLink RX8 168 yX8_handleSet ∈ mm_GW := (mm_in (i := 1190) (by decide +kernel) (by decide +kernel))
theorem v_X8_168_7 : mm_V RX8 168 7 yX8_handleSet cX8_handleSet 3 (some .int) 0 := ⟨RX8, TX8, 11, rfl, kc_X8_handleSet, ki_X8, kn_X8_handleSet, Or.inl ⟨kl_X8_168, (mm_inp (i := 61) (by decide +kernel) (by decide +kernel)), ⟨by decide, by decide⟩, by decide +kernel⟩⟩
theorem kl_L_130 : Cond.methodLink RL 130 yX8_key ∈ mm_GW := (mm_in (i := 1194) (by decide +kernel) (by decide +kernel))
theorem v_L_130_7 : mm_V RL 130 7 yX8_key cX8_key 2 (some .int) 1 := ⟨RX8, TX8, 11, rfl, kc_X8_key, ki_X8, kn_X8_key, Or.inl ⟨kl_L_130, (mm_in (i := 1196) (by decide +kernel) (by decide +kernel)), ⟨by decide, by decide⟩, by decide +kernel⟩⟩
theorem kl_L_133 : Cond.methodLink RL 133 yX8_fill ∈ mm_GW := (mm_in (i := 1198) (by decide +kernel) (by decide +kernel))
theorem v_L_133_7 : mm_V RL 133 7 yX8_fill cX8_fill 7 (some .int) 2 := ⟨RX8, TX8, 11, rfl, kc_X8_fill, ki_X8, kn_X8_fill, Or.inl ⟨kl_L_133, (mm_in (i := 1200) (by decide +kernel) (by decide +kernel)), ⟨by decide, by decide⟩, by decide +kernel⟩⟩
theorem kl_L_136 : Cond.methodLink RL 136 yX8_least ∈ mm_GW := (mm_in (i := 1207) (by decide +kernel) (by decide +kernel))
theorem v_L_136_7 : mm_V RL 136 7 yX8_least cX8_least 2 (some .int) 1 := ⟨RX8, TX8, 11, rfl, kc_X8_least, ki_X8, kn_X8_least, Or.inl ⟨kl_L_136, (mm_in (i := 1209) (by decide +kernel) (by decide +kernel)), ⟨by decide, by decide⟩, by decide +kernel⟩⟩
theorem kl_L_139 : Cond.methodLink RL 139 yX8_greatest ∈ mm_GW := (mm_in (i := 1211) (by decide +kernel) (by decide +kernel))
theorem v_L_139_7 : mm_V RL 139 7 yX8_greatest cX8_greatest 2 (some .int) 1 := ⟨RX8, TX8, 11, rfl, kc_X8_greatest, ki_X8, kn_X8_greatest, Or.inl ⟨kl_L_139, (mm_in (i := 1213) (by decide +kernel) (by decide +kernel)), ⟨by decide, by decide⟩, by decide +kernel⟩⟩
theorem kl_L_143 : Cond.methodLink RL 143 yX8_ranked ∈ mm_GW := (mm_in (i := 1215) (by decide +kernel) (by decide +kernel))
theorem v_L_143_7 : mm_V RL 143 7 yX8_ranked cX8_ranked 3 (some .int) 1 := ⟨RX8, TX8, 11, rfl, kc_X8_ranked, ki_X8, kn_X8_ranked, Or.inl ⟨kl_L_143, (mm_in (i := 1217) (by decide +kernel) (by decide +kernel)), ⟨by decide, by decide⟩, by decide +kernel⟩⟩
theorem kl_X8_181 : Cond.methodLink RX8 181 yX8_rankOf ∈ mm_GW := (mm_in (i := 1219) (by decide +kernel) (by decide +kernel))
theorem v_X8_181_7 : mm_V RX8 181 7 yX8_rankOf cX8_rankOf 4 (some .int) 1 := ⟨RX8, TX8, 11, rfl, kc_X8_rankOf, ki_X8, kn_X8_rankOf, Or.inl ⟨kl_X8_181, (mm_inp (i := 62) (by decide +kernel) (by decide +kernel)), ⟨by decide, by decide⟩, by decide +kernel⟩⟩
theorem kl_L_146 : Cond.methodLink RL 146 yX8_rank ∈ mm_GW := (mm_in (i := 1223) (by decide +kernel) (by decide +kernel))
theorem v_L_146_7 : mm_V RL 146 7 yX8_rank cX8_rank 2 (some .int) 1 := ⟨RX8, TX8, 11, rfl, kc_X8_rank, ki_X8, kn_X8_rank, Or.inl ⟨kl_L_146, (mm_in (i := 1225) (by decide +kernel) (by decide +kernel)), ⟨by decide, by decide⟩, by decide +kernel⟩⟩
theorem kl_L_150 : Cond.methodLink RL 150 yX8_between ∈ mm_GW := (mm_in (i := 1227) (by decide +kernel) (by decide +kernel))
theorem v_L_150_7 : mm_V RL 150 7 yX8_between cX8_between 5 (some .int) 2 := ⟨RX8, TX8, 11, rfl, kc_X8_between, ki_X8, kn_X8_between, Or.inl ⟨kl_L_150, (mm_in (i := 1229) (by decide +kernel) (by decide +kernel)), ⟨by decide, by decide⟩, by decide +kernel⟩⟩
theorem kl_L_153 : Cond.methodLink RL 153 yX8_at ∈ mm_GW := (mm_in (i := 1231) (by decide +kernel) (by decide +kernel))
theorem v_L_153_7 : mm_V RL 153 7 yX8_at cX8_at 3 (some .int) 2 := ⟨RX8, TX8, 11, rfl, kc_X8_at, ki_X8, kn_X8_at, Or.inl ⟨kl_L_153, (mm_in (i := 1233) (by decide +kernel) (by decide +kernel)), ⟨by decide, by decide⟩, by decide +kernel⟩⟩
theorem kl_X8_184 : Cond.methodLink RX8 184 yX8_isLayout ∈ mm_GW := (mm_in (i := 1235) (by decide +kernel) (by decide +kernel))
theorem s_X8_184 : mm_St RX8 184 yX8_isLayout 1 := ⟨ki_X8, ks_X8_isLayout, ⟨by decide, by decide⟩, by decide +kernel, Or.inl kl_X8_184⟩
theorem kl_L_156 : Cond.methodLink RL 156 yX8_where ∈ mm_GW := (mm_in (i := 1238) (by decide +kernel) (by decide +kernel))
theorem v_L_156_7 : mm_V RL 156 7 yX8_where cX8_where 3 (some .int) 2 := ⟨RX8, TX8, 11, rfl, kc_X8_where, ki_X8, kn_X8_where, Or.inl ⟨kl_L_156, (mm_in (i := 1240) (by decide +kernel) (by decide +kernel)), ⟨by decide, by decide⟩, by decide +kernel⟩⟩
theorem kl_L_159 : Cond.methodLink RL 159 yX8_violations ∈ mm_GW := (mm_in (i := 1242) (by decide +kernel) (by decide +kernel))
theorem v_L_159_7 : mm_V RL 159 7 yX8_violations cX8_violations 2 (some .int) 1 := ⟨RX8, TX8, 11, rfl, kc_X8_violations, ki_X8, kn_X8_violations, Or.inl ⟨kl_L_159, (mm_in (i := 1244) (by decide +kernel) (by decide +kernel)), ⟨by decide, by decide⟩, by decide +kernel⟩⟩
theorem kl_X8_196 : Cond.methodLink RX8 196 yX8_wrongIn ∈ mm_GW := (mm_in (i := 1246) (by decide +kernel) (by decide +kernel))
theorem v_X8_196_7 : mm_V RX8 196 7 yX8_wrongIn cX8_wrongIn 4 (some .int) 1 := ⟨RX8, TX8, 11, rfl, kc_X8_wrongIn, ki_X8, kn_X8_wrongIn, Or.inl ⟨kl_X8_196, (mm_inp (i := 63) (by decide +kernel) (by decide +kernel)), ⟨by decide, by decide⟩, by decide +kernel⟩⟩
theorem kl_X8_190 : Cond.methodLink RX8 190 yX8_wrongNodes ∈ mm_GW := (mm_in (i := 1250) (by decide +kernel) (by decide +kernel))
theorem v_X8_190_7 : mm_V RX8 190 7 yX8_wrongNodes cX8_wrongNodes 5 (some .int) 0 := ⟨RX8, TX8, 11, rfl, kc_X8_wrongNodes, ki_X8, kn_X8_wrongNodes, Or.inl ⟨kl_X8_190, (mm_inp (i := 64) (by decide +kernel) (by decide +kernel)), ⟨by decide, by decide⟩, by decide +kernel⟩⟩
theorem kl_X8_187 : Cond.methodLink RX8 187 yX8_wrong ∈ mm_GW := (mm_in (i := 1254) (by decide +kernel) (by decide +kernel))
theorem v_X8_187_7 : mm_V RX8 187 7 yX8_wrong cX8_wrong 4 (some .int) 3 := ⟨RX8, TX8, 11, rfl, kc_X8_wrong, ki_X8, kn_X8_wrong, Or.inl ⟨kl_X8_187, (mm_inp (i := 65) (by decide +kernel) (by decide +kernel)), ⟨by decide, by decide⟩, by decide +kernel⟩⟩
theorem kl_X8_193 : Cond.methodLink RX8 193 yX8_wrongLevels ∈ mm_GW := (mm_in (i := 1258) (by decide +kernel) (by decide +kernel))
theorem v_X8_193_7 : mm_V RX8 193 7 yX8_wrongLevels cX8_wrongLevels 4 (some .int) 0 := ⟨RX8, TX8, 11, rfl, kc_X8_wrongLevels, ki_X8, kn_X8_wrongLevels, Or.inl ⟨kl_X8_193, (mm_inp (i := 66) (by decide +kernel) (by decide +kernel)), ⟨by decide, by decide⟩, by decide +kernel⟩⟩
theorem kl_L_163 : Cond.methodLink RL 163 yX8_disturb ∈ mm_GW := (mm_in (i := 1262) (by decide +kernel) (by decide +kernel))
theorem v_L_163_7 : mm_V RL 163 7 yX8_disturb cX8_disturb 5 (some .int) 3 := ⟨RX8, TX8, 11, rfl, kc_X8_disturb, ki_X8, kn_X8_disturb, Or.inl ⟨kl_L_163, (mm_in (i := 1264) (by decide +kernel) (by decide +kernel)), ⟨by decide, by decide⟩, by decide +kernel⟩⟩
theorem kl_L_166 : Cond.methodLink RL 166 yX8_level ∈ mm_GW := (mm_in (i := 1266) (by decide +kernel) (by decide +kernel))
theorem v_L_166_7 : mm_V RL 166 7 yX8_level cX8_level 2 (some .int) 1 := ⟨RX8, TX8, 11, rfl, kc_X8_level, ki_X8, kn_X8_level, Or.inl ⟨kl_L_166, (mm_in (i := 1268) (by decide +kernel) (by decide +kernel)), ⟨by decide, by decide⟩, by decide +kernel⟩⟩
theorem kl_L_169 : Cond.methodLink RL 169 yX8_ancestors ∈ mm_GW := (mm_in (i := 1271) (by decide +kernel) (by decide +kernel))
theorem v_L_169_7 : mm_V RL 169 7 yX8_ancestors cX8_ancestors 5 (some .int) 1 := ⟨RX8, TX8, 11, rfl, kc_X8_ancestors, ki_X8, kn_X8_ancestors, Or.inl ⟨kl_L_169, (mm_in (i := 1273) (by decide +kernel) (by decide +kernel)), ⟨by decide, by decide⟩, by decide +kernel⟩⟩
theorem kl_X8_200 : Cond.methodLink RX8 200 yX8_above ∈ mm_GW := (mm_in (i := 1275) (by decide +kernel) (by decide +kernel))
theorem v_X8_200_7 : mm_V RX8 200 7 yX8_above cX8_above 5 (some .int) 2 := ⟨RX8, TX8, 11, rfl, kc_X8_above, ki_X8, kn_X8_above, Or.inl ⟨kl_X8_200, (mm_inp (i := 67) (by decide +kernel) (by decide +kernel)), ⟨by decide, by decide⟩, by decide +kernel⟩⟩
theorem kl_L_172 : Cond.methodLink RL 172 yX8_comparisons ∈ mm_GW := (mm_in (i := 1279) (by decide +kernel) (by decide +kernel))
theorem v_L_172_7 : mm_V RL 172 7 yX8_comparisons cX8_comparisons 2 (some .int) 1 := ⟨RX8, TX8, 11, rfl, kc_X8_comparisons, ki_X8, kn_X8_comparisons, Or.inl ⟨kl_L_172, (mm_in (i := 1281) (by decide +kernel) (by decide +kernel)), ⟨by decide, by decide⟩, by decide +kernel⟩⟩
theorem kl_L_176 : Cond.methodLink RL 176 yX8_forget ∈ mm_GW := (mm_in (i := 1283) (by decide +kernel) (by decide +kernel))
theorem v_L_176_7 : mm_V RL 176 7 yX8_forget cX8_forget 3 (some .int) 0 := ⟨RX8, TX8, 11, rfl, kc_X8_forget, ki_X8, kn_X8_forget, Or.inl ⟨kl_L_176, (mm_in (i := 1285) (by decide +kernel) (by decide +kernel)), ⟨by decide, by decide⟩, by decide +kernel⟩⟩
theorem kl_L_179 : Cond.methodLink RL 179 yX8_wouldNeed ∈ mm_GW := (mm_in (i := 1287) (by decide +kernel) (by decide +kernel))
theorem v_L_179_7 : mm_V RL 179 7 yX8_wouldNeed cX8_wouldNeed 5 (some .int) 3 := ⟨RX8, TX8, 11, rfl, kc_X8_wouldNeed, ki_X8, kn_X8_wouldNeed, Or.inl ⟨kl_L_179, (mm_in (i := 1289) (by decide +kernel) (by decide +kernel)), ⟨by decide, by decide⟩, by decide +kernel⟩⟩
theorem kl_X8_203 : Cond.methodLink RX8 203 yX8_canDo ∈ mm_GW := (mm_in (i := 1291) (by decide +kernel) (by decide +kernel))
theorem v_X8_203_7 : mm_V RX8 203 7 yX8_canDo cX8_canDo 3 (some .boolean) 2 := ⟨RX8, TX8, 11, rfl, kc_X8_canDo, ki_X8, kn_X8_canDo, Or.inl ⟨kl_X8_203, (mm_inp (i := 68) (by decide +kernel) (by decide +kernel)), ⟨by decide, by decide⟩, by decide +kernel⟩⟩
theorem kl_X8_206 : Cond.methodLink RX8 206 yX8_keeps ∈ mm_GW := (mm_in (i := 1295) (by decide +kernel) (by decide +kernel))
theorem v_X8_206_7 : mm_V RX8 206 7 yX8_keeps cX8_keeps 2 none 0 := ⟨RX8, TX8, 11, rfl, kc_X8_keeps, ki_X8, kn_X8_keeps, Or.inl ⟨kl_X8_206, (mm_inp (i := 69) (by decide +kernel) (by decide +kernel)), ⟨by decide, by decide⟩, by decide +kernel⟩⟩
theorem kl_X8_209 : Cond.methodLink RX8 209 yX8_does ∈ mm_GW := (mm_in (i := 1299) (by decide +kernel) (by decide +kernel))
theorem v_X8_209_7 : mm_V RX8 209 7 yX8_does cX8_does 5 none 3 := ⟨RX8, TX8, 11, rfl, kc_X8_does, ki_X8, kn_X8_does, Or.inl ⟨kl_X8_209, (mm_inp (i := 70) (by decide +kernel) (by decide +kernel)), ⟨by decide, by decide⟩, by decide +kernel⟩⟩
theorem kl_X8_212 : Cond.methodLink RX8 212 yX8_returns ∈ mm_GW := (mm_in (i := 1303) (by decide +kernel) (by decide +kernel))
theorem v_X8_212_7 : mm_V RX8 212 7 yX8_returns cX8_returns 2 none 0 := ⟨RX8, TX8, 11, rfl, kc_X8_returns, ki_X8, kn_X8_returns, Or.inl ⟨kl_X8_212, (mm_inp (i := 71) (by decide +kernel) (by decide +kernel)), ⟨by decide, by decide⟩, by decide +kernel⟩⟩
theorem kl_L_182 : Cond.methodLink RL 182 yX8_sortingNeeds ∈ mm_GW := (mm_in (i := 1307) (by decide +kernel) (by decide +kernel))
theorem v_L_182_7 : mm_V RL 182 7 yX8_sortingNeeds cX8_sortingNeeds 3 (some .int) 1 := ⟨RX8, TX8, 11, rfl, kc_X8_sortingNeeds, ki_X8, kn_X8_sortingNeeds, Or.inl ⟨kl_L_182, (mm_in (i := 1309) (by decide +kernel) (by decide +kernel)), ⟨by decide, by decide⟩, by decide +kernel⟩⟩
theorem kl_L_186 : Cond.methodLink RL 186 yX8_fewest ∈ mm_GW := (mm_in (i := 1311) (by decide +kernel) (by decide +kernel))
theorem v_L_186_7 : mm_V RL 186 7 yX8_fewest cX8_fewest 3 (some .int) 0 := ⟨RX8, TX8, 11, rfl, kc_X8_fewest, ki_X8, kn_X8_fewest, Or.inl ⟨kl_L_186, (mm_in (i := 1313) (by decide +kernel) (by decide +kernel)), ⟨by decide, by decide⟩, by decide +kernel⟩⟩
theorem kl_L_189 : Cond.methodLink RL 189 yX8_type ∈ mm_GW := (mm_in (i := 1315) (by decide +kernel) (by decide +kernel))
theorem v_L_189_7 : mm_V RL 189 7 yX8_type cX8_type 2 (some .int) 1 := ⟨RX8, TX8, 11, rfl, kc_X8_type, ki_X8, kn_X8_type, Or.inl ⟨kl_L_189, (mm_in (i := 1317) (by decide +kernel) (by decide +kernel)), ⟨by decide, by decide⟩, by decide +kernel⟩⟩
theorem kl_L_193 : Cond.methodLink RL 193 yX8_clearText ∈ mm_GW := (mm_in (i := 1319) (by decide +kernel) (by decide +kernel))
theorem v_L_193_7 : mm_V RL 193 7 yX8_clearText cX8_clearText 2 (some .int) 0 := ⟨RX8, TX8, 11, rfl, kc_X8_clearText, ki_X8, kn_X8_clearText, Or.inl ⟨kl_L_193, (mm_in (i := 1321) (by decide +kernel) (by decide +kernel)), ⟨by decide, by decide⟩, by decide +kernel⟩⟩
theorem kl_L_197 : Cond.methodLink RL 197 yX8_fault ∈ mm_GW := (mm_in (i := 1323) (by decide +kernel) (by decide +kernel))
theorem v_L_197_7 : mm_V RL 197 7 yX8_fault cX8_fault 1 (some .int) 0 := ⟨RX8, TX8, 11, rfl, kc_X8_fault, ki_X8, kn_X8_fault, Or.inl ⟨kl_L_197, (mm_in (i := 1325) (by decide +kernel) (by decide +kernel)), ⟨by decide, by decide⟩, by decide +kernel⟩⟩
theorem kl_X8_242 : Cond.methodLink RX8 242 yX8_reads ∈ mm_GW := (mm_in (i := 1327) (by decide +kernel) (by decide +kernel))
theorem v_X8_242_7 : mm_V RX8 242 7 yX8_reads cX8_reads 6 (some .int) 1 := ⟨RX8, TX8, 11, rfl, kc_X8_reads, ki_X8, kn_X8_reads, Or.inl ⟨kl_X8_242, (mm_inp (i := 72) (by decide +kernel) (by decide +kernel)), ⟨by decide, by decide⟩, by decide +kernel⟩⟩
theorem kl_X8_223 : Cond.methodLink RX8 223 yX8_next ∈ mm_GW := (mm_in (i := 1331) (by decide +kernel) (by decide +kernel))
theorem v_X8_223_7 : mm_V RX8 223 7 yX8_next cX8_next 1 (some .int) 0 := ⟨RX8, TX8, 11, rfl, kc_X8_next, ki_X8, kn_X8_next, Or.inl ⟨kl_X8_223, (mm_inp (i := 73) (by decide +kernel) (by decide +kernel)), ⟨by decide, by decide⟩, by decide +kernel⟩⟩
theorem kl_X8_226 : Cond.methodLink RX8 226 yX8_fails ∈ mm_GW := (mm_in (i := 1335) (by decide +kernel) (by decide +kernel))
theorem v_X8_226_7 : mm_V RX8 226 7 yX8_fails cX8_fails 1 none 0 := ⟨RX8, TX8, 11, rfl, kc_X8_fails, ki_X8, kn_X8_fails, Or.inl ⟨kl_X8_226, (mm_inp (i := 74) (by decide +kernel) (by decide +kernel)), ⟨by decide, by decide⟩, by decide +kernel⟩⟩
theorem kl_X8_232 : Cond.methodLink RX8 232 yX8_number ∈ mm_GW := (mm_in (i := 1339) (by decide +kernel) (by decide +kernel))
theorem v_X8_232_7 : mm_V RX8 232 7 yX8_number cX8_number 6 (some .int) 2 := ⟨RX8, TX8, 11, rfl, kc_X8_number, ki_X8, kn_X8_number, Or.inl ⟨kl_X8_232, (mm_inp (i := 75) (by decide +kernel) (by decide +kernel)), ⟨by decide, by decide⟩, by decide +kernel⟩⟩
theorem kl_X8_236 : Cond.methodLink RX8 236 yX8_takes ∈ mm_GW := (mm_in (i := 1343) (by decide +kernel) (by decide +kernel))
theorem v_X8_236_7 : mm_V RX8 236 7 yX8_takes cX8_takes 2 none 1 := ⟨RX8, TX8, 11, rfl, kc_X8_takes, ki_X8, kn_X8_takes, Or.inl ⟨kl_X8_236, (mm_inp (i := 76) (by decide +kernel) (by decide +kernel)), ⟨by decide, by decide⟩, by decide +kernel⟩⟩
theorem kl_X8_239 : Cond.methodLink RX8 239 yX8_isDone ∈ mm_GW := (mm_in (i := 1347) (by decide +kernel) (by decide +kernel))
theorem v_X8_239_7 : mm_V RX8 239 7 yX8_isDone cX8_isDone 5 (some .boolean) 3 := ⟨RX8, TX8, 11, rfl, kc_X8_isDone, ki_X8, kn_X8_isDone, Or.inl ⟨kl_X8_239, (mm_inp (i := 77) (by decide +kernel) (by decide +kernel)), ⟨by decide, by decide⟩, by decide +kernel⟩⟩
theorem kl_L_200 : Cond.methodLink RL 200 yX8_run ∈ mm_GW := (mm_in (i := 1351) (by decide +kernel) (by decide +kernel))
theorem v_L_200_7 : mm_V RL 200 7 yX8_run cX8_run 2 (some .int) 0 := ⟨RX8, TX8, 11, rfl, kc_X8_run, ki_X8, kn_X8_run, Or.inl ⟨kl_L_200, (mm_in (i := 1353) (by decide +kernel) (by decide +kernel)), ⟨by decide, by decide⟩, by decide +kernel⟩⟩
theorem kl_L_208 : Cond.methodLink RL 208 yX8_checksum ∈ mm_GW := (mm_in (i := 1355) (by decide +kernel) (by decide +kernel))
theorem v_L_208_7 : mm_V RL 208 7 yX8_checksum cX8_checksum 3 (some .long) 0 := ⟨RX8, TX8, 11, rfl, kc_X8_checksum, ki_X8, kn_X8_checksum, Or.inl ⟨kl_L_208, (mm_in (i := 1357) (by decide +kernel) (by decide +kernel)), ⟨by decide, by decide⟩, by decide +kernel⟩⟩
theorem kl_X8_254 : Cond.methodLink RX8 254 yX8_mix ∈ mm_GW := (mm_in (i := 1360) (by decide +kernel) (by decide +kernel))
theorem v_X8_254_7 : mm_V RX8 254 7 yX8_mix cX8_mix 3 none 1 := ⟨RX8, TX8, 11, rfl, kc_X8_mix, ki_X8, kn_X8_mix, Or.inl ⟨kl_X8_254, (mm_inp (i := 78) (by decide +kernel) (by decide +kernel)), ⟨by decide, by decide⟩, by decide +kernel⟩⟩
theorem n_X7_9 : mm_In RX7 9 yX5_init cX5_init 1 0 := ⟨kc_X5_init, ki_X5, kn_X5_init, rfl, ⟨by decide, by decide⟩, by decide +kernel, Or.inr ⟨"TwoEndQueues", (mm_inl (i := 29) (by decide +kernel))⟩⟩
theorem n_X5_11 : mm_In RX5 11 yX2_init cX2_init 1 0 := ⟨kc_X2_init, ki_X2, kn_X2_init, rfl, ⟨by decide, by decide⟩, by decide +kernel, Or.inr ⟨"TwoEndQueues", (mm_inl (i := 35) (by decide +kernel))⟩⟩
theorem n_X2_3 : mm_In RX2 3 yX3_init cX3_init 1 0 := ⟨kc_X3_init, ki_X3, kn_X3_init, rfl, ⟨by decide, by decide⟩, by decide +kernel, Or.inr ⟨"TwoEndQueues", (mm_inl (i := 38) (by decide +kernel))⟩⟩
theorem n_X5_20 : mm_In RX5 20 yX4_init cX4_init 1 0 := ⟨kc_X4_init, ki_X4, kn_X4_init, rfl, ⟨by decide, by decide⟩, by decide +kernel, Or.inr ⟨"TwoEndQueues", (mm_inl (i := 68) (by decide +kernel))⟩⟩
theorem n_X4_3 : mm_In RX4 3 yX3_init cX3_init 1 0 := ⟨kc_X3_init, ki_X3, kn_X3_init, rfl, ⟨by decide, by decide⟩, by decide +kernel, Or.inr ⟨"TwoEndQueues", (mm_inl (i := 71) (by decide +kernel))⟩⟩
theorem n_X0_3 : mm_In RX0 3 yX3_init cX3_init 1 0 := ⟨kc_X3_init, ki_X3, kn_X3_init, rfl, ⟨by decide, by decide⟩, by decide +kernel, Or.inr ⟨"TwoEndQueues", (mm_inl (i := 81) (by decide +kernel))⟩⟩
theorem n_X1_17 : mm_In RX1 17 yX5_init cX5_init 1 0 := ⟨kc_X5_init, ki_X5, kn_X5_init, rfl, ⟨by decide, by decide⟩, by decide +kernel, Or.inr ⟨"TwoEndQueues", (mm_inl (i := 112) (by decide +kernel))⟩⟩
theorem n_X7_28 : mm_In RX7 28 yX6_init cX6_init 1 0 := ⟨kc_X6_init, ki_X6, kn_X6_init, rfl, ⟨by decide, by decide⟩, by decide +kernel, Or.inr ⟨"TwoEndQueues", (mm_inl (i := 126) (by decide +kernel))⟩⟩
theorem s_X5_102 : mm_St RX5 102 yX7_isKey 1 := ⟨ki_X7, ks_X7_isKey, ⟨by decide, by decide⟩, by decide +kernel, Or.inr ⟨"TwoEndQueues", (mm_inl (i := 648) (by decide +kernel))⟩⟩
theorem kk_L_8 : Cond.classLink RL 8 "TwoEndQueues" ∈ mm_GW := (mm_in (i := 19) (by decide +kernel) (by decide +kernel))
theorem w_L_8 : mm_New RL 8 6 4 [.null, .null, .null, .null] := ⟨RX7, TX7, tyX7, rfl, kw_X7, tyX7_ok, kk_L_8, (mm_in (i := 20) (by decide +kernel) (by decide +kernel)), ki_X7, by decide +kernel, by simp⟩
theorem kk_X7_7 : Cond.classLink RX7 7 "TwoEndQueues$Queues" ∈ mm_GW := (mm_in (i := 27) (by decide +kernel) (by decide +kernel))
theorem w_X7_7 : mm_New RX7 7 4 4 [.null, .null, .null, .null] := ⟨RX5, TX5, tyX5, rfl, kw_X5, tyX5_ok, kk_X7_7, (mm_in (i := 28) (by decide +kernel) (by decide +kernel)), ki_X5, by decide +kernel, by simp⟩
theorem kk_X5_9 : Cond.classLink RX5 9 "TwoEndQueues$IntervalLayout" ∈ mm_GW := (mm_in (i := 33) (by decide +kernel) (by decide +kernel))
theorem w_X5_9 : mm_New RX5 9 2 3 [.null, .int 0, .int 0] := ⟨RX2, TX2, tyX2, rfl, kw_X2, tyX2_ok, kk_X5_9, (mm_in (i := 34) (by decide +kernel) (by decide +kernel)), ki_X2, by decide +kernel, by simp⟩
theorem kk_X5_18 : Cond.classLink RX5 18 "TwoEndQueues$LevelLayout" ∈ mm_GW := (mm_in (i := 66) (by decide +kernel) (by decide +kernel))
theorem w_X5_18 : mm_New RX5 18 3 3 [.null, .int 0, .int 0] := ⟨RX4, TX4, tyX4, rfl, kw_X4, tyX4_ok, kk_X5_18, (mm_in (i := 67) (by decide +kernel) (by decide +kernel)), ki_X4, by decide +kernel, by simp⟩
theorem kk_X5_25 : Cond.classLink RX5 25 "TwoEndQueues$HeapLayout" ∈ mm_GW := (mm_in (i := 76) (by decide +kernel) (by decide +kernel))
theorem w_X5_25 : mm_New RX5 25 0 4 [.null, .int 0, .int 0, .int 0] := ⟨RX0, TX0, tyX0, rfl, kw_X0, tyX0_ok, kk_X5_25, (mm_in (i := 77) (by decide +kernel) (by decide +kernel)), ki_X0, by decide +kernel, by simp⟩
theorem kk_X7_19 : Cond.classLink RX7 19 "TwoEndQueues$History" ∈ mm_GW := (mm_in (i := 104) (by decide +kernel) (by decide +kernel))
theorem w_X7_19 : mm_New RX7 19 1 3 [.null, .int 0, .int 0] := ⟨RX1, TX1, tyX1, rfl, kw_X1, tyX1_ok, kk_X7_19, (mm_in (i := 105) (by decide +kernel) (by decide +kernel)), ki_X1, by decide +kernel, by simp⟩
theorem kk_X1_9 : Cond.classLink RX1 9 "TwoEndQueues$Queues" ∈ mm_GW := (mm_in (i := 110) (by decide +kernel) (by decide +kernel))
theorem w_X1_9 : mm_New RX1 9 4 4 [.null, .null, .null, .null] := ⟨RX5, TX5, tyX5, rfl, kw_X5, tyX5_ok, kk_X1_9, (mm_in (i := 28) (by decide +kernel) (by decide +kernel)), ki_X5, by decide +kernel, by simp⟩
theorem kk_X7_26 : Cond.classLink RX7 26 "TwoEndQueues$Script" ∈ mm_GW := (mm_in (i := 124) (by decide +kernel) (by decide +kernel))
theorem w_X7_26 : mm_New RX7 26 5 7 [.null, .int 0, .int 0, .int 0, .int 0, .int 0, .int 0] := ⟨RX6, TX6, tyX6, rfl, kw_X6, tyX6_ok, kk_X7_26, (mm_in (i := 125) (by decide +kernel) (by decide +kernel)), ki_X6, by decide +kernel, by simp⟩
theorem kk_L_13 : Cond.classLink RL 13 "java/lang/IllegalArgumentException" ∈ mm_GW := (mm_in (i := 487) (by decide +kernel) (by decide +kernel))
theorem kk_L_15 : Cond.classLink RL 15 "java/lang/IllegalStateException" ∈ mm_GW := (mm_in (i := 488) (by decide +kernel) (by decide +kernel))
theorem kk_X7_94 : Cond.classLink RX7 94 "java/lang/IllegalArgumentException" ∈ mm_GW := (mm_in (i := 499) (by decide +kernel) (by decide +kernel))
theorem kk_X7_41 : Cond.classLink RX7 41 "java/lang/IllegalStateException" ∈ mm_GW := (mm_in (i := 567) (by decide +kernel) (by decide +kernel))
theorem kk_L_27 : Cond.classLink RL 27 "java/lang/IndexOutOfBoundsException" ∈ mm_GW := (mm_in (i := 722) (by decide +kernel) (by decide +kernel))
theorem kk_X7_238 : Cond.classLink RX7 238 "java/lang/IndexOutOfBoundsException" ∈ mm_GW := (mm_in (i := 731) (by decide +kernel) (by decide +kernel))
theorem kk_L_86 : Cond.classLink RL 86 "TwoEndQueuesModel" ∈ mm_GW := (mm_in (i := 938) (by decide +kernel) (by decide +kernel))
theorem w_L_86 : mm_New RL 86 7 11 [.null, .null, .null, .int 0, .int 0, .null, .int 0, .int 0, .int 0, .int 0, .long 0] := ⟨RX8, TX8, tyX8, rfl, kw_X8, tyX8_ok, kk_L_86, (mm_in (i := 939) (by decide +kernel) (by decide +kernel)), ki_X8, by decide +kernel, by simp⟩
theorem kd_X7_145 : Cond.constant RX7 145 1000000 ∈ mm_GW := (mm_in (i := 848) (by decide +kernel) (by decide +kernel))
theorem kd_J6_265 : Cond.constant RJ6 265 1431655765 ∈ mm_GW := (mm_in (i := 869) (by decide +kernel) (by decide +kernel))
theorem kd_J6_266 : Cond.constant RJ6 266 858993459 ∈ mm_GW := (mm_in (i := 870) (by decide +kernel) (by decide +kernel))
theorem kd_J6_267 : Cond.constant RJ6 267 252645135 ∈ mm_GW := (mm_in (i := 871) (by decide +kernel) (by decide +kernel))
theorem kd_X8_199 : Cond.constant RX8 199 1000000 ∈ mm_GW := (mm_in (i := 1270) (by decide +kernel) (by decide +kernel))
theorem kd_X7_225 : Cond.constantLong RX7 225 576631 ∈ mm_GW := (mm_in (i := 457) (by decide +kernel) (by decide +kernel))
theorem kd_X7_227 : Cond.constantLong RX7 227 31 ∈ mm_GW := (mm_in (i := 458) (by decide +kernel) (by decide +kernel))
theorem kd_X7_101 : Cond.constantLong RX7 101 1103515245 ∈ mm_GW := (mm_in (i := 772) (by decide +kernel) (by decide +kernel))
theorem kd_X7_103 : Cond.constantLong RX7 103 12345 ∈ mm_GW := (mm_in (i := 773) (by decide +kernel) (by decide +kernel))
theorem kd_X7_105 : Cond.constantLong RX7 105 2147483648 ∈ mm_GW := (mm_in (i := 774) (by decide +kernel) (by decide +kernel))
theorem kd_X7_107 : Cond.constantLong RX7 107 65536 ∈ mm_GW := (mm_in (i := 775) (by decide +kernel) (by decide +kernel))
theorem kd_X7_109 : Cond.constantLong RX7 109 200 ∈ mm_GW := (mm_in (i := 776) (by decide +kernel) (by decide +kernel))
theorem kd_X8_171 : Cond.constantLong RX8 171 1103515245 ∈ mm_GW := (mm_in (i := 1202) (by decide +kernel) (by decide +kernel))
theorem kd_X8_173 : Cond.constantLong RX8 173 12345 ∈ mm_GW := (mm_in (i := 1203) (by decide +kernel) (by decide +kernel))
theorem kd_X8_175 : Cond.constantLong RX8 175 2147483648 ∈ mm_GW := (mm_in (i := 1204) (by decide +kernel) (by decide +kernel))
theorem kd_X8_177 : Cond.constantLong RX8 177 65536 ∈ mm_GW := (mm_in (i := 1205) (by decide +kernel) (by decide +kernel))
theorem kd_X8_179 : Cond.constantLong RX8 179 200 ∈ mm_GW := (mm_in (i := 1206) (by decide +kernel) (by decide +kernel))
theorem kd_X8_252 : Cond.constantLong RX8 252 18601 ∈ mm_GW := (mm_in (i := 1359) (by decide +kernel) (by decide +kernel))
theorem kd_X8_246 : Cond.constantLong RX8 246 31 ∈ mm_GW := (mm_in (i := 1364) (by decide +kernel) (by decide +kernel))
theorem ka_int : Cond.arrayClass .int ∈ mm_GW := (mm_in (i := 65) (by decide +kernel) (by decide +kernel))
theorem ka_char : Cond.arrayClass .char ∈ mm_GW := (mm_in (i := 156) (by decide +kernel) (by decide +kernel))
theorem ka_long : Cond.arrayClass .long ∈ mm_GW := (mm_in (i := 1365) (by decide +kernel) (by decide +kernel))
theorem kv_copy : Cond.native arraycopyName ∈ mm_GW := (mm_in (i := 195) (by decide +kernel) (by decide +kernel))
theorem ks_copy : Cond.static arraycopyName ∈ mm_GW := (mm_in (i := 194) (by decide +kernel) (by decide +kernel))
theorem ki_System : Cond.initialized "java/lang/System" ∈ mm_GW := (mm_in (i := 15) (by decide +kernel) (by decide +kernel))
theorem kt_X7_45 : ∀ w ∈ vx_atS RX7 45 "java/lang/IllegalStateException" ["java/lang/RuntimeException", "java/lang/Exception"], w ∈ mm_GW ∨ (w ∈ lw_tbl ∧ mm_ok w = true) := by decide +kernel
theorem ku_X7_45 : ∀ w ∈ Cond.classLink RX7 41 "java/lang/IllegalStateException" :: Cond.initialized "java/lang/IllegalStateException" :: vx_atS RX7 45 "java/lang/IllegalStateException" ["java/lang/RuntimeException", "java/lang/Exception"], vx_ot w = true := by decide +kernel
theorem kt_X7_98 : ∀ w ∈ vx_atS RX7 98 "java/lang/IllegalArgumentException" ["java/lang/RuntimeException", "java/lang/Exception"], w ∈ mm_GW ∨ (w ∈ lw_tbl ∧ mm_ok w = true) := by decide +kernel
theorem ku_X7_98 : ∀ w ∈ Cond.classLink RX7 94 "java/lang/IllegalArgumentException" :: Cond.initialized "java/lang/IllegalArgumentException" :: vx_atS RX7 98 "java/lang/IllegalArgumentException" ["java/lang/RuntimeException", "java/lang/Exception"], vx_ot w = true := by decide +kernel
theorem kt_X7_242 : ∀ w ∈ vx_atS RX7 242 "java/lang/IndexOutOfBoundsException" ["java/lang/RuntimeException", "java/lang/Exception"], w ∈ mm_GW ∨ (w ∈ lw_tbl ∧ mm_ok w = true) := by decide +kernel
theorem ku_X7_242 : ∀ w ∈ Cond.classLink RX7 238 "java/lang/IndexOutOfBoundsException" :: Cond.initialized "java/lang/IndexOutOfBoundsException" :: vx_atS RX7 242 "java/lang/IndexOutOfBoundsException" ["java/lang/RuntimeException", "java/lang/Exception"], vx_ot w = true := by decide +kernel
theorem t_X7_43 : mm_Thr RX7 41 43 45 "java/lang/IllegalStateException" := ⟨"there are 30 items", by decide +kernel, kk_X7_41, (mm_in (i := 14) (by decide +kernel) (by decide +kernel)), by decide +kernel, kt_X7_45, ku_X7_45⟩
theorem t_X7_99 : mm_Thr RX7 41 99 45 "java/lang/IllegalStateException" := ⟨"there would be more than 30 items", by decide +kernel, kk_X7_41, (mm_in (i := 14) (by decide +kernel) (by decide +kernel)), by decide +kernel, kt_X7_45, ku_X7_45⟩
theorem t_X7_190 : mm_Thr RX7 41 190 45 "java/lang/IllegalStateException" := ⟨"the text has 120 characters", by decide +kernel, kk_X7_41, (mm_in (i := 14) (by decide +kernel) (by decide +kernel)), by decide +kernel, kt_X7_45, ku_X7_45⟩
theorem t_X7_220 : mm_Thr RX7 41 220 45 "java/lang/IllegalStateException" := ⟨"there is no record", by decide +kernel, kk_X7_41, (mm_in (i := 14) (by decide +kernel) (by decide +kernel)), by decide +kernel, kt_X7_45, ku_X7_45⟩
theorem t_X7_245 : mm_Thr RX7 41 245 45 "java/lang/IllegalStateException" := ⟨"there is no item", by decide +kernel, kk_X7_41, (mm_in (i := 14) (by decide +kernel) (by decide +kernel)), by decide +kernel, kt_X7_45, ku_X7_45⟩
theorem t_X7_96 : mm_Thr RX7 94 96 98 "java/lang/IllegalArgumentException" := ⟨"count is not 1 to 30, or start is negative", by decide +kernel, kk_X7_94, (mm_in (i := 13) (by decide +kernel) (by decide +kernel)), by decide +kernel, kt_X7_98, ku_X7_98⟩
theorem t_X7_146 : mm_Thr RX7 94 146 98 "java/lang/IllegalArgumentException" := ⟨"position is not 0 to 1000000", by decide +kernel, kk_X7_94, (mm_in (i := 13) (by decide +kernel) (by decide +kernel)), by decide +kernel, kt_X7_98, ku_X7_98⟩
theorem t_X7_176 : mm_Thr RX7 94 176 98 "java/lang/IllegalArgumentException" := ⟨"what is not 0 to 4", by decide +kernel, kk_X7_94, (mm_in (i := 13) (by decide +kernel) (by decide +kernel)), by decide +kernel, kt_X7_98, ku_X7_98⟩
theorem t_X7_184 : mm_Thr RX7 94 184 98 "java/lang/IllegalArgumentException" := ⟨"c is not 32 to 126", by decide +kernel, kk_X7_94, (mm_in (i := 13) (by decide +kernel) (by decide +kernel)), by decide +kernel, kt_X7_98, ku_X7_98⟩
theorem t_X7_199 : mm_Thr RX7 94 199 98 "java/lang/IllegalArgumentException" := ⟨"the text has a fault", by decide +kernel, kk_X7_94, (mm_in (i := 13) (by decide +kernel) (by decide +kernel)), by decide +kernel, kt_X7_98, ku_X7_98⟩
theorem t_X7_232 : mm_Thr RX7 94 232 98 "java/lang/IllegalArgumentException" := ⟨"key is not -999 to 999", by decide +kernel, kk_X7_94, (mm_in (i := 13) (by decide +kernel) (by decide +kernel)), by decide +kernel, kt_X7_98, ku_X7_98⟩
theorem t_X7_234 : mm_Thr RX7 94 234 98 "java/lang/IllegalArgumentException" := ⟨"queue is not 0 to 2", by decide +kernel, kk_X7_94, (mm_in (i := 13) (by decide +kernel) (by decide +kernel)), by decide +kernel, kt_X7_98, ku_X7_98⟩
theorem t_X7_236 : mm_Thr RX7 94 236 98 "java/lang/IllegalArgumentException" := ⟨"layout is not 0 to 3", by decide +kernel, kk_X7_94, (mm_in (i := 13) (by decide +kernel) (by decide +kernel)), by decide +kernel, kt_X7_98, ku_X7_98⟩
theorem t_X7_240 : mm_Thr RX7 238 240 242 "java/lang/IndexOutOfBoundsException" := ⟨"there is no such item", by decide +kernel, kk_X7_238, (mm_in (i := 17) (by decide +kernel) (by decide +kernel)), by decide +kernel, kt_X7_242, ku_X7_242⟩
theorem t_X7_243 : mm_Thr RX7 238 243 242 "java/lang/IndexOutOfBoundsException" := ⟨"there is no such position", by decide +kernel, kk_X7_238, (mm_in (i := 17) (by decide +kernel) (by decide +kernel)), by decide +kernel, kt_X7_242, ku_X7_242⟩
end
