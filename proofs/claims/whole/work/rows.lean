section
-- ===== PART A: goes FIRST, ahead of the names: the tables' words, and 'selects' of the private methods out of them =====
/-- a private method of a class that the tables say can be made, by its rows of tables_1 -/
def lw_okq (q : MethodName × Nat) : Prop := (q.1.cls ≠ "java/lang/invoke/MethodHandle" ∧ q.1.cls ≠ "java/lang/invoke/VarHandle") ∧ Cond.instantiable q.1.cls q.2 ∈ tables_1 ∧ Cond.privateMethod q.1 ∈ tables_1 ∧ Cond.instanceMethod q.1 ∈ tables_1
theorem lw_p0 : lw_okq (⟨"RateGate$Request", "readText", "()V"⟩, 5) := ⟨⟨by decide +kernel, by decide +kernel⟩, List.mem_of_getElem? (i := 42) (by decide +kernel), List.mem_of_getElem? (i := 245) (by decide +kernel), List.mem_of_getElem? (i := 246) (by decide +kernel)⟩
theorem lw_p1 : lw_okq (⟨"RateGate$Request", "endOfPart", "(I)I"⟩, 5) := ⟨⟨by decide +kernel, by decide +kernel⟩, List.mem_of_getElem? (i := 42) (by decide +kernel), List.mem_of_getElem? (i := 256) (by decide +kernel), List.mem_of_getElem? (i := 257) (by decide +kernel)⟩
theorem lw_p2 : lw_okq (⟨"RateGate$Request", "signAt", "(I)C"⟩, 5) := ⟨⟨by decide +kernel, by decide +kernel⟩, List.mem_of_getElem? (i := 42) (by decide +kernel), List.mem_of_getElem? (i := 260) (by decide +kernel), List.mem_of_getElem? (i := 261) (by decide +kernel)⟩
theorem lw_p3 : lw_okq (⟨"RateGate$Request", "readPart", "(III)V"⟩, 5) := ⟨⟨by decide +kernel, by decide +kernel⟩, List.mem_of_getElem? (i := 42) (by decide +kernel), List.mem_of_getElem? (i := 264) (by decide +kernel), List.mem_of_getElem? (i := 265) (by decide +kernel)⟩
theorem lw_p4 : lw_okq (⟨"RateGate$Request", "keyIn", "(II)I"⟩, 5) := ⟨⟨by decide +kernel, by decide +kernel⟩, List.mem_of_getElem? (i := 42) (by decide +kernel), List.mem_of_getElem? (i := 268) (by decide +kernel), List.mem_of_getElem? (i := 269) (by decide +kernel)⟩
theorem lw_p5 : lw_okq (⟨"RateGate$Request", "setFault", "(Ljava/lang/String;C)V"⟩, 5) := ⟨⟨by decide +kernel, by decide +kernel⟩, List.mem_of_getElem? (i := 42) (by decide +kernel), List.mem_of_getElem? (i := 360) (by decide +kernel), List.mem_of_getElem? (i := 361) (by decide +kernel)⟩
theorem lw_p6 : lw_okq (⟨"RateGate$Request", "readValue", "(III)I"⟩, 5) := ⟨⟨by decide +kernel, by decide +kernel⟩, List.mem_of_getElem? (i := 42) (by decide +kernel), List.mem_of_getElem? (i := 385) (by decide +kernel), List.mem_of_getElem? (i := 386) (by decide +kernel)⟩
theorem lw_p7 : lw_okq (⟨"RateGate$Request", "readDigit", "(III)I"⟩, 5) := ⟨⟨by decide +kernel, by decide +kernel⟩, List.mem_of_getElem? (i := 42) (by decide +kernel), List.mem_of_getElem? (i := 389) (by decide +kernel), List.mem_of_getElem? (i := 390) (by decide +kernel)⟩
theorem lw_p8 : lw_okq (⟨"RateGate$Request", "readWeight", "(II)I"⟩, 5) := ⟨⟨by decide +kernel, by decide +kernel⟩, List.mem_of_getElem? (i := 42) (by decide +kernel), List.mem_of_getElem? (i := 396) (by decide +kernel), List.mem_of_getElem? (i := 397) (by decide +kernel)⟩
theorem lw_p9 : lw_okq (⟨"RateGate$Request", "readExpress", "(II)I"⟩, 5) := ⟨⟨by decide +kernel, by decide +kernel⟩, List.mem_of_getElem? (i := 42) (by decide +kernel), List.mem_of_getElem? (i := 403) (by decide +kernel), List.mem_of_getElem? (i := 404) (by decide +kernel)⟩
theorem lw_p10 : lw_okq (⟨"RateGate$Request", "findMissingKey", "()V"⟩, 5) := ⟨⟨by decide +kernel, by decide +kernel⟩, List.mem_of_getElem? (i := 42) (by decide +kernel), List.mem_of_getElem? (i := 408) (by decide +kernel), List.mem_of_getElem? (i := 409) (by decide +kernel)⟩
theorem lw_p11 : lw_okq (⟨"java/lang/Throwable", "fillInStackTrace", "(I)Ljava/lang/Throwable;"⟩, 6) := ⟨⟨by decide +kernel, by decide +kernel⟩, List.mem_of_getElem? (i := 622) (by decide +kernel), List.mem_of_getElem? (i := 620) (by decide +kernel), List.mem_of_getElem? (i := 621) (by decide +kernel)⟩
theorem lw_p12 : lw_okq (⟨"RateGate", "shipperAt", "(I)LRateGate$Shipper;"⟩, 7) := ⟨⟨by decide +kernel, by decide +kernel⟩, List.mem_of_getElem? (i := 34) (by decide +kernel), List.mem_of_getElem? (i := 792) (by decide +kernel), List.mem_of_getElem? (i := 793) (by decide +kernel)⟩
theorem lw_p13 : lw_okq (⟨"RateGate", "carrierAt", "(I)LRateGate$Carrier;"⟩, 7) := ⟨⟨by decide +kernel, by decide +kernel⟩, List.mem_of_getElem? (i := 34) (by decide +kernel), List.mem_of_getElem? (i := 805) (by decide +kernel), List.mem_of_getElem? (i := 806) (by decide +kernel)⟩
theorem lw_p14 : lw_okq (⟨"RateGate", "answerTo", "(LRateGate$Shipper;LRateGate$Carrier;)I"⟩, 7) := ⟨⟨by decide +kernel, by decide +kernel⟩, List.mem_of_getElem? (i := 34) (by decide +kernel), List.mem_of_getElem? (i := 841) (by decide +kernel), List.mem_of_getElem? (i := 842) (by decide +kernel)⟩
theorem lw_p15 : lw_okq (⟨"RateGate", "quoteFixingRequest", "()LRateGate$Quote;"⟩, 7) := ⟨⟨by decide +kernel, by decide +kernel⟩, List.mem_of_getElem? (i := 34) (by decide +kernel), List.mem_of_getElem? (i := 854) (by decide +kernel), List.mem_of_getElem? (i := 855) (by decide +kernel)⟩
def lw_privs_1 : List (MethodName × Nat) := [(⟨"RateGate$Request", "readText", "()V"⟩, 5), (⟨"RateGate$Request", "endOfPart", "(I)I"⟩, 5), (⟨"RateGate$Request", "signAt", "(I)C"⟩, 5), (⟨"RateGate$Request", "readPart", "(III)V"⟩, 5), (⟨"RateGate$Request", "keyIn", "(II)I"⟩, 5), (⟨"RateGate$Request", "setFault", "(Ljava/lang/String;C)V"⟩, 5), (⟨"RateGate$Request", "readValue", "(III)I"⟩, 5), (⟨"RateGate$Request", "readDigit", "(III)I"⟩, 5), (⟨"RateGate$Request", "readWeight", "(II)I"⟩, 5), (⟨"RateGate$Request", "readExpress", "(II)I"⟩, 5), (⟨"RateGate$Request", "findMissingKey", "()V"⟩, 5), (⟨"java/lang/Throwable", "fillInStackTrace", "(I)Ljava/lang/Throwable;"⟩, 6), (⟨"RateGate", "shipperAt", "(I)LRateGate$Shipper;"⟩, 7), (⟨"RateGate", "carrierAt", "(I)LRateGate$Carrier;"⟩, 7), (⟨"RateGate", "answerTo", "(LRateGate$Shipper;LRateGate$Carrier;)I"⟩, 7), (⟨"RateGate", "quoteFixingRequest", "()LRateGate$Quote;"⟩, 7)]
theorem lw_r1 : ∀ q ∈ lw_privs_1, lw_okq q := List.forall_mem_cons.mpr ⟨lw_p0, List.forall_mem_cons.mpr ⟨lw_p1, List.forall_mem_cons.mpr ⟨lw_p2, List.forall_mem_cons.mpr ⟨lw_p3, List.forall_mem_cons.mpr ⟨lw_p4, List.forall_mem_cons.mpr ⟨lw_p5, List.forall_mem_cons.mpr ⟨lw_p6, List.forall_mem_cons.mpr ⟨lw_p7, List.forall_mem_cons.mpr ⟨lw_p8, List.forall_mem_cons.mpr ⟨lw_p9, List.forall_mem_cons.mpr ⟨lw_p10, List.forall_mem_cons.mpr ⟨lw_p11, List.forall_mem_cons.mpr ⟨lw_p12, List.forall_mem_cons.mpr ⟨lw_p13, List.forall_mem_cons.mpr ⟨lw_p14, List.forall_mem_cons.mpr ⟨lw_p15, fun _ h => absurd h List.not_mem_nil⟩⟩⟩⟩⟩⟩⟩⟩⟩⟩⟩⟩⟩⟩⟩⟩
theorem lw_p16 : lw_okq (⟨"RateGate", "addQuote", "(LRateGate$Tariff;I)I"⟩, 7) := ⟨⟨by decide +kernel, by decide +kernel⟩, List.mem_of_getElem? (i := 34) (by decide +kernel), List.mem_of_getElem? (i := 885) (by decide +kernel), List.mem_of_getElem? (i := 886) (by decide +kernel)⟩
theorem lw_p17 : lw_okq (⟨"java/util/ArrayList", "add", "(Ljava/lang/Object;[Ljava/lang/Object;I)V"⟩, 3) := ⟨⟨by decide +kernel, by decide +kernel⟩, List.mem_of_getElem? (i := 99) (by decide +kernel), List.mem_of_getElem? (i := 933) (by decide +kernel), List.mem_of_getElem? (i := 934) (by decide +kernel)⟩
theorem lw_p18 : lw_okq (⟨"java/util/ArrayList", "grow", "()[Ljava/lang/Object;"⟩, 3) := ⟨⟨by decide +kernel, by decide +kernel⟩, List.mem_of_getElem? (i := 99) (by decide +kernel), List.mem_of_getElem? (i := 937) (by decide +kernel), List.mem_of_getElem? (i := 938) (by decide +kernel)⟩
theorem lw_p19 : lw_okq (⟨"java/util/ArrayList", "grow", "(I)[Ljava/lang/Object;"⟩, 3) := ⟨⟨by decide +kernel, by decide +kernel⟩, List.mem_of_getElem? (i := 99) (by decide +kernel), List.mem_of_getElem? (i := 941) (by decide +kernel), List.mem_of_getElem? (i := 942) (by decide +kernel)⟩
theorem lw_p20 : lw_okq (⟨"RateGate$Carrier", "succeedsAt", "(I)Z"⟩, 7) := ⟨⟨by decide +kernel, by decide +kernel⟩, List.mem_of_getElem? (i := 155) (by decide +kernel), List.mem_of_getElem? (i := 985) (by decide +kernel), List.mem_of_getElem? (i := 986) (by decide +kernel)⟩
theorem lw_p21 : lw_okq (⟨"RateGate", "quoteAt", "(I)LRateGate$Quote;"⟩, 7) := ⟨⟨by decide +kernel, by decide +kernel⟩, List.mem_of_getElem? (i := 34) (by decide +kernel), List.mem_of_getElem? (i := 1001) (by decide +kernel), List.mem_of_getElem? (i := 1002) (by decide +kernel)⟩
theorem lw_p22 : lw_okq (⟨"RateGate", "parcelAt", "(I)LRateGate$Parcel;"⟩, 7) := ⟨⟨by decide +kernel, by decide +kernel⟩, List.mem_of_getElem? (i := 34) (by decide +kernel), List.mem_of_getElem? (i := 1091) (by decide +kernel), List.mem_of_getElem? (i := 1092) (by decide +kernel)⟩
theorem lw_p23 : lw_okq (⟨"RateGate", "dueParcelCosts", "(I)I"⟩, 7) := ⟨⟨by decide +kernel, by decide +kernel⟩, List.mem_of_getElem? (i := 34) (by decide +kernel), List.mem_of_getElem? (i := 1131) (by decide +kernel), List.mem_of_getElem? (i := 1132) (by decide +kernel)⟩
theorem lw_p24 : lw_okq (⟨"RateGate", "markDueParcels", "(I)V"⟩, 7) := ⟨⟨by decide +kernel, by decide +kernel⟩, List.mem_of_getElem? (i := 34) (by decide +kernel), List.mem_of_getElem? (i := 1147) (by decide +kernel), List.mem_of_getElem? (i := 1148) (by decide +kernel)⟩
theorem lw_p25 : lw_okq (⟨"RateGateModel", "reads", "()Z"⟩, 47) := ⟨⟨by decide +kernel, by decide +kernel⟩, List.mem_of_getElem? (i := 1158) (by decide +kernel), List.mem_of_getElem? (i := 1325) (by decide +kernel), List.mem_of_getElem? (i := 1326) (by decide +kernel)⟩
theorem lw_p26 : lw_okq (⟨"RateGateModel", "readPart", "(III)V"⟩, 47) := ⟨⟨by decide +kernel, by decide +kernel⟩, List.mem_of_getElem? (i := 1158) (by decide +kernel), List.mem_of_getElem? (i := 1329) (by decide +kernel), List.mem_of_getElem? (i := 1330) (by decide +kernel)⟩
theorem lw_p27 : lw_okq (⟨"RateGateModel", "keyOf", "(II)I"⟩, 47) := ⟨⟨by decide +kernel, by decide +kernel⟩, List.mem_of_getElem? (i := 1158) (by decide +kernel), List.mem_of_getElem? (i := 1333) (by decide +kernel), List.mem_of_getElem? (i := 1334) (by decide +kernel)⟩
theorem lw_p28 : lw_okq (⟨"RateGateModel", "fails", "(II)V"⟩, 47) := ⟨⟨by decide +kernel, by decide +kernel⟩, List.mem_of_getElem? (i := 1158) (by decide +kernel), List.mem_of_getElem? (i := 1337) (by decide +kernel), List.mem_of_getElem? (i := 1338) (by decide +kernel)⟩
theorem lw_p29 : lw_okq (⟨"RateGateModel", "valueOf", "(III)I"⟩, 47) := ⟨⟨by decide +kernel, by decide +kernel⟩, List.mem_of_getElem? (i := 1158) (by decide +kernel), List.mem_of_getElem? (i := 1341) (by decide +kernel), List.mem_of_getElem? (i := 1342) (by decide +kernel)⟩
theorem lw_p30 : lw_okq (⟨"RateGateModel", "number", "(III)I"⟩, 47) := ⟨⟨by decide +kernel, by decide +kernel⟩, List.mem_of_getElem? (i := 1158) (by decide +kernel), List.mem_of_getElem? (i := 1345) (by decide +kernel), List.mem_of_getElem? (i := 1346) (by decide +kernel)⟩
theorem lw_p31 : lw_okq (⟨"RateGateModel", "tells", "()V"⟩, 47) := ⟨⟨by decide +kernel, by decide +kernel⟩, List.mem_of_getElem? (i := 1158) (by decide +kernel), List.mem_of_getElem? (i := 1353) (by decide +kernel), List.mem_of_getElem? (i := 1354) (by decide +kernel)⟩
def lw_privs_2 : List (MethodName × Nat) := [(⟨"RateGate", "addQuote", "(LRateGate$Tariff;I)I"⟩, 7), (⟨"java/util/ArrayList", "add", "(Ljava/lang/Object;[Ljava/lang/Object;I)V"⟩, 3), (⟨"java/util/ArrayList", "grow", "()[Ljava/lang/Object;"⟩, 3), (⟨"java/util/ArrayList", "grow", "(I)[Ljava/lang/Object;"⟩, 3), (⟨"RateGate$Carrier", "succeedsAt", "(I)Z"⟩, 7), (⟨"RateGate", "quoteAt", "(I)LRateGate$Quote;"⟩, 7), (⟨"RateGate", "parcelAt", "(I)LRateGate$Parcel;"⟩, 7), (⟨"RateGate", "dueParcelCosts", "(I)I"⟩, 7), (⟨"RateGate", "markDueParcels", "(I)V"⟩, 7), (⟨"RateGateModel", "reads", "()Z"⟩, 47), (⟨"RateGateModel", "readPart", "(III)V"⟩, 47), (⟨"RateGateModel", "keyOf", "(II)I"⟩, 47), (⟨"RateGateModel", "fails", "(II)V"⟩, 47), (⟨"RateGateModel", "valueOf", "(III)I"⟩, 47), (⟨"RateGateModel", "number", "(III)I"⟩, 47), (⟨"RateGateModel", "tells", "()V"⟩, 47)]
theorem lw_r2 : ∀ q ∈ lw_privs_2, lw_okq q := List.forall_mem_cons.mpr ⟨lw_p16, List.forall_mem_cons.mpr ⟨lw_p17, List.forall_mem_cons.mpr ⟨lw_p18, List.forall_mem_cons.mpr ⟨lw_p19, List.forall_mem_cons.mpr ⟨lw_p20, List.forall_mem_cons.mpr ⟨lw_p21, List.forall_mem_cons.mpr ⟨lw_p22, List.forall_mem_cons.mpr ⟨lw_p23, List.forall_mem_cons.mpr ⟨lw_p24, List.forall_mem_cons.mpr ⟨lw_p25, List.forall_mem_cons.mpr ⟨lw_p26, List.forall_mem_cons.mpr ⟨lw_p27, List.forall_mem_cons.mpr ⟨lw_p28, List.forall_mem_cons.mpr ⟨lw_p29, List.forall_mem_cons.mpr ⟨lw_p30, List.forall_mem_cons.mpr ⟨lw_p31, fun _ h => absurd h List.not_mem_nil⟩⟩⟩⟩⟩⟩⟩⟩⟩⟩⟩⟩⟩⟩⟩⟩
theorem lw_p32 : lw_okq (⟨"RateGateModel", "inWindow", "(I)I"⟩, 47) := ⟨⟨by decide +kernel, by decide +kernel⟩, List.mem_of_getElem? (i := 1158) (by decide +kernel), List.mem_of_getElem? (i := 1387) (by decide +kernel), List.mem_of_getElem? (i := 1388) (by decide +kernel)⟩
theorem lw_p33 : lw_okq (⟨"RateGateModel", "quote", "(III)I"⟩, 47) := ⟨⟨by decide +kernel, by decide +kernel⟩, List.mem_of_getElem? (i := 1158) (by decide +kernel), List.mem_of_getElem? (i := 1391) (by decide +kernel), List.mem_of_getElem? (i := 1392) (by decide +kernel)⟩
theorem lw_p34 : lw_okq (⟨"RateGateModel", "asked", "(I)I"⟩, 47) := ⟨⟨by decide +kernel, by decide +kernel⟩, List.mem_of_getElem? (i := 1158) (by decide +kernel), List.mem_of_getElem? (i := 1395) (by decide +kernel), List.mem_of_getElem? (i := 1396) (by decide +kernel)⟩
theorem lw_p35 : lw_okq (⟨"RateGateModel", "circuitOf", "(I)I"⟩, 47) := ⟨⟨by decide +kernel, by decide +kernel⟩, List.mem_of_getElem? (i := 1158) (by decide +kernel), List.mem_of_getElem? (i := 1399) (by decide +kernel), List.mem_of_getElem? (i := 1400) (by decide +kernel)⟩
theorem lw_p36 : lw_okq (⟨"RateGateModel", "isFailed", "(I)Z"⟩, 47) := ⟨⟨by decide +kernel, by decide +kernel⟩, List.mem_of_getElem? (i := 1158) (by decide +kernel), List.mem_of_getElem? (i := 1403) (by decide +kernel), List.mem_of_getElem? (i := 1404) (by decide +kernel)⟩
theorem lw_p37 : lw_okq (⟨"RateGateModel", "asksQuote", "(I)Z"⟩, 47) := ⟨⟨by decide +kernel, by decide +kernel⟩, List.mem_of_getElem? (i := 1158) (by decide +kernel), List.mem_of_getElem? (i := 1411) (by decide +kernel), List.mem_of_getElem? (i := 1412) (by decide +kernel)⟩
theorem lw_p38 : lw_okq (⟨"RateGateModel", "quoted", "(II)I"⟩, 47) := ⟨⟨by decide +kernel, by decide +kernel⟩, List.mem_of_getElem? (i := 1158) (by decide +kernel), List.mem_of_getElem? (i := 1415) (by decide +kernel), List.mem_of_getElem? (i := 1416) (by decide +kernel)⟩
theorem lw_p39 : lw_okq (⟨"RateGateModel", "leftOf", "(I)I"⟩, 47) := ⟨⟨by decide +kernel, by decide +kernel⟩, List.mem_of_getElem? (i := 1158) (by decide +kernel), List.mem_of_getElem? (i := 1430) (by decide +kernel), List.mem_of_getElem? (i := 1431) (by decide +kernel)⟩
theorem lw_p40 : lw_okq (⟨"RateGateModel", "isParcel", "(I)Z"⟩, 47) := ⟨⟨by decide +kernel, by decide +kernel⟩, List.mem_of_getElem? (i := 1158) (by decide +kernel), List.mem_of_getElem? (i := 1458) (by decide +kernel), List.mem_of_getElem? (i := 1459) (by decide +kernel)⟩
theorem lw_p41 : lw_okq (⟨"RateGateModel", "billOf", "(I)I"⟩, 47) := ⟨⟨by decide +kernel, by decide +kernel⟩, List.mem_of_getElem? (i := 1158) (by decide +kernel), List.mem_of_getElem? (i := 1478) (by decide +kernel), List.mem_of_getElem? (i := 1479) (by decide +kernel)⟩
theorem lw_p42 : lw_okq (⟨"RateGateModel", "isDue", "(II)Z"⟩, 47) := ⟨⟨by decide +kernel, by decide +kernel⟩, List.mem_of_getElem? (i := 1158) (by decide +kernel), List.mem_of_getElem? (i := 1482) (by decide +kernel), List.mem_of_getElem? (i := 1483) (by decide +kernel)⟩
def lw_privs_3 : List (MethodName × Nat) := [(⟨"RateGateModel", "inWindow", "(I)I"⟩, 47), (⟨"RateGateModel", "quote", "(III)I"⟩, 47), (⟨"RateGateModel", "asked", "(I)I"⟩, 47), (⟨"RateGateModel", "circuitOf", "(I)I"⟩, 47), (⟨"RateGateModel", "isFailed", "(I)Z"⟩, 47), (⟨"RateGateModel", "asksQuote", "(I)Z"⟩, 47), (⟨"RateGateModel", "quoted", "(II)I"⟩, 47), (⟨"RateGateModel", "leftOf", "(I)I"⟩, 47), (⟨"RateGateModel", "isParcel", "(I)Z"⟩, 47), (⟨"RateGateModel", "billOf", "(I)I"⟩, 47), (⟨"RateGateModel", "isDue", "(II)Z"⟩, 47)]
theorem lw_r3 : ∀ q ∈ lw_privs_3, lw_okq q := List.forall_mem_cons.mpr ⟨lw_p32, List.forall_mem_cons.mpr ⟨lw_p33, List.forall_mem_cons.mpr ⟨lw_p34, List.forall_mem_cons.mpr ⟨lw_p35, List.forall_mem_cons.mpr ⟨lw_p36, List.forall_mem_cons.mpr ⟨lw_p37, List.forall_mem_cons.mpr ⟨lw_p38, List.forall_mem_cons.mpr ⟨lw_p39, List.forall_mem_cons.mpr ⟨lw_p40, List.forall_mem_cons.mpr ⟨lw_p41, List.forall_mem_cons.mpr ⟨lw_p42, fun _ h => absurd h List.not_mem_nil⟩⟩⟩⟩⟩⟩⟩⟩⟩⟩⟩
def lw_privs : List (MethodName × Nat) := lw_privs_1 ++ (lw_privs_2 ++ (lw_privs_3))
def lw_tbl : List Cond := k2_sels lw_privs ++ tables_1
theorem lw_privs_ok : ∀ q ∈ lw_privs, lw_okq q := by
  show ∀ q ∈ lw_privs_1 ++ (lw_privs_2 ++ (lw_privs_3)), lw_okq q
  exact List.forall_mem_append.mpr ⟨lw_r1, List.forall_mem_append.mpr ⟨lw_r2, lw_r3⟩⟩
end
section
/-! ===== BEGIN words of one list among another's, by their places ===== -/
theorem goodIn_r {big : List Cond} (ws : List Cond) (ps : List Nat) (hp : ws = ps.filterMap (fun i => big[i]?)) (h : ws.all goodWord = true) : GoodIn big ws := by
  intro w hw
  have h1 := List.all_eq_true.mp h w hw
  rw [hp] at hw
  obtain ⟨i, -, hi⟩ := List.mem_filterMap.mp hw
  have hm : w ∈ big := by first | exact List.mem_of_getElem? hi | exact List.getElem?_mem hi
  exact ⟨hm, good_of_word h1⟩
theorem goodIn_app {big a b : List Cond} (ha : GoodIn big a) (hb : GoodIn big b) : GoodIn big (a ++ b) := fun w h => (List.mem_append.mp h).elim (ha w) (hb w)
theorem goodIn_ca {big a b : List Cond} {c : Cond} (ha : GoodIn big (c :: a)) (hb : GoodIn big b) : GoodIn big (c :: (a ++ b)) := fun w h => (List.mem_cons.mp h).elim (fun e => ha w (List.mem_cons.mpr (Or.inl e))) (fun h => (List.mem_append.mp h).elim (fun h => ha w (List.mem_cons.mpr (Or.inr h))) (hb w))
theorem goodIn_sub {big ws : List Cond} (hm : ∀ w ∈ ws, w ∈ big) (h : ws.all goodWord = true) : GoodIn big ws := fun w hw => ⟨hm w hw, good_of_word (List.all_eq_true.mp h w hw)⟩
/-! ===== END ===== -/

/-! ===== BEGIN exceptions that leave a method, and their catching by the caller (launches without stack traces) ===== -/
section VXA
/-! The laws vx_back, vx_callV, vx_callS, vx_callSW, vx_throw0, vx_throwS follow proofs of the library, with one case more: JvmDerived/Free/Laws.lean (Back.of_free), Shelf42/LK1.lean (callV, callS), Shelf/KitTraced.lean (throwNew0V, throwNewS). -/
/-- where a method has thrown q: the class by its name, the cell, what was written, the world -/
def vx_T (XC : String → State → State → Prop) (st : State) (q : Addr) (t : State) (mc ms : Nat) (free : Addr → Prop) : Prop :=
  ∃ (E : String) (ce : Cell) (L : List Loc), XC E st t ∧ t.heap[q]? = some ce ∧ ce.vm = .none ∧ st.vm.findClass E = some ce.cls ∧ st.WarmedH t.vm ∧ st.sameButNew ({ t with vm := st.vm } : State) L mc ms ∧ ∀ z ∈ L, free z.base
def vx_Q (Qc : Array Value → State → Outcome → State → Prop) (XC : String → State → State → Prop) (mc ms : Nat) (free : Addr → Prop) : Array Value → State → Outcome → State → Prop := fun a st o t =>
  (Qc a st o t ∧ ∃ L, FrameEnd st o t L mc ms ∧ ∀ q ∈ L, free q.base) ∨ ∃ q, o = .threw q ∧ vx_T XC st q t mc ms free
/-- a callee that returns or throws -/
def vx_Met (l : Launch) (y : MethodName) (ws : List Cond) (rm : Room) (Pc : Array Value → State → Prop) (Qc : Array Value → State → Outcome → State → Prop) (XC : String → State → State → Prop) (mc ms : Nat) (free : Addr → Prop) : Prop :=
  MetFree l y (headSpec ws rm) Pc (fun _ _ _ _ _ => True) (vx_Q Qc XC mc ms free)
def vx_Post (XC : String → State → State → Prop) (mc ms : Nat) (free : Addr → Prop) : Pt → Array Value → Addr → Pt → Prop := fun A a q B =>
  ∃ (g : JFrame) (mk : MethodId) (t : State) (L : List Loc) (E : String) (ce : Cell), B.U.heap = t.heap ∧ B.U.vm = t.vm ∧ XC E (A.U.calling g mk a) t ∧ t.heap[q]? = some ce ∧ ce.vm = .none ∧ A.U.vm.findClass E = some ce.cls ∧ B.locs = A.locs ++ L ∧ (∀ z ∈ L, free z.base) ∧ B.cells = A.cells + mc ∧ B.slots = A.slots + ms
def vx_Back (l : Launch) (R : Room) (p : Program) (e : Env) (below : List Frame) (s : State) (sargs : Array Value) (y : MethodName) (len W9 : Nat)
    (Pre : Pt → Array Value → Prop) (Post : Pt → Array Value → Option Value → Pt → Prop) (PostX : Pt → Array Value → Addr → Pt → Prop) : Prop :=
  ∀ (m : MethodId) (meth : Method) (c : Code) (A : Pt) (g : JFrame) (ig : Instr) (mk : MethodId) (a : Array Value),
    Stand p l e R s m sargs below meth c A.U A.locs A.cells A.slots → g.method = m → g.locals.size = c.maxLocals → decode c.code g.pc = .ok (ig, len) →
    2 * g.monitorRoom + (g.stack.map fun v => v.category).sum ≤ W9 → A.U.methodNamed? y = some mk → Pre A a →
    (∃ (v : Option Value) (B : Pt), Stand p l e R s m sargs below meth c B.U B.locs B.cells B.slots ∧ Post A a v B ∧
      Steps p.tables e below (doInvoke e (A.U.setTop g) [] mk a).1 (B.U.setTop { g with pc := g.pc + len, stack := v.toList ++ g.stack })) ∨
    (∃ (q : Addr) (B : Pt), Stand p l e R s m sargs below meth c B.U B.locs B.cells B.slots ∧ PostX A a q B ∧
      Steps p.tables e below (doInvoke e (A.U.setTop g) [] mk a).1 ((B.U.setTop g).pushFrame (.throwing q)))
section Payer
variable {l : Launch} {R : Room} {p : Program} {e : Env} {below : List Frame} {s : State} {sargs : Array Value} {y : MethodName} {len W9 : Nat}
theorem vx_back {ws : List Cond} {rm : Room} {Pc : Array Value → State → Prop} {Qc : Array Value → State → Outcome → State → Prop} {XC : String → State → State → Prop} {mc ms : Nat} {free : Addr → Prop} {bytes : ByteArray} {maxL : Nat} {ret : Option FieldType}
    (hM : vx_Met l y ws rm Pc Qc XC mc ms free) (hblind : FrameBlind Pc) (hrc : rm.cells = mc) (hrs : rm.slots = ms)
    (hframes : rm.frames + 1 ≤ R.frames) (hlocals : W9 + (maxL + 11) + rm.locals ≤ R.locals)
    (hws : ∀ w ∈ ws, ∀ a' U, s.WarmedH U.vm → w.before a' U = true) (hcode : Cond.code y bytes maxL ret ∈ ws) (hinit : ∀ a' U, s.WarmedH U.vm → (Cond.initialized y.cls).before a' U = true) :
    vx_Back l R p e below s sargs y len W9 (PreOf R mc ms Pc) (PostOf Qc mc ms free) (vx_Post XC mc ms free) := by
  intro m meth c A g ig mk a X hg hsize hdg hW hn hp
  have h1 : (headSpec ws rm).pre.before a A.U = true := atoms_intro fun w hw => hws w hw _ _ X.warmed
  have h2 : (Cond.code y bytes maxL ret).before a A.U = true := hws _ hcode _ _ X.warmed
  have h3 : (Cond.initialized y.cls).before a A.U = true := hinit _ _ X.warmed
  have h4 : A.cells + (headSpec ws rm).room.cells ≤ R.cells := by rw [show (headSpec ws rm).room.cells = mc from hrc]; exact hp.1
  have h5 : A.slots + (headSpec ws rm).room.slots ≤ R.slots := by rw [show (headSpec ws rm).room.slots = ms from hrs]; exact hp.2.1
  have hPc : Pc a (A.U.calling g mk a) := hblind _ _ _ _ hp.2.2
  obtain ⟨U, Ls, c0, s0⟩ := A
  dsimp only [Pt.U, Pt.locs, Pt.cells, Pt.slots] at h1 h2 h3 h4 h5 X hn hPc ⊢
  obtain ⟨methY, cY, hmY, hcY, -, hlY, -, -, -, -⟩ := Cond.code_spec hn h2
  obtain ⟨kY, hkY, -⟩ := className_of_methodNamed hn
  have hinitY : kY.init = .initialized := Cond.initialized_spec (findClass_of_methodNamed hn) hkY h3
  have h : At U g.method c below := by rw [hg]; exact X.here
  have hlocals9 : W9 + (maxL + 11) + (headSpec ws rm).room.locals ≤ R.locals := hlocals
  have happ : (headSpec ws rm).appliesLoose y e.platform (U.calling g mk a) = true :=
    Spec.appliesLoose_calling (g := g) h hdg hn hkY hinitY
      (X.room_calling (g := g) (R' := (headSpec ws rm).room) hsize hmY hcY hframes (by rw [hlY]; omega) h4 h5) h1
  obtain ⟨mid, hmid⟩ := h.above
  have hfr : (U.setTop g).frames = (.java g :: mid) ++ below := by rw [State.frames_setTop' g h.top, hmid]; rfl
  obtain ⟨o, s₂, hsteps, -, hend, hq⟩ := Steps.callFree hM p X.admits X.cas X.clock (acts := []) hfr happ hPc trivial
  have hq' : vx_Q Qc XC mc ms free a (U.calling g mk a) o s₂ := hq
  rw [State.frames_setTop' g h.top] at hend
  obtain ⟨g₀, hg0⟩ := Option.isSome_iff_exists.mp h.top
  obtain ⟨r, hr⟩ := State.topJava?_eq_some.mp hg0
  have hr' : (({ U with heap := s₂.heap, slotsUsed := s₂.slotsUsed } : State).setVm s₂.vm).frames = .java g₀ :: r := hr
  rcases hq' with ⟨hqc, L, hfe, hL⟩ | ⟨q, rfl, E, ce, L, hx, hce, hcv, hcl, hW₂, hsm, hL⟩
  · obtain ⟨⟨v, rfl⟩, hW₂, e2, q2, q3, q4, q5, q6⟩ := id hfe
    have e3 : s₂ = ({ (U.calling g mk a).setFrames s₂.frames with heap := s₂.heap, slotsUsed := s₂.slotsUsed } : State).setVm s₂.vm := by
      have : s₂ = ({ s₂ with vm := (U.calling g mk a).vm } : State).setVm s₂.vm := rfl
      rw [e2] at this
      exact this
    obtain ⟨c₂, i₂, len₂, hc₂, hd₂, hf₂⟩ := hend
    have hW' : U.WarmedH s₂.vm := hW₂
    have hcc : c₂ = c := by
      have h1 : s₂.code? g.method = U.code? g.method := by
        rw [State.code?_eq, State.code?_eq, hW'.alike.method?]
      exact Option.some.inj (hc₂.symm.trans (h1.trans h.code))
    subst hcc
    have hlen : len₂ = len := by rw [hdg] at hd₂; cases hd₂; rfl
    subst hlen
    have hs₂ : s₂ = (({ U with heap := s₂.heap, slotsUsed := s₂.slotsUsed } : State).setVm s₂.vm).setTop { g with pc := g.pc + len₂, stack := v.toList ++ g.stack } := by
      refine e3.trans ?_
      rw [hf₂, State.calling_eq h.top, State.setFrames_setFrames, State.setTop_of_frames _ hr', hr]
      rfl
    have hsame : U.sameButNew ({ U with heap := s₂.heap, slotsUsed := s₂.slotsUsed } : State) L mc ms := by
      refine ⟨?_, q2, q3, q4, q5, q6⟩
      obtain ⟨t, ht, -⟩ := State.frames_cons hr
      show ({ U with heap := s₂.heap, slotsUsed := s₂.slotsUsed } : State) = { U.setFrames U.frames with heap := s₂.heap, slotsUsed := s₂.slotsUsed }
      rw [State.setFrames_self ht]
    subst hg
    refine Or.inl ⟨v, ⟨(({ U with heap := s₂.heap, slotsUsed := s₂.slotsUsed } : State).setVm s₂.vm), Ls ++ L, c0 + mc, s0 + ms⟩,
      ⟨X.admits, X.cas, X.clock, X.frames, X.room, X.hears, X.method, X.code, (X.here.setHeapUsed s₂.heap s₂.slotsUsed).setVm hW'.alike, X.tail, State.WarmedH.trans X.warmed hW', X.limits, X.bytes, X.same.trans (hsame.setVm s.vm)⟩,
      ⟨g, mk, s₂, L, rfl, rfl, hqc, rfl, hL, rfl, rfl⟩, ?_⟩
    show Steps p.tables e below _ ((({ U with heap := s₂.heap, slotsUsed := s₂.slotsUsed } : State).setVm s₂.vm).setTop { g with pc := g.pc + len₂, stack := v.toList ++ g.stack })
    rw [← hs₂]
    exact hsteps
  · obtain ⟨e2, q2, q3, q4, q5, q6⟩ := id hsm
    have e3 : s₂ = ({ (U.calling g mk a).setFrames s₂.frames with heap := s₂.heap, slotsUsed := s₂.slotsUsed } : State).setVm s₂.vm := by
      have : s₂ = ({ s₂ with vm := (U.calling g mk a).vm } : State).setVm s₂.vm := rfl
      rw [e2] at this
      exact this
    have hf₂ : s₂.frames = .throwing q :: .java g :: U.frames.tail := hend
    have hW' : U.WarmedH s₂.vm := hW₂
    have hs₂ : s₂ = ((({ U with heap := s₂.heap, slotsUsed := s₂.slotsUsed } : State).setVm s₂.vm).setTop g).pushFrame (.throwing q) := by
      refine e3.trans ?_
      rw [hf₂, State.calling_eq h.top, State.setFrames_setFrames, State.pushFrame, State.frames_setTop _ hr', State.setTop_of_frames _ hr', State.setFrames_setFrames, hr]
      rfl
    have hsame : U.sameButNew ({ U with heap := s₂.heap, slotsUsed := s₂.slotsUsed } : State) L mc ms := by
      refine ⟨?_, q2, q3, q4, q5, q6⟩
      obtain ⟨t, ht, -⟩ := State.frames_cons hr
      show ({ U with heap := s₂.heap, slotsUsed := s₂.slotsUsed } : State) = { U.setFrames U.frames with heap := s₂.heap, slotsUsed := s₂.slotsUsed }
      rw [State.setFrames_self ht]
    subst hg
    refine Or.inr ⟨q, ⟨(({ U with heap := s₂.heap, slotsUsed := s₂.slotsUsed } : State).setVm s₂.vm), Ls ++ L, c0 + mc, s0 + ms⟩,
      ⟨X.admits, X.cas, X.clock, X.frames, X.room, X.hears, X.method, X.code, (X.here.setHeapUsed s₂.heap s₂.slotsUsed).setVm hW'.alike, X.tail, State.WarmedH.trans X.warmed hW', X.limits, X.bytes, X.same.trans (hsame.setVm s.vm)⟩,
      ⟨g, mk, s₂, L, E, ce, rfl, rfl, hx, hce, hcv, hcl, rfl, hL, rfl, rfl⟩, ?_⟩
    show Steps p.tables e below _ (((({ U with heap := s₂.heap, slotsUsed := s₂.slotsUsed } : State).setVm s₂.vm).setTop g).pushFrame (.throwing q))
    rw [← hs₂]
    exact hsteps
end Payer
section Calls
variable {p : Program} {l : Launch} {e : Env} {R : Room} {s : State} {m : MethodId} {args : Array Value} {below : List Frame} {meth : Method} {c : Code} {T : State} {locs : List Loc} {cells slots : Nat}
theorem vx_callV (X : Stand p l e R s m args below meth c T locs cells slots) (hexec : p.tables.exec = Jvm.exec) {own C : String} {index : Nat} {y : MethodName} {bytes : ByteArray} {maxL : Nat} {ret : Option FieldType}
    (hown : s.vm.findClass own = some m.cls) (hlink : (Cond.methodLink own index y).before args s = true) (hinst : (Cond.instanceMethod y).before args s = true) (hsel : (Cond.selects C y y).before args s = true)
    (hcode : (Cond.code y bytes maxL ret).before args s = true) (hy : y.cls ≠ "java/lang/invoke/MethodHandle" ∧ y.cls ≠ "java/lang/invoke/VarHandle")
    {W9 : Nat} {Pre : Pt → Array Value → Prop} {Post : Pt → Array Value → Option Value → Pt → Prop} {PostX : Pt → Array Value → Addr → Pt → Prop} (hK : vx_Back l R p e below s args y 3 W9 Pre Post PostX)
    {b : Addr} {cellB : Cell} (hcell : T.heap[b]? = some cellB) (hobj : cellB.vm.isStatics = false) (hcls : s.vm.findClass C = some cellB.cls)
    {g : JFrame} (hg : g.method = m) (hsize : g.locals.size = c.maxLocals) {argsL rest : List Value} (hlen : ∀ sig, parseMethodDescriptor y.desc = some sig → argsL.length = sig.parameters.length)
    (hstack : g.stack = argsL.reverse ++ .ref b :: rest) (hW : 2 * g.monitorRoom + (rest.map fun v => v.category).sum ≤ W9) (hdg : decode c.code g.pc = .ok (.invokevirtual index, 3))
    (hpre : ∀ vm₁, s.WarmedH vm₁ → Pre ⟨T.setVm vm₁, locs, cells, slots⟩ (Value.ref b :: argsL).toArray) :
    (∃ (v : Option Value) (vm₁ : Vm) (B : Pt), s.WarmedH vm₁ ∧ Stand p l e R s m args below meth c B.U B.locs B.cells B.slots ∧ Post ⟨T.setVm vm₁, locs, cells, slots⟩ (Value.ref b :: argsL).toArray v B ∧
      ∀ target, Steps p.tables e below (B.U.setTop { g with pc := g.pc + 3, stack := v.toList ++ rest }) target → Steps p.tables e below (T.setTop g) target) ∨
    (∃ (q : Addr) (vm₁ : Vm) (B : Pt), s.WarmedH vm₁ ∧ Stand p l e R s m args below meth c B.U B.locs B.cells B.slots ∧ PostX ⟨T.setVm vm₁, locs, cells, slots⟩ (Value.ref b :: argsL).toArray q B ∧
      Steps p.tables e below (T.setTop g) ((B.U.setTop { g with stack := rest }).pushFrame (.throwing q))) := by
  obtain ⟨mk, methM, hnamed, hmethM, hstM, habM⟩ := Cond.instanceMethod_spec hinst
  obtain ⟨methM', cM, hmethM', -, -, -, -, -, -, hsigM⟩ := Cond.code_spec hnamed hcode
  cases hmethM.symm.trans hmethM'
  obtain ⟨c2, r2, m2, q1, q2, q3, q4, kP, hkP, hkPi⟩ := Cond.selects_spec hsel
  cases hcls.symm.trans q1
  cases (State.methodFound?_of_named hnamed hy).symm.trans q2
  cases hnamed.symm.trans q3
  have hselP : selectMethod e.platform s.vm cellB.cls mk = .method mk := by rw [Launch.admits_selectMethod X.admits]; exact q4
  obtain ⟨vm₁, X₁, hstep₁⟩ := X.invokevirtual hexec hown hlink hnamed hmethM hstM hkP hkPi hy (a := b) (cell := cellB) hcell
    (fun z h => by rw [h] at hobj; cases hobj) hselP hmethM habM hkP hkPi (g := g) hg (argsL := argsL) (rest := rest) (hlen _ hsigM) hstack hdg
  rcases hK m meth c ⟨T.setVm vm₁, locs, cells, slots⟩ { g with stack := rest } (.invokevirtual index) mk (Value.ref b :: argsL).toArray X₁ hg hsize hdg hW (X₁.named hnamed) (hpre vm₁ X₁.warmed) with ⟨v, B, X', hpost, hsteps⟩ | ⟨q, B, X', hpost, hsteps⟩
  · exact Or.inl ⟨v, vm₁, B, X₁.warmed, X', hpost, fun target h => hstep₁ _ fun acts => by rw [doInvoke_state]; exact hsteps.trans h⟩
  · exact Or.inr ⟨q, vm₁, B, X₁.warmed, X', hpost, hstep₁ _ fun acts => by rw [doInvoke_state]; exact hsteps⟩
theorem vx_callS (X : Stand p l e R s m args below meth c T locs cells slots) (hexec : p.tables.exec = Jvm.exec) {own : String} {index : Nat} {y : MethodName} {bytes : ByteArray} {maxL : Nat} {ret : Option FieldType}
    (hown : s.vm.findClass own = some m.cls) (hlink : (Cond.methodLink own index y).before args s = true) (hstat : (Cond.static y).before args s = true) (hinit : (Cond.initialized y.cls).before args s = true)
    (hcode : (Cond.code y bytes maxL ret).before args s = true) (hy : y.cls ≠ "java/lang/invoke/MethodHandle" ∧ y.cls ≠ "java/lang/invoke/VarHandle")
    {W9 : Nat} {Pre : Pt → Array Value → Prop} {Post : Pt → Array Value → Option Value → Pt → Prop} {PostX : Pt → Array Value → Addr → Pt → Prop} (hK : vx_Back l R p e below s args y 3 W9 Pre Post PostX)
    {g : JFrame} (hg : g.method = m) (hsize : g.locals.size = c.maxLocals) {argsL rest : List Value} (hlen : ∀ sig, parseMethodDescriptor y.desc = some sig → argsL.length = sig.parameters.length)
    (hstack : g.stack = argsL.reverse ++ rest) (hW : 2 * g.monitorRoom + (rest.map fun v => v.category).sum ≤ W9) (hdg : decode c.code g.pc = .ok (.invokestatic index, 3))
    (hpre : ∀ vm₁, s.WarmedH vm₁ → Pre ⟨T.setVm vm₁, locs, cells, slots⟩ argsL.toArray) :
    (∃ (v : Option Value) (vm₁ : Vm) (B : Pt), s.WarmedH vm₁ ∧ Stand p l e R s m args below meth c B.U B.locs B.cells B.slots ∧ Post ⟨T.setVm vm₁, locs, cells, slots⟩ argsL.toArray v B ∧
      ∀ target, Steps p.tables e below (B.U.setTop { g with pc := g.pc + 3, stack := v.toList ++ rest }) target → Steps p.tables e below (T.setTop g) target) ∨
    (∃ (q : Addr) (vm₁ : Vm) (B : Pt), s.WarmedH vm₁ ∧ Stand p l e R s m args below meth c B.U B.locs B.cells B.slots ∧ PostX ⟨T.setVm vm₁, locs, cells, slots⟩ argsL.toArray q B ∧
      Steps p.tables e below (T.setTop g) ((B.U.setTop { g with stack := rest }).pushFrame (.throwing q))) := by
  obtain ⟨mk, hnamed⟩ := Cond.code_named hcode
  obtain ⟨methM, cM, hmethM, -, -, -, -, -, -, hsigM⟩ := Cond.code_spec hnamed hcode
  have hstatic : methM.isStatic = true := Cond.static_spec hnamed hmethM hstat
  obtain ⟨kP, hkP, -⟩ := className_of_methodNamed hnamed
  have hinitP : kP.init = .initialized := Cond.initialized_spec (findClass_of_methodNamed hnamed) hkP hinit
  obtain ⟨vm₁, X₁, hstep₁⟩ := X.invokestatic hexec hown hlink hnamed hmethM hstatic hkP hinitP hy (g := g) hg (argsL := argsL) (rest := rest) (hlen _ hsigM) hstack hdg
  rcases hK m meth c ⟨T.setVm vm₁, locs, cells, slots⟩ { g with stack := rest } (.invokestatic index) mk argsL.toArray X₁ hg hsize hdg hW (X₁.named hnamed) (hpre vm₁ X₁.warmed) with ⟨v, B, X', hpost, hsteps⟩ | ⟨q, B, X', hpost, hsteps⟩
  · exact Or.inl ⟨v, vm₁, B, X₁.warmed, X', hpost, fun target h => hstep₁ _ fun acts => by rw [doInvoke_state]; exact hsteps.trans h⟩
  · exact Or.inr ⟨q, vm₁, B, X₁.warmed, X', hpost, hstep₁ _ fun acts => by rw [doInvoke_state]; exact hsteps⟩
end Calls
theorem vx_cls {s : State} {T : State} {vm₁ : Vm} {E : String} {k : ClassId} (hW : s.WarmedH vm₁) (h : (T.setVm vm₁).vm.findClass E = some k) : s.vm.findClass E = some k := by
  have h1 : vm₁.findClass E = some k := h
  rw [hW.alike.findClass] at h1
  exact h1
/-- the method's frame g, with q thrown over it -/
def vx_W (p : Program) (l : Launch) (e : Env) (R : Room) (s : State) (m : MethodId) (args : Array Value) (below : List Frame) (meth : Method) (c : Code) (H : Heap) (locs : List Loc) (cells slots : Nat) (Q : State → Prop) (g : JFrame) (q : Addr) : Prop :=
  ∀ T : State, T.heap = H → Stand p l e R s m args below meth c T locs cells slots → ∃ t, Steps p.tables e below ((T.setTop g).pushFrame (.throwing q)) t ∧ Q t
def vx_Run (p : Program) (l : Launch) (e : Env) (R : Room) (s : State) (m : MethodId) (args : Array Value) (below : List Frame) (meth : Method) (c : Code) (H : Heap) (locs : List Loc) (cells slots mc ms : Nat) (g : JFrame) (rest : List Value) (Qa : State → Outcome → State → Prop) (XC : String → State → State → Prop) (free : Addr → Prop) : Prop :=
  ∀ T : State, T.heap = H → Stand p l e R s m args below meth c T locs cells slots →
    (∃ (v : Option Value) (st₀ t T' : State) (L : List Loc), st₀.heap = H ∧ Stand p l e R s m args below meth c T' (locs ++ L) (cells + mc) (slots + ms) ∧ (∀ q ∈ L, free q.base) ∧ T'.heap = t.heap ∧ T'.vm = t.vm ∧ Qa st₀ (.returned v) t ∧
      Goes p e below T g T' { g with pc := g.pc + 3, stack := v.toList ++ rest }) ∨
    (∃ (q : Addr) (st₀ t T' : State) (L : List Loc) (E : String) (ce : Cell), st₀.heap = H ∧ Stand p l e R s m args below meth c T' (locs ++ L) (cells + mc) (slots + ms) ∧ (∀ z ∈ L, free z.base) ∧ T'.heap = t.heap ∧ T'.vm = t.vm ∧ XC E st₀ t ∧ t.heap[q]? = some ce ∧ ce.vm = .none ∧ s.vm.findClass E = some ce.cls ∧
      Steps p.tables e below (T.setTop g) ((T'.setTop { g with stack := rest }).pushFrame (.throwing q)))
def vx_X {S : Type} (px : S → Prop) (B : String → S → State → Prop) (A : Nat → Prop) : String → State → State → Prop := fun E st t => ∃ u : S, px u ∧ B E u t ∧ va_F A st t
section Runs
variable {p : Program} {l : Launch} {e : Env} {R : Room} {s : State} {m : MethodId} {args : Array Value} {below : List Frame} {meth : Method} {c : Code} {H : Heap} {locs : List Loc} {cells slots : Nat}
variable {y : MethodName} {bytes cc : ByteArray} {maxL nL mc ms n index : Nat} {ret : Option FieldType} {ws : List Cond} {rm : Room} {Pc : Array Value → State → Prop} {Qc : Array Value → State → Outcome → State → Prop} {XC : String → State → State → Prop} {free : Addr → Prop} {Ts : List Cond} {own C : String} {b : Addr} {As rest : List Value} {g : JFrame}
theorem vx_callBack (cb : CallB R s args own index y bytes maxL ret ws rm mc ms n) (hM : vx_Met l y ws rm Pc Qc XC mc ms free) (hbl : FrameBlind Pc) : vx_Back l R p e below s args y 3 8 (PreOf R mc ms Pc) (PostOf Qc mc ms free) (vx_Post XC mc ms free) := by
  obtain ⟨hrc, hrs, hfr, hlo, hws, hcw, -, hini, -⟩ := cb
  exact vx_back (bytes := bytes) (maxL := maxL) (ret := ret) hM hbl hrc hrs hfr hlo hws hcw (fun a' U hW => word_at hW (Or.inl (by first | rfl | simp [Cond.onTables, Cond.keeps, Cond.steady])) hini)
theorem vx_runV (S : CallFix p m c cc nL s args Ts own) (hM : vx_Met l y ws rm Pc Qc XC mc ms free) (cw : CallW R s args own C index y bytes maxL ret ws rm mc ms n) (hp : PreV s H C b Pc As)
    (hg : g.method = m) (hn : As.length = n) (hsize : g.locals.size = nL) (hstack : g.stack = As.reverse ++ .ref b :: rest) (hW : 2 * g.monitorRoom + (rest.map fun v => v.category).sum ≤ 8) (hdg : decode cc g.pc = .ok (.invokevirtual index, 3)) (hf : cells + mc ≤ R.cells ∧ slots + ms ≤ R.slots) :
    vx_Run p l e R s m args below meth c H locs cells slots mc ms g rest (Qc (Value.ref b :: As).toArray) XC free := by
  have hK : vx_Back l R p e below s args y 3 8 (PreOf R mc ms Pc) (PostOf Qc mc ms free) (vx_Post XC mc ms free) := vx_callBack cw.1 hM hp.1
  obtain ⟨⟨-, -, -, -, -, -, hcode, -, hy, hlen, hl⟩, hin, hse⟩ := cw
  obtain ⟨hx, hb, hml, ho, -⟩ := S
  obtain ⟨-, ⟨cellB, hcB, hoB, hclB⟩, hPc⟩ := hp
  intro T hT X
  rcases vx_callV X hx (C := C) (bytes := bytes) (maxL := maxL) (ret := ret) ho hl hin hse hcode hy hK (by rw [hT]; exact hcB) hoB hclB hg (hsize.trans hml.symm) (argsL := As) (rest := rest) (fun sig h => hn.trans (hlen sig h)) hstack hW (by rw [hb]; exact hdg)
    (fun vm₁ hW₁ => ⟨hf.1, hf.2, hPc (T.setVm vm₁) hT hW₁⟩) with ⟨v, vm₁, ⟨U', l2, c2, s2⟩, hW₁, X', ⟨g', mk, t, L, e1, e2, hq, h1, hL, h2, h3⟩, st⟩ | ⟨q, vm₁, ⟨U', l2, c2, s2⟩, hW₁, X', ⟨g', mk, t, L, E, ce, e1, e2, hq, hce, hcv, hcl, h1, hL, h2, h3⟩, st⟩
  · dsimp only [Pt.U, Pt.locs, Pt.cells, Pt.slots] at X' e1 e2 h1 h2 h3 st
    subst h1; subst h2; subst h3
    exact Or.inl ⟨v, (T.setVm vm₁).calling g' mk (Value.ref b :: As).toArray, t, U', L, hT, X', hL, e1, e2, hq, st⟩
  · dsimp only [Pt.U, Pt.locs, Pt.cells, Pt.slots] at X' e1 e2 h1 h2 h3 st hcl
    subst h1; subst h2; subst h3
    exact Or.inr ⟨q, (T.setVm vm₁).calling g' mk (Value.ref b :: As).toArray, t, U', L, E, ce, hT, X', hL, e1, e2, hq, hce, hcv, vx_cls hW₁ hcl, st⟩
theorem vx_runS (S : CallFix p m c cc nL s args Ts own) (hM : vx_Met l y ws rm Pc Qc XC mc ms free) (cw : CallB R s args own index y bytes maxL ret ws rm mc ms n ∧ (Cond.static y).before args s = true) (hp : PreS s H Pc As)
    (hg : g.method = m) (hn : As.length = n) (hsize : g.locals.size = nL) (hstack : g.stack = As.reverse ++ rest) (hW : 2 * g.monitorRoom + (rest.map fun v => v.category).sum ≤ 8) (hdg : decode cc g.pc = .ok (.invokestatic index, 3)) (hf : cells + mc ≤ R.cells ∧ slots + ms ≤ R.slots) :
    vx_Run p l e R s m args below meth c H locs cells slots mc ms g rest (Qc As.toArray) XC free := by
  have hK : vx_Back l R p e below s args y 3 8 (PreOf R mc ms Pc) (PostOf Qc mc ms free) (vx_Post XC mc ms free) := vx_callBack cw.1 hM hp.1
  obtain ⟨⟨-, -, -, -, -, -, hcode, hini, hy, hlen, hl⟩, hstt⟩ := cw
  obtain ⟨hx, hb, hml, ho, -⟩ := S
  intro T hT X
  rcases vx_callS X hx (bytes := bytes) (maxL := maxL) (ret := ret) ho hl hstt hini hcode hy hK hg (hsize.trans hml.symm) (argsL := As) (rest := rest) (fun sig h => hn.trans (hlen sig h)) hstack hW (by rw [hb]; exact hdg)
    (fun vm₁ hW₁ => ⟨hf.1, hf.2, hp.2 (T.setVm vm₁) hT hW₁⟩) with ⟨v, vm₁, ⟨U', l2, c2, s2⟩, hW₁, X', ⟨g', mk, t, L, e1, e2, hq, h1, hL, h2, h3⟩, st⟩ | ⟨q, vm₁, ⟨U', l2, c2, s2⟩, hW₁, X', ⟨g', mk, t, L, E, ce, e1, e2, hq, hce, hcv, hcl, h1, hL, h2, h3⟩, st⟩
  · dsimp only [Pt.U, Pt.locs, Pt.cells, Pt.slots] at X' e1 e2 h1 h2 h3 st
    subst h1; subst h2; subst h3
    exact Or.inl ⟨v, (T.setVm vm₁).calling g' mk As.toArray, t, U', L, hT, X', hL, e1, e2, hq, st⟩
  · dsimp only [Pt.U, Pt.locs, Pt.cells, Pt.slots] at X' e1 e2 h1 h2 h3 st hcl
    subst h1; subst h2; subst h3
    exact Or.inr ⟨q, (T.setVm vm₁).calling g' mk As.toArray, t, U', L, E, ce, hT, X', hL, e1, e2, hq, hce, hcv, vx_cls hW₁ hcl, st⟩
end Runs
section Rows
variable {p : Program} {l : Launch} {e : Env} {R : Room} {s : State} {m : MethodId} {args : Array Value} {below : List Frame} {meth : Method} {c : Code} {H : Heap} {locs : List Loc} {cells slots : Nat} {Q : State → Prop}
variable {mc ms : Nat} {free : Addr → Prop} {A0 A1 : Nat → Prop} {H0 : Heap} {a : Array Value} {pc : Nat} {ls : Array Slot} {st0 rest : List Value}
theorem vx_keep {st₀ t T' : State} {L : List Loc} (h0 : st₀.heap = H) (e1 : T'.heap = t.heap) (hS : va_S A0 H0 H locs) (hA : ∀ q, q < H.size → A1 q → A0 q) (hf : ∀ q, free q → A0 q) (hL : ∀ q ∈ L, free q.base) (hF : va_F A1 st₀ t) :
    H.size ≤ T'.heap.size ∧ (∀ q : Nat, q < H.size → ¬ A1 q → T'.heap[q]? = H[q]?) ∧ va_S A0 H0 T'.heap (locs ++ L) := by
  obtain ⟨hz, hk⟩ := hF
  rw [h0] at hz hk
  exact ⟨by rw [e1]; exact hz, fun q h1 h2 => by rw [e1]; exact hk q h1 h2,
    ⟨Nat.le_trans hS.1 (by rw [e1]; exact hz), fun q h1 h2 => by rw [e1, hk q (Nat.lt_of_lt_of_le h1 hS.1) (fun z => h2 (hA q (Nat.lt_of_lt_of_le h1 hS.1) z))]; exact hS.2.1 q h1 h2, fun q hq => by
      rcases List.mem_append.mp hq with h | h
      · exact hS.2.2 q h
      · exact hf _ (hL q h)⟩⟩
theorem vx_calli {S SX : Type} {post : Int32 → S → Prop} {px : SX → Prop} {B : S → State → Prop} {BX : String → SX → State → Prop} {AX : Nat → Prop} (hr : vx_Run p l e R s m args below meth c H locs cells slots mc ms (F0 m pc ls st0) rest (va_Qi post B A1 a) (vx_X px BX AX) free) (hS : va_S A0 H0 H locs) (hA : ∀ q, q < H.size → A1 q → A0 q) (hf : ∀ q, free q → A0 q) (hAX : ∀ q, q < H.size → AX q → A0 q)
    (kx : ∀ (E : String) (ce : Cell) (q9 : Addr) (u : SX) (t : State) (H1 : Heap) (locs1 : List Loc), t.heap = H1 → s.vm.Alike t.vm → px u → BX E u t → H.size ≤ H1.size → (∀ q : Nat, q < H.size → ¬ AX q → H1[q]? = H[q]?) → va_S A0 H0 H1 locs1 → H1[q9]? = some ce → ce.vm = .none → s.vm.findClass E = some ce.cls → vx_W p l e R s m args below meth c H1 locs1 (cells + mc) (slots + ms) Q (F0 m pc ls rest) q9)
    (kk : ∀ (r : Int32) (u : S) (t : State) (H1 : Heap) (locs1 : List Loc), t.heap = H1 → s.vm.Alike t.vm → post r u → B u t → H.size ≤ H1.size → (∀ q : Nat, q < H.size → ¬ A1 q → H1[q]? = H[q]?) → va_S A0 H0 H1 locs1 → W p l e R s m args below meth c H1 locs1 (cells + mc) (slots + ms) Q (F0 m (pc + 3) ls (.int r :: rest))) : W p l e R s m args below meth c H locs cells slots Q (F0 m pc ls st0) := by
  intro T hT X
  rcases hr T hT X with ⟨v, st₀, t, T', L, h0, X', hL, e1, e2, ⟨⟨r, u, hv, hp, hb⟩, hF⟩, st⟩ | ⟨q, st₀, t, T', L, E, ce, h0, X', hL, e1, e2, ⟨u, hp, hb, hF⟩, hce, hcv, hcl, st⟩
  · cases hv
    obtain ⟨k1, k2, k3⟩ := vx_keep h0 e1 hS hA hf hL hF
    obtain ⟨t2, a1, b1⟩ := kk r u t T'.heap (locs ++ L) e1.symm (by rw [← e2]; exact X'.warmed.alike) hp hb k1 k2 k3 T' rfl X'
    exact ⟨t2, st t2 a1, b1⟩
  · obtain ⟨k1, k2, k3⟩ := vx_keep h0 e1 hS hAX hf hL hF
    obtain ⟨t2, a1, b1⟩ := kx E ce q u t T'.heap (locs ++ L) e1.symm (by rw [← e2]; exact X'.warmed.alike) hp hb k1 k2 k3 (by rw [e1]; exact hce) hcv hcl T' rfl X'
    exact ⟨t2, st.trans a1, b1⟩
theorem vx_calll {S SX : Type} {post : Int64 → S → Prop} {px : SX → Prop} {B : S → State → Prop} {BX : String → SX → State → Prop} {AX : Nat → Prop} (hr : vx_Run p l e R s m args below meth c H locs cells slots mc ms (F0 m pc ls st0) rest (va_Ql post B A1 a) (vx_X px BX AX) free) (hS : va_S A0 H0 H locs) (hA : ∀ q, q < H.size → A1 q → A0 q) (hf : ∀ q, free q → A0 q) (hAX : ∀ q, q < H.size → AX q → A0 q)
    (kx : ∀ (E : String) (ce : Cell) (q9 : Addr) (u : SX) (t : State) (H1 : Heap) (locs1 : List Loc), t.heap = H1 → s.vm.Alike t.vm → px u → BX E u t → H.size ≤ H1.size → (∀ q : Nat, q < H.size → ¬ AX q → H1[q]? = H[q]?) → va_S A0 H0 H1 locs1 → H1[q9]? = some ce → ce.vm = .none → s.vm.findClass E = some ce.cls → vx_W p l e R s m args below meth c H1 locs1 (cells + mc) (slots + ms) Q (F0 m pc ls rest) q9)
    (kk : ∀ (r : Int64) (u : S) (t : State) (H1 : Heap) (locs1 : List Loc), t.heap = H1 → s.vm.Alike t.vm → post r u → B u t → H.size ≤ H1.size → (∀ q : Nat, q < H.size → ¬ A1 q → H1[q]? = H[q]?) → va_S A0 H0 H1 locs1 → W p l e R s m args below meth c H1 locs1 (cells + mc) (slots + ms) Q (F0 m (pc + 3) ls (.long r :: rest))) : W p l e R s m args below meth c H locs cells slots Q (F0 m pc ls st0) := by
  intro T hT X
  rcases hr T hT X with ⟨v, st₀, t, T', L, h0, X', hL, e1, e2, ⟨⟨r, u, hv, hp, hb⟩, hF⟩, st⟩ | ⟨q, st₀, t, T', L, E, ce, h0, X', hL, e1, e2, ⟨u, hp, hb, hF⟩, hce, hcv, hcl, st⟩
  · cases hv
    obtain ⟨k1, k2, k3⟩ := vx_keep h0 e1 hS hA hf hL hF
    obtain ⟨t2, a1, b1⟩ := kk r u t T'.heap (locs ++ L) e1.symm (by rw [← e2]; exact X'.warmed.alike) hp hb k1 k2 k3 T' rfl X'
    exact ⟨t2, st t2 a1, b1⟩
  · obtain ⟨k1, k2, k3⟩ := vx_keep h0 e1 hS hAX hf hL hF
    obtain ⟨t2, a1, b1⟩ := kx E ce q u t T'.heap (locs ++ L) e1.symm (by rw [← e2]; exact X'.warmed.alike) hp hb k1 k2 k3 (by rw [e1]; exact hce) hcv hcl T' rfl X'
    exact ⟨t2, st.trans a1, b1⟩
theorem vx_callf {S SX : Type} {post : UInt32 → S → Prop} {px : SX → Prop} {B : S → State → Prop} {BX : String → SX → State → Prop} {AX : Nat → Prop} (hr : vx_Run p l e R s m args below meth c H locs cells slots mc ms (F0 m pc ls st0) rest (va_Qf post B A1 a) (vx_X px BX AX) free) (hS : va_S A0 H0 H locs) (hA : ∀ q, q < H.size → A1 q → A0 q) (hf : ∀ q, free q → A0 q) (hAX : ∀ q, q < H.size → AX q → A0 q)
    (kx : ∀ (E : String) (ce : Cell) (q9 : Addr) (u : SX) (t : State) (H1 : Heap) (locs1 : List Loc), t.heap = H1 → s.vm.Alike t.vm → px u → BX E u t → H.size ≤ H1.size → (∀ q : Nat, q < H.size → ¬ AX q → H1[q]? = H[q]?) → va_S A0 H0 H1 locs1 → H1[q9]? = some ce → ce.vm = .none → s.vm.findClass E = some ce.cls → vx_W p l e R s m args below meth c H1 locs1 (cells + mc) (slots + ms) Q (F0 m pc ls rest) q9)
    (kk : ∀ (r : UInt32) (u : S) (t : State) (H1 : Heap) (locs1 : List Loc), t.heap = H1 → s.vm.Alike t.vm → post r u → B u t → H.size ≤ H1.size → (∀ q : Nat, q < H.size → ¬ A1 q → H1[q]? = H[q]?) → va_S A0 H0 H1 locs1 → W p l e R s m args below meth c H1 locs1 (cells + mc) (slots + ms) Q (F0 m (pc + 3) ls (.float r :: rest))) : W p l e R s m args below meth c H locs cells slots Q (F0 m pc ls st0) := by
  intro T hT X
  rcases hr T hT X with ⟨v, st₀, t, T', L, h0, X', hL, e1, e2, ⟨⟨r, u, hv, hp, hb⟩, hF⟩, st⟩ | ⟨q, st₀, t, T', L, E, ce, h0, X', hL, e1, e2, ⟨u, hp, hb, hF⟩, hce, hcv, hcl, st⟩
  · cases hv
    obtain ⟨k1, k2, k3⟩ := vx_keep h0 e1 hS hA hf hL hF
    obtain ⟨t2, a1, b1⟩ := kk r u t T'.heap (locs ++ L) e1.symm (by rw [← e2]; exact X'.warmed.alike) hp hb k1 k2 k3 T' rfl X'
    exact ⟨t2, st t2 a1, b1⟩
  · obtain ⟨k1, k2, k3⟩ := vx_keep h0 e1 hS hAX hf hL hF
    obtain ⟨t2, a1, b1⟩ := kx E ce q u t T'.heap (locs ++ L) e1.symm (by rw [← e2]; exact X'.warmed.alike) hp hb k1 k2 k3 (by rw [e1]; exact hce) hcv hcl T' rfl X'
    exact ⟨t2, st.trans a1, b1⟩
theorem vx_calld {S SX : Type} {post : UInt64 → S → Prop} {px : SX → Prop} {B : S → State → Prop} {BX : String → SX → State → Prop} {AX : Nat → Prop} (hr : vx_Run p l e R s m args below meth c H locs cells slots mc ms (F0 m pc ls st0) rest (va_Qd post B A1 a) (vx_X px BX AX) free) (hS : va_S A0 H0 H locs) (hA : ∀ q, q < H.size → A1 q → A0 q) (hf : ∀ q, free q → A0 q) (hAX : ∀ q, q < H.size → AX q → A0 q)
    (kx : ∀ (E : String) (ce : Cell) (q9 : Addr) (u : SX) (t : State) (H1 : Heap) (locs1 : List Loc), t.heap = H1 → s.vm.Alike t.vm → px u → BX E u t → H.size ≤ H1.size → (∀ q : Nat, q < H.size → ¬ AX q → H1[q]? = H[q]?) → va_S A0 H0 H1 locs1 → H1[q9]? = some ce → ce.vm = .none → s.vm.findClass E = some ce.cls → vx_W p l e R s m args below meth c H1 locs1 (cells + mc) (slots + ms) Q (F0 m pc ls rest) q9)
    (kk : ∀ (r : UInt64) (u : S) (t : State) (H1 : Heap) (locs1 : List Loc), t.heap = H1 → s.vm.Alike t.vm → post r u → B u t → H.size ≤ H1.size → (∀ q : Nat, q < H.size → ¬ A1 q → H1[q]? = H[q]?) → va_S A0 H0 H1 locs1 → W p l e R s m args below meth c H1 locs1 (cells + mc) (slots + ms) Q (F0 m (pc + 3) ls (.double r :: rest))) : W p l e R s m args below meth c H locs cells slots Q (F0 m pc ls st0) := by
  intro T hT X
  rcases hr T hT X with ⟨v, st₀, t, T', L, h0, X', hL, e1, e2, ⟨⟨r, u, hv, hp, hb⟩, hF⟩, st⟩ | ⟨q, st₀, t, T', L, E, ce, h0, X', hL, e1, e2, ⟨u, hp, hb, hF⟩, hce, hcv, hcl, st⟩
  · cases hv
    obtain ⟨k1, k2, k3⟩ := vx_keep h0 e1 hS hA hf hL hF
    obtain ⟨t2, a1, b1⟩ := kk r u t T'.heap (locs ++ L) e1.symm (by rw [← e2]; exact X'.warmed.alike) hp hb k1 k2 k3 T' rfl X'
    exact ⟨t2, st t2 a1, b1⟩
  · obtain ⟨k1, k2, k3⟩ := vx_keep h0 e1 hS hAX hf hL hF
    obtain ⟨t2, a1, b1⟩ := kx E ce q u t T'.heap (locs ++ L) e1.symm (by rw [← e2]; exact X'.warmed.alike) hp hb k1 k2 k3 (by rw [e1]; exact hce) hcv hcl T' rfl X'
    exact ⟨t2, st.trans a1, b1⟩
theorem vx_callv {S SX : Type} {post : S → Prop} {px : SX → Prop} {B : S → State → Prop} {BX : String → SX → State → Prop} {AX : Nat → Prop} (hr : vx_Run p l e R s m args below meth c H locs cells slots mc ms (F0 m pc ls st0) rest (va_Qv post B A1 a) (vx_X px BX AX) free) (hS : va_S A0 H0 H locs) (hA : ∀ q, q < H.size → A1 q → A0 q) (hf : ∀ q, free q → A0 q) (hAX : ∀ q, q < H.size → AX q → A0 q)
    (kx : ∀ (E : String) (ce : Cell) (q9 : Addr) (u : SX) (t : State) (H1 : Heap) (locs1 : List Loc), t.heap = H1 → s.vm.Alike t.vm → px u → BX E u t → H.size ≤ H1.size → (∀ q : Nat, q < H.size → ¬ AX q → H1[q]? = H[q]?) → va_S A0 H0 H1 locs1 → H1[q9]? = some ce → ce.vm = .none → s.vm.findClass E = some ce.cls → vx_W p l e R s m args below meth c H1 locs1 (cells + mc) (slots + ms) Q (F0 m pc ls rest) q9)
    (kk : ∀ (u : S) (t : State) (H1 : Heap) (locs1 : List Loc), t.heap = H1 → s.vm.Alike t.vm → post u → B u t → H.size ≤ H1.size → (∀ q : Nat, q < H.size → ¬ A1 q → H1[q]? = H[q]?) → va_S A0 H0 H1 locs1 → W p l e R s m args below meth c H1 locs1 (cells + mc) (slots + ms) Q (F0 m (pc + 3) ls (rest))) : W p l e R s m args below meth c H locs cells slots Q (F0 m pc ls st0) := by
  intro T hT X
  rcases hr T hT X with ⟨v, st₀, t, T', L, h0, X', hL, e1, e2, ⟨⟨u, hv, hp, hb⟩, hF⟩, st⟩ | ⟨q, st₀, t, T', L, E, ce, h0, X', hL, e1, e2, ⟨u, hp, hb, hF⟩, hce, hcv, hcl, st⟩
  · cases hv
    obtain ⟨k1, k2, k3⟩ := vx_keep h0 e1 hS hA hf hL hF
    obtain ⟨t2, a1, b1⟩ := kk u t T'.heap (locs ++ L) e1.symm (by rw [← e2]; exact X'.warmed.alike) hp hb k1 k2 k3 T' rfl X'
    exact ⟨t2, st t2 a1, b1⟩
  · obtain ⟨k1, k2, k3⟩ := vx_keep h0 e1 hS hAX hf hL hF
    obtain ⟨t2, a1, b1⟩ := kx E ce q u t T'.heap (locs ++ L) e1.symm (by rw [← e2]; exact X'.warmed.alike) hp hb k1 k2 k3 (by rw [e1]; exact hce) hcv hcl T' rfl X'
    exact ⟨t2, st.trans a1, b1⟩
/-- caught by the row x of this method's table; the rows ahead don't take it -/
theorem vx_catch {own name : String} {E : String} {ce : Cell} {q : Addr} (hown : s.vm.findClass own = some m.cls) (pre : List ExceptionTableEntry) (x : ExceptionTableEntry) (suf : List ExceptionTableEntry) (hsplit : c.exceptionTable.toList = pre ++ x :: suf)
    (hpass : ∀ z ∈ pre, covers z pc = false ∨ (z.catchType ≠ 0 ∧ ∃ nm : String, (Cond.classLink own z.catchType nm).before args s = true ∧ va_Nc E nm s)) (hx : covers x pc = true) (h0 : x.catchType ≠ 0)
    (hlink : (Cond.classLink own x.catchType name).before args s = true) (hcast : (Cond.castable E name).before args s = true) (hcell : H[q]? = some ce) (hv : ce.vm = .none) (hcl : s.vm.findClass E = some ce.cls)
    (kk : W p l e R s m args below meth c H locs cells slots Q (F0 m x.handlerPc ls [.ref q])) : vx_W p l e R s m args below meth c H locs cells slots Q (F0 m pc ls rest) q := by
  intro T hT X
  have hpl : e.platform.magicAccessors = ({} : Platform).magicAccessors := by rw [X.admits.platform]
  obtain ⟨c3, c4, hc3, hc4, hasg⟩ := Cond.castable_spec hcast
  cases Option.some.inj (hc3.symm.trans hcl)
  obtain ⟨c5, hc5, hcl5⟩ := Cond.classLink_spec hown hlink e.platform hpl
  cases Option.some.inj (hc4.symm.trans hc5)
  obtain ⟨vm', X', st⟩ := X.thenCaughtThrough q (g := F0 m pc ls rest) rfl (Steps.refl _) (by rw [hT]; exact hcell) (by rw [hv]; rfl) (by obtain ⟨k9, h9, -⟩ := Vm.findClass_spec hcl; exact ⟨k9, h9⟩) pre x suf hsplit
    (fun z hz => by
      rcases hpass z hz with h | ⟨hz0, nm, hl1, hn1⟩
      · exact Or.inl h
      · obtain ⟨c6, hc6, hcl6⟩ := Cond.classLink_spec hown hl1 e.platform hpl
        obtain ⟨a8, b8, h1, h2, h3⟩ := hn1
        cases Option.some.inj (h1.symm.trans hcl)
        cases Option.some.inj (h2.symm.trans hc6)
        exact Or.inr ⟨hz0, _, hcl6, h3⟩) hx (Or.inr ⟨h0, c4, hcl5, hasg⟩)
  obtain ⟨t, a1, b1⟩ := kk (T.setVm vm') hT X'
  exact ⟨t, st.trans a1, b1⟩
end Rows
section Ends
variable {p : Program} {l : Launch} {e : Env} {R : Room} {s : State} {m : MethodId} {args : Array Value} {below : List Frame} {meth : Method} {c : Code} {H : Heap} {locs : List Loc} {cells slots : Nat} {Q : State → Prop}
variable {mc ms : Nat} {free : Addr → Prop} {A0 A1 : Nat → Prop} {H0 : Heap} {a : Array Value} {ls : Array Slot} {st0 rest : List Value}
variable {Qc : Array Value → State → Outcome → State → Prop} {XC : String → State → State → Prop}
/-- what a body that may throw owes at its end -/
def vx_MQ (below : List Frame) (Qc : Array Value → State → Outcome → State → Prop) (XC : String → State → State → Prop) (a : Array Value) (s : State) (mc ms : Nat) (free : Addr → Prop) : State → Prop := fun t =>
  ∃ o, t.status = .running ∧ Ended t below o ∧ vx_Q Qc XC mc ms free a s o t
theorem vx_ret {g : JFrame} {mc ms : Nat} (k : W p l e R s m args below meth c H locs cells slots (MQ below Qc args s mc ms free) g) : W p l e R s m args below meth c H locs cells slots (vx_MQ below Qc XC args s mc ms free) g := by
  intro T hT X
  obtain ⟨t, a1, o, b1, b2, b3, b4⟩ := k T hT X
  exact ⟨t, a1, o, b1, b2, Or.inl ⟨b3, b4⟩⟩
/-- not caught here: it goes on to the caller -/
theorem vx_widen {g : JFrame} {q : Addr} {k n : Nat} (h1 : cells ≤ k) (h2 : slots ≤ n) (kk : vx_W p l e R s m args below meth c H locs k n Q g q) : vx_W p l e R s m args below meth c H locs cells slots Q g q := fun T hT X => kk T hT (stand_widen X h1 h2)
theorem vx_out {pc : Nat} {E : String} {ce : Cell} {q : Addr} {mc ms : Nat} (hout : ∀ x ∈ c.exceptionTable.toList, covers x pc = false) (hlocks : meth.locks = false) (hcell : H[q]? = some ce) (hv : ce.vm = .none) (hcl : s.vm.findClass E = some ce.cls)
    (hx : ∀ t : State, t.heap = H → s.vm.Alike t.vm → XC E s t) (hf : ∀ z ∈ locs, free z.base) (hc : cells ≤ mc) (hs : slots ≤ ms) :
    vx_W p l e R s m args below meth c H locs cells slots (vx_MQ below Qc XC args s mc ms free) (F0 m pc ls rest) q := by
  intro T hT X
  obtain ⟨st1, hrun, hend, hW, hsm⟩ := X.leaveThrown q (g := F0 m pc ls rest) rfl rfl rfl hout hlocks
  have hcell9 : (T.setFrames (.throwing q :: below)).heap[q]? = some ce := by
    show T.heap[q]? = some ce
    rw [hT]; exact hcell
  exact ⟨_, st1, .threw q, hrun, hend, Or.inr ⟨q, rfl, E, ce, locs, hx _ hT hW.alike, hcell9, hv, hcl, hW, hsm.mono hc hs, hf⟩⟩
theorem vx_frame {U : State} {k n : Nat} (h : s.sameButNew ({ U with vm := s.vm } : State) locs k n) : s.heap.size ≤ U.heap.size ∧ ∀ q : Nat, q < s.heap.size → (∀ z ∈ locs, z.base ≠ q) → U.heap[q]? = s.heap[q]? := by
  obtain ⟨-, h2, -, -, -, h6⟩ := h
  refine ⟨h2, fun q hq hz => ?_⟩
  obtain ⟨c9, e1, e2, e3, e4⟩ := h6 q _ (Array.getElem?_eq_getElem hq)
  have hs : c9.slots = (s.heap[q]).slots := Array.ext_getElem? fun i => e4 i fun hm => hz _ hm rfl
  have h9 : c9 = s.heap[q] := by
    rw [hs] at e2
    exact e2
  have e5 : U.heap[q]? = some c9 := e1
  rw [e5, h9, Array.getElem?_eq_getElem hq]
/-- the words of a throw but the four that speak of the heap -/
def vx_no (w : Cond) : Bool := decide (w ≠ .isRef (.static Bundle.tN "UNASSIGNED_STACK" Bundle.steD)) && decide (w ≠ .isRef (.static Bundle.tN "SUPPRESSED_SENTINEL" Bundle.listD)) && decide (w ≠ .laysStatic Bundle.tN "UNASSIGNED_STACK" Bundle.steD) && decide (w ≠ .laysStatic Bundle.tN "SUPPRESSED_SENTINEL" Bundle.listD)
def vx_at0 (own : String) (ic : Nat) (X : String) (names : List String) : List Cond := (Bundle.ownAtoms0 own ic X names).filter vx_no
def vx_atS (own : String) (ic : Nat) (X : String) (names : List String) : List Cond := (Bundle.ownAtoms own ic X names).filter vx_no
/-- a word that the tables alone decide, or a good one -/
def vx_ot (w : Cond) : Bool := w.onTables || goodWord w
theorem vx_ot_at {args a' : Array Value} {s U : State} {w : Cond} (hW : s.WarmedH U.vm) (hvm : s.vm = U.vm) (hg : vx_ot w = true) (h : w.before args s = true) : w.before a' U = true := by
  simp only [vx_ot, Bool.or_eq_true] at hg
  rcases hg with hg | hg
  · exact va_tabs hg hvm h
  · exact word_at hW (good_of_word hg) h
/-- a list's words: the good ones out of the method's own list, the others by premises of their own -/
theorem vx_hat {args : Array Value} {s : State} {L B : List Cond} (h1 : ∀ w ∈ L.filter goodWord, w.before args s = true) (h2 : ∀ w ∈ L.filter (fun w => !goodWord w), w ∈ B) (h3 : ∀ w ∈ B, w.before args s = true) : ∀ w ∈ L, w.before args s = true := by
  intro w hw
  by_cases g : goodWord w = true
  · exact h1 w (List.mem_filter.mpr ⟨hw, g⟩)
  · refine h3 w (h2 w (List.mem_filter.mpr ⟨hw, ?_⟩))
    show (!goodWord w) = true
    cases hgw : goodWord w
    · rfl
    · exact absurd hgw g
theorem vx_c {args : Array Value} {s : State} {w : Cond} {B : List Cond} (h : w.before args s = true) (t : ∀ w ∈ B, w.before args s = true) : ∀ w' ∈ w :: B, w'.before args s = true := fun w' h' => (List.mem_cons.mp h').elim (fun e => by rw [e]; exact h) (t w')
theorem vx_n {args : Array Value} {s : State} : ∀ w ∈ ([] : List Cond), w.before args s = true := fun _ h => nomatch h
theorem vx_own {args : Array Value} {s : State} {L : List Cond} (h1 : ∀ w ∈ L.filter vx_no, w.before args s = true)
    (hU : (Cond.isRef (.static Bundle.tN "UNASSIGNED_STACK" Bundle.steD)).before args s = true) (hN : (Cond.isRef (.static Bundle.tN "SUPPRESSED_SENTINEL" Bundle.listD)).before args s = true)
    (lU : (Cond.laysStatic Bundle.tN "UNASSIGNED_STACK" Bundle.steD).before args s = true) (lN : (Cond.laysStatic Bundle.tN "SUPPRESSED_SENTINEL" Bundle.listD).before args s = true) : ∀ w ∈ L, w.before args s = true := by
  intro w hw
  by_cases e1 : w = .isRef (.static Bundle.tN "UNASSIGNED_STACK" Bundle.steD)
  · rw [e1]; exact hU
  · by_cases e2 : w = .isRef (.static Bundle.tN "SUPPRESSED_SENTINEL" Bundle.listD)
    · rw [e2]; exact hN
    · by_cases e3 : w = .laysStatic Bundle.tN "UNASSIGNED_STACK" Bundle.steD
      · rw [e3]; exact lU
      · by_cases e4 : w = .laysStatic Bundle.tN "SUPPRESSED_SENTINEL" Bundle.listD
        · rw [e4]; exact lN
        · exact h1 w (List.mem_filter.mpr ⟨hw, by unfold vx_no; rw [decide_eq_true e1, decide_eq_true e2, decide_eq_true e3, decide_eq_true e4]; rfl⟩)
/-- where a static field lies, its class's statics cell in H -/
def vx_L (C n d : String) (A : Nat → Prop) (U : State) (H : Heap) : Prop := ∃ (c : ClassId) (k : Class) (i : Nat) (f : Field) (a : Nat) (cell : Cell), U.vm.findClass C = some c ∧ U.fieldFound? C n d = some (c, k, i, f) ∧ f.isStatic = true ∧ k.statics = some a ∧ H[a]? = some cell ∧ cell.vm.isStatics = true ∧ cell.cls = c ∧ f.slot < cell.slots.size ∧ k.staticTypes[f.slot]? = some f.type ∧ ¬ A a
theorem vx_L.moved {C n d : String} {A : Nat → Prop} {u U : State} {H : Heap} (hvm : u.vm.Alike U.vm) (h : vx_L C n d A u H) : vx_L C n d A U H := by
  obtain ⟨c, k, i, f, a, cell, h1, h2, h3, h4, h5, h6, h7, h8, h9, h10⟩ := h
  obtain ⟨k', hi', he⟩ := State.fieldFound?_setVm hvm h2
  exact ⟨c, k', i, f, a, cell, by rw [hvm.findClass]; exact h1, hi', h3, by rw [he]; exact h4, h5, h6, h7, h8, by rw [he]; exact h9, h10⟩
theorem vx_L.kept {C n d : String} {A : Nat → Prop} {U : State} {H H1 : Heap} (h : vx_L C n d A U H) (hq : ∀ a : Nat, a < H.size → ¬ A a → H1[a]? = H[a]?) : vx_L C n d A U H1 := by
  obtain ⟨c, k, i, f, a, cell, h1, h2, h3, h4, h5, h6, h7, h8, h9, h10⟩ := h
  exact ⟨c, k, i, f, a, cell, h1, h2, h3, h4, by rw [hq a (Array.getElem?_eq_some_iff.mp h5).1 h10]; exact h5, h6, h7, h8, h9, h10⟩
theorem vx_L.narrow {C n d : String} {A B : Nat → Prop} {U : State} {H : Heap} (h : vx_L C n d A U H) (hAB : ∀ q, B q → A q) : vx_L C n d B U H := by
  obtain ⟨c, k, i, f, a, cell, h1, h2, h3, h4, h5, h6, h7, h8, h9, h10⟩ := h
  exact ⟨c, k, i, f, a, cell, h1, h2, h3, h4, h5, h6, h7, h8, h9, fun z => h10 (hAB _ z)⟩
theorem vx_L.word {C n d : String} {A : Nat → Prop} {s : State} {args : Array Value} (h : vx_L C n d A s s.heap) : (Cond.laysStatic C n d).before args s = true := by
  obtain ⟨c, k, i, f, a, cell, h1, h2, h3, h4, h5, h6, h7, h8, h9, -⟩ := h
  show (Cond.laysStatic C n d).holds args s none s [] = true
  exact Cond.laysStatic_of h1 h2 h3 h4 h5 h6 h7 h8 h9
/-- .. and what it holds: null or some reference -/
def vx_Zq (C n d : String) (A : Nat → Prop) (U : State) (H : Heap) : Prop := va_Zq C n d A U H ∧ vx_L C n d A U H
theorem vx_Zq.moved {C n d : String} {A : Nat → Prop} {u U : State} {H : Heap} (hvm : u.vm.Alike U.vm) (h : vx_Zq C n d A u H) : vx_Zq C n d A U H := ⟨va_Zq.moved hvm h.1, vx_L.moved hvm h.2⟩
theorem vx_Zq.kept {C n d : String} {A : Nat → Prop} {U : State} {H H1 : Heap} (h : vx_Zq C n d A U H) (hq : ∀ a : Nat, a < H.size → ¬ A a → H1[a]? = H[a]?) : vx_Zq C n d A U H1 := ⟨va_Zq.kept h.1 hq, vx_L.kept h.2 hq⟩
theorem vx_Zq.narrow {C n d : String} {A B : Nat → Prop} {U : State} {H : Heap} (h : vx_Zq C n d A U H) (hAB : ∀ q, B q → A q) : vx_Zq C n d B U H := ⟨va_Zq.narrow h.1 hAB, vx_L.narrow h.2 hAB⟩
theorem vx_Zqof {args : Array Value} {s : State} {C n d : String} {A : Nat → Prop} (hl : (Cond.laysStatic C n d).before args s = true) (hini : (Cond.initialized C).before args s = true) (h : (Cond.isRef (.static C n d)).before args s = true) (hA : ∀ a : Nat, a < s.heap.size → ¬ A a) : vx_Zq C n d A s s.heap := by
  refine ⟨va_Zqof hl hini h hA, ?_⟩
  obtain ⟨c, k, i, f, a, cell, h1, h2, h3, h4, h5, h6, h7, h8, h9⟩ := Cond.laysStatic_spec hl
  exact ⟨c, k, i, f, a, cell, h1, h2, h3, h4, h5, h6, h7, h8, h9, hA a (Array.getElem?_eq_some_iff.mp h5).1⟩
theorem vx_isRef {C n d : String} {v : Value} {A : Nat → Prop} {s : State} {args : Array Value} (h : va_Z C n d v A s s.heap) (hv : v.isRef = true) : (Cond.isRef (.static C n d)).before args s = true := by
  obtain ⟨cf, kf, fi, f, a, cell, h1, h2, h3, h4, h5, h6, h7, -⟩ := h
  have he : (Term.static C n d).eval args s none [] s = some v := by
    simp [Term.eval, State.fieldNamed?, h1, h2, h4, h5, h6, h7]
  simp only [Cond.before, Cond.holds, Cond.value, he]
  cases v <;> simp_all [Value.isRef]
theorem vx_isRefq {C n d : String} {A : Nat → Prop} {s : State} {args : Array Value} (h : va_Zq C n d A s s.heap) : (Cond.isRef (.static C n d)).before args s = true := by
  rcases h with h | ⟨t, h⟩
  · exact vx_isRef h rfl
  · exact vx_isRef h rfl
/-- the same frame, seen from here: as if the method were called anew in this heap -/
theorem vx_rebase {T : State} (X : Stand p l e R s m args below meth c T locs cells slots) {R' : Room} (hf : R'.frames ≤ R.frames) (hl : R'.locals ≤ R.locals) (hc : cells + R'.cells ≤ R.cells) (hs : slots + R'.slots ≤ R.slots) :
    Stand p l e R' ((T.setVm s.vm).setFrames (.invoking m args :: below)) m args below meth c T [] 0 0 := by
  have htop : (T.setVm s.vm).topJava?.isSome := X.here.top
  have hF : ((T.setVm s.vm).setFrames (.invoking m args :: below)).frames = .invoking m args :: below := State.frames_setFrames _ (State.cur_lt_of_top htop)
  obtain ⟨g₀, hg0⟩ := Option.isSome_iff_exists.mp htop
  obtain ⟨r, hr⟩ := State.topJava?_eq_some.mp hg0
  have hl9 : e.platform.stackLimits (T.setVm s.vm).me = e.platform.stackLimits s.me := X.limits
  have hb9 : (T.setVm s.vm).me.stackBytes = s.me.stackBytes := X.bytes
  refine ⟨X.admits, X.cas, X.clock, hF, ?_, X.hears, X.method, X.code, X.here, X.tail, X.warmed, ?_, ?_, ?_⟩
  · have h := X.room
    have hU : ((T.setVm s.vm).setFrames (.invoking m args :: below)).localsInUse = s.localsInUse := by
      rw [State.localsInUse_invoking hF (meth := meth) (c := c) X.method X.code, State.localsInUse_invoking X.frames X.method X.code]
    simp only [State.hasRoom, Bool.and_eq_true, decide_eq_true_eq] at h ⊢
    obtain ⟨⟨⟨⟨h1, h2, h3, h4, h5, h6⟩, h7⟩, h8⟩, h9⟩ := h
    rw [X.frames, List.length_cons] at h2 h3
    have q1 := X.heapSize
    have q2 := X.used
    simp only [hF, hU, List.length_cons, State.stackLimits_setFrames, State.stackBytes_setFrames, hl9, hb9]
    refine ⟨⟨⟨⟨by omega, by omega, by omega, by omega, by omega, h6⟩, ?_⟩, ?_⟩, X.book⟩
    · show T.heap.size + R'.cells ≤ e.platform.maxCells
      omega
    · show T.slotsUsed + R'.slots ≤ e.platform.maxSlots
      omega
  · rw [State.stackLimits_setFrames]; rfl
  · rw [State.stackBytes_setFrames]; rfl
  · refine ⟨?_, Nat.le_refl _, Nat.le_refl _, ?_, ?_, fun a c9 h9 => ⟨c9, h9, rfl, rfl, fun _ _ => rfl⟩⟩
    · obtain ⟨t, ht, -⟩ := State.frames_cons hr
      show T.setVm s.vm = { ((T.setVm s.vm).setFrames (.invoking m args :: below)).setFrames (T.setVm s.vm).frames with heap := T.heap, slotsUsed := T.slotsUsed }
      rw [State.setFrames_setFrames, State.setFrames_self ht]
      rfl
    · show T.slotsUsed = T.slotsUsed + ((T.heap.toList.drop T.heap.size).map (·.slots.size)).sum
      rw [List.drop_eq_nil_of_le (Nat.le_of_eq Array.length_toList)]
      rfl
    · show ((T.heap.toList.drop T.heap.size).map (·.slots.size)).sum ≤ 0
      rw [List.drop_eq_nil_of_le (Nat.le_of_eq Array.length_toList)]
      exact Nat.le_refl _
/-- 'throw new E()': new; dup; invokespecial; athrow -/
theorem vx_throw0 {cc : ByteArray} {pc : Nat} (hexec : p.tables.exec = Jvm.exec) (hb : c.code = cc) (hl : l.stackTraces = false) {own cls : String} {names : List String} {ik ic mc ms : Nat} {A : Nat → Prop}
    (hown : s.vm.findClass own = some m.cls) (hcls : Bundle.fit cls = true) (hnames : ∀ n ∈ names, Bundle.fit n = true)
    (hk : (Cond.classLink own ik cls).before args s = true) (hini : (Cond.initialized cls).before args s = true) (hat : ∀ w ∈ vx_at0 own ic cls names, w.before args s = true)
    (hgood : ∀ w ∈ Cond.classLink own ik cls :: Cond.initialized cls :: vx_at0 own ic cls names, vx_ot w = true)
    (hU : vx_Zq Bundle.tN "UNASSIGNED_STACK" Bundle.steD A s s.heap) (hN : vx_Zq Bundle.tN "SUPPRESSED_SENTINEL" Bundle.listD A s s.heap) (hS : va_S A s.heap H locs) (hsize : ls.size = c.maxLocals)
    (d0 : decode cc pc = .ok (.new ik, 3)) (d3 : decode cc (pc + 3) = .ok (.dup, 1)) (d4 : decode cc (pc + 4) = .ok (.invokespecial ic, 3)) (d7 : decode cc (pc + 7) = .ok (.athrow, 1))
    (hout : ∀ x ∈ c.exceptionTable.toList, covers x (pc + 7) = false)
    (hRframes : names.length + 3 < R.frames) (hRlocals : (rest.map fun v => v.category).sum + (13 * (names.length + 1) + 42) ≤ R.locals) (hRcells : cells + 1 ≤ R.cells) (hRslots : slots + 6 ≤ R.slots) (hlocks : meth.locks = false)
    (hx : ∀ t : State, s.vm.Alike t.vm → H.size ≤ t.heap.size → (∀ q : Nat, q < H.size → t.heap[q]? = H[q]?) → XC cls s t)
    (hf : ∀ z ∈ locs, free z.base) (hc : cells + 1 ≤ mc) (hs : slots + 6 ≤ ms) :
    W p l e R s m args below meth c H locs cells slots (vx_MQ below Qc XC args s mc ms free) (F0 m pc ls rest) := by
  intro T hT X
  have htr : e.platform.stackTraces = false := (show e.platform.stackTraces = l.stackTraces by rw [X.admits.platform]).trans hl
  have Y := vx_rebase X (R' := { frames := R.frames, locals := R.locals, cells := 1, slots := 6 }) (Nat.le_refl _) (Nat.le_refl _) hRcells hRslots
  obtain ⟨s', hA⟩ : ∃ z, z = (T.setVm s.vm).setFrames (.invoking m args :: below) := ⟨_, rfl⟩
  rw [← hA] at Y
  have hvm : s'.vm = s.vm := by rw [hA]; rfl
  have hhp : s'.heap = H := by rw [hA]; exact hT
  have hW0 : s.WarmedH s'.vm := by rw [hvm]; exact State.WarmedH.refl s
  have hat' : ∀ w ∈ vx_at0 own ic cls names, w.before args s' = true := fun w hw => vx_ot_at hW0 hvm.symm (hgood w (List.mem_cons_of_mem _ (List.mem_cons_of_mem _ hw))) (hat w hw)
  have hk' : (Cond.classLink own ik cls).before args s' = true := vx_ot_at hW0 hvm.symm (hgood _ List.mem_cons_self) hk
  have hini' : (Cond.initialized cls).before args s' = true := vx_ot_at hW0 hvm.symm (hgood _ (List.mem_cons_of_mem _ List.mem_cons_self)) hini
  have hU' : vx_Zq Bundle.tN "UNASSIGNED_STACK" Bundle.steD A s' s'.heap := by rw [hhp]; exact vx_Zq.moved hW0.alike (hU.kept hS.2.1)
  have hN' : vx_Zq Bundle.tN "SUPPRESSED_SENTINEL" Bundle.listD A s' s'.heap := by rw [hhp]; exact vx_Zq.moved hW0.alike (hN.kept hS.2.1)
  have h : ∀ w ∈ Bundle.ownAtoms0 own ic cls names, w.before args s' = true := vx_own hat' (vx_isRefq hU'.1) (vx_isRefq hN'.1) hU'.2.word hN'.2.word
  have hown' : s'.vm.findClass own = some m.cls := by rw [hvm]; exact hown
  have hins : (Cond.instantiable cls 6).before args s' = true := h _ (by simp [Bundle.ownAtoms0])
  obtain ⟨vm₁, cX, kX, hfX, hkX, -, -, X₁, st1⟩ := Y.newCold hexec (own := own) (C := cls) (index := ik) (n := 6) hown' hk' hins hini'
    (g := F0 m pc ls rest) rfl (by rw [hb]; exact d0) (Nat.le_refl _) (Nat.le_refl _)
  generalize hT1 : (T.setVm vm₁).pushCell { cls := cX, slots := kX.instanceTypes.map defaultValue, vm := .none } = T1 at X₁ st1
  have hcat : (Value.ref T.heap.size).category = 1 := rfl
  have hcellA : T1.heap[T.heap.size]? = some (freshCell cX kX) := by rw [← hT1]; exact State.heap_pushCell_size _ _
  have d3' : decode c.code (pc + 3) = .ok (.dup, 1) := by rw [hb]; exact d3
  obtain ⟨U, hsteps, hrun, hend, hW, hsame, ce, hce, hO⟩ := X₁.ctorThrow0 hexec htr (own := own) (cls := cls) (names := names) (ic := ic) hown' hcls hnames h (fun x hx => nomatch hx) hfX hkX hcellA (by rw [hhp, hT]; exact Nat.le_refl _)
    (g := { method := m, pc := pc + 4, locals := ls, stack := .ref T.heap.size :: .ref T.heap.size :: rest, locked := none }) rfl hsize rfl rfl (rest := rest) rfl
    (by rw [hb]; exact d4) (by rw [hb]; exact d7) hout hRframes (by simp only [List.map_cons, List.sum_cons, hcat]; omega) hlocks
  obtain ⟨f1, f2⟩ := vx_frame hsame
  rw [hhp] at f1 f2
  have hWs : s.WarmedH U.vm := State.WarmedH.trans hW0 hW
  have hcl : s.vm.findClass cls = some ce.cls := by
    have h9 := hO.cls
    rw [hvm] at h9
    exact h9
  have hall : s.sameButNew ({ U with vm := s.vm } : State) locs mc ms := by
    subst hA
    obtain ⟨e1, e2⟩ := hsame
    rw [State.setFrames_setFrames] at e1
    have h2 : (T.setVm s.vm).sameButNew ({ U with vm := s.vm } : State) [] (0 + 1) (0 + 6) := ⟨e1, e2⟩
    have h3 := X.same.trans h2
    rw [List.append_nil] at h3
    exact h3.mono hc hs
  refine ⟨U, ?_, .threw T.heap.size, hrun, hend, Or.inr ⟨T.heap.size, rfl, cls, ce, locs, hx U hWs.alike f1 (fun q hq => f2 q hq (fun z hz => nomatch hz)), hce, hO.vm, hcl, hWs, hall, hf⟩⟩
  refine st1 _ ?_
  show Steps p.tables e below (T1.setTop { method := m, pc := pc + 3, locals := ls, stack := .ref T.heap.size :: rest, locked := none }) _
  jvm_step X₁.here [X₁.here.top, hexec, d3', Value.category]
  exact hsteps
/-- 'throw new E("text")': new; dup; ldc; invokespecial; athrow -/
theorem vx_throwS {cc : ByteArray} {pc : Nat} (hexec : p.tables.exec = Jvm.exec) (hb : c.code = cc) (hl : l.stackTraces = false) {own cls text : String} {names : List String} {ik is ic mc ms sa : Nat} {A : Nat → Prop}
    (hown : s.vm.findClass own = some m.cls) (hcls : Bundle.fit cls = true) (hnames : ∀ n ∈ names, Bundle.fit n = true)
    (hk : (Cond.classLink own ik cls).before args s = true) (hini : (Cond.initialized cls).before args s = true) (hstr : vk_R own is text sa s) (hat : ∀ w ∈ vx_atS own ic cls names, w.before args s = true)
    (hgood : ∀ w ∈ Cond.classLink own ik cls :: Cond.initialized cls :: vx_atS own ic cls names, vx_ot w = true)
    (hU : vx_Zq Bundle.tN "UNASSIGNED_STACK" Bundle.steD A s s.heap) (hN : vx_Zq Bundle.tN "SUPPRESSED_SENTINEL" Bundle.listD A s s.heap) (hS : va_S A s.heap H locs) (hsize : ls.size = c.maxLocals)
    (d0 : decode cc pc = .ok (.new ik, 3)) (d3 : decode cc (pc + 3) = .ok (.dup, 1)) (d4 : decode cc (pc + 4) = .ok (.ldc is, 2)) (d6 : decode cc (pc + 6) = .ok (.invokespecial ic, 3)) (d9 : decode cc (pc + 9) = .ok (.athrow, 1))
    (hout : ∀ x ∈ c.exceptionTable.toList, covers x (pc + 9) = false)
    (hRframes : names.length + 3 < R.frames) (hRlocals : (rest.map fun v => v.category).sum + (13 * (names.length + 1) + 43) ≤ R.locals) (hRcells : cells + 1 ≤ R.cells) (hRslots : slots + 6 ≤ R.slots) (hlocks : meth.locks = false)
    (hx : ∀ t : State, s.vm.Alike t.vm → H.size ≤ t.heap.size → (∀ q : Nat, q < H.size → t.heap[q]? = H[q]?) → XC cls s t)
    (hf : ∀ z ∈ locs, free z.base) (hc : cells + 1 ≤ mc) (hs : slots + 6 ≤ ms) :
    W p l e R s m args below meth c H locs cells slots (vx_MQ below Qc XC args s mc ms free) (F0 m pc ls rest) := by
  intro T hT X
  have htr : e.platform.stackTraces = false := (show e.platform.stackTraces = l.stackTraces by rw [X.admits.platform]).trans hl
  have Y := vx_rebase X (R' := { frames := R.frames, locals := R.locals, cells := 1, slots := 6 }) (Nat.le_refl _) (Nat.le_refl _) hRcells hRslots
  obtain ⟨s', hA⟩ : ∃ z, z = (T.setVm s.vm).setFrames (.invoking m args :: below) := ⟨_, rfl⟩
  rw [← hA] at Y
  have hvm : s'.vm = s.vm := by rw [hA]; rfl
  have hhp : s'.heap = H := by rw [hA]; exact hT
  have hW0 : s.WarmedH s'.vm := by rw [hvm]; exact State.WarmedH.refl s
  have hat' : ∀ w ∈ vx_atS own ic cls names, w.before args s' = true := fun w hw => vx_ot_at hW0 hvm.symm (hgood w (List.mem_cons_of_mem _ (List.mem_cons_of_mem _ hw))) (hat w hw)
  have hk' : (Cond.classLink own ik cls).before args s' = true := vx_ot_at hW0 hvm.symm (hgood _ List.mem_cons_self) hk
  have hini' : (Cond.initialized cls).before args s' = true := vx_ot_at hW0 hvm.symm (hgood _ (List.mem_cons_of_mem _ List.mem_cons_self)) hini
  have hU' : vx_Zq Bundle.tN "UNASSIGNED_STACK" Bundle.steD A s' s'.heap := by rw [hhp]; exact vx_Zq.moved hW0.alike (hU.kept hS.2.1)
  have hN' : vx_Zq Bundle.tN "SUPPRESSED_SENTINEL" Bundle.listD A s' s'.heap := by rw [hhp]; exact vx_Zq.moved hW0.alike (hN.kept hS.2.1)
  have h : ∀ w ∈ Bundle.ownAtoms own ic cls names, w.before args s' = true := vx_own hat' (vx_isRefq hU'.1) (vx_isRefq hN'.1) hU'.2.word hN'.2.word
  have hown' : s'.vm.findClass own = some m.cls := by rw [hvm]; exact hown
  have hins : (Cond.instantiable cls 6).before args s' = true := h _ (by simp [Bundle.ownAtoms])
  obtain ⟨vm₁, cX, kX, hfX, hkX, -, -, X₁, st1⟩ := Y.newCold hexec (own := own) (C := cls) (index := ik) (n := 6) hown' hk' hins hini'
    (g := F0 m pc ls rest) rfl (by rw [hb]; exact d0) (Nat.le_refl _) (Nat.le_refl _)
  generalize hT1 : (T.setVm vm₁).pushCell { cls := cX, slots := kX.instanceTypes.map defaultValue, vm := .none } = T1 at X₁ st1
  have hcat : (Value.ref T.heap.size).category = 1 := rfl
  have hcellA : T1.heap[T.heap.size]? = some (freshCell cX kX) := by rw [← hT1]; exact State.heap_pushCell_size _ _
  have d3' : decode c.code (pc + 3) = .ok (.dup, 1) := by rw [hb]; exact d3
  have d4' : decode c.code (pc + 4) = .ok (.ldc is, 2) := by rw [hb]; exact d4
  have hstr' : vk_R own is text sa s' := vk_R.warm hW0 hstr
  obtain ⟨U, hsteps, hrun, hend, hW, hsame, ce, hce, hO⟩ := X₁.ctorThrowS hexec htr (own := own) (cls := cls) (names := names) (ic := ic) hown' hcls hnames h (fun x hx => nomatch hx) hfX hkX hcellA (by rw [hhp, hT]; exact Nat.le_refl _) (msg := .ref sa) rfl
    (g := { method := m, pc := pc + 6, locals := ls, stack := .ref sa :: .ref T.heap.size :: .ref T.heap.size :: rest, locked := none }) rfl hsize rfl rfl (rest := rest) rfl
    (by rw [hb]; exact d6) (by rw [hb]; exact d9) hout hRframes (by simp only [List.map_cons, List.sum_cons, hcat]; omega) hlocks
  obtain ⟨f1, f2⟩ := vx_frame hsame
  rw [hhp] at f1 f2
  have hWs : s.WarmedH U.vm := State.WarmedH.trans hW0 hW
  have hcl : s.vm.findClass cls = some ce.cls := by
    have h9 := hO.cls
    rw [hvm] at h9
    exact h9
  have hall : s.sameButNew ({ U with vm := s.vm } : State) locs mc ms := by
    subst hA
    obtain ⟨e1, e2⟩ := hsame
    rw [State.setFrames_setFrames] at e1
    have h2 : (T.setVm s.vm).sameButNew ({ U with vm := s.vm } : State) [] (0 + 1) (0 + 6) := ⟨e1, e2⟩
    have h3 := X.same.trans h2
    rw [List.append_nil] at h3
    exact h3.mono hc hs
  refine ⟨U, ?_, .threw T.heap.size, hrun, hend, Or.inr ⟨T.heap.size, rfl, cls, ce, locs, hx U hWs.alike f1 (fun q hq => f2 q hq (fun z hz => nomatch hz)), hce, hO.vm, hcl, hWs, hall, hf⟩⟩
  refine st1 _ ?_
  show Steps p.tables e below (T1.setTop { method := m, pc := pc + 3, locals := ls, stack := .ref T.heap.size :: rest, locked := none }) _
  jvm_step X₁.here [X₁.here.top, hexec, d3', Value.category]
  exact X₁.ldcString hexec (own := own) (text := text) (index := is) (a := sa) hown' hstr'.1 hstr'.2
    (g := { method := m, pc := pc + 4, locals := ls, stack := .ref T.heap.size :: .ref T.heap.size :: rest, locked := none }) rfl d4' _ hsteps
/-- 'throw new E("text")', the text by a wide index -/
theorem vx_throwSW {cc : ByteArray} {pc : Nat} (hexec : p.tables.exec = Jvm.exec) (hb : c.code = cc) (hl : l.stackTraces = false) {own cls text : String} {names : List String} {ik is ic mc ms sa : Nat} {A : Nat → Prop}
    (hown : s.vm.findClass own = some m.cls) (hcls : Bundle.fit cls = true) (hnames : ∀ n ∈ names, Bundle.fit n = true)
    (hk : (Cond.classLink own ik cls).before args s = true) (hini : (Cond.initialized cls).before args s = true) (hstr : vk_R own is text sa s) (hat : ∀ w ∈ vx_atS own ic cls names, w.before args s = true)
    (hgood : ∀ w ∈ Cond.classLink own ik cls :: Cond.initialized cls :: vx_atS own ic cls names, vx_ot w = true)
    (hU : vx_Zq Bundle.tN "UNASSIGNED_STACK" Bundle.steD A s s.heap) (hN : vx_Zq Bundle.tN "SUPPRESSED_SENTINEL" Bundle.listD A s s.heap) (hS : va_S A s.heap H locs) (hsize : ls.size = c.maxLocals)
    (d0 : decode cc pc = .ok (.new ik, 3)) (d3 : decode cc (pc + 3) = .ok (.dup, 1)) (d4 : decode cc (pc + 4) = .ok (.ldc_w is, 3)) (d7 : decode cc (pc + 7) = .ok (.invokespecial ic, 3)) (d10 : decode cc (pc + 10) = .ok (.athrow, 1))
    (hout : ∀ x ∈ c.exceptionTable.toList, covers x (pc + 10) = false)
    (hRframes : names.length + 3 < R.frames) (hRlocals : (rest.map fun v => v.category).sum + (13 * (names.length + 1) + 43) ≤ R.locals) (hRcells : cells + 1 ≤ R.cells) (hRslots : slots + 6 ≤ R.slots) (hlocks : meth.locks = false)
    (hx : ∀ t : State, s.vm.Alike t.vm → H.size ≤ t.heap.size → (∀ q : Nat, q < H.size → t.heap[q]? = H[q]?) → XC cls s t)
    (hf : ∀ z ∈ locs, free z.base) (hc : cells + 1 ≤ mc) (hs : slots + 6 ≤ ms) :
    W p l e R s m args below meth c H locs cells slots (vx_MQ below Qc XC args s mc ms free) (F0 m pc ls rest) := by
  intro T hT X
  have htr : e.platform.stackTraces = false := (show e.platform.stackTraces = l.stackTraces by rw [X.admits.platform]).trans hl
  have Y := vx_rebase X (R' := { frames := R.frames, locals := R.locals, cells := 1, slots := 6 }) (Nat.le_refl _) (Nat.le_refl _) hRcells hRslots
  obtain ⟨s', hA⟩ : ∃ z, z = (T.setVm s.vm).setFrames (.invoking m args :: below) := ⟨_, rfl⟩
  rw [← hA] at Y
  have hvm : s'.vm = s.vm := by rw [hA]; rfl
  have hhp : s'.heap = H := by rw [hA]; exact hT
  have hW0 : s.WarmedH s'.vm := by rw [hvm]; exact State.WarmedH.refl s
  have hat' : ∀ w ∈ vx_atS own ic cls names, w.before args s' = true := fun w hw => vx_ot_at hW0 hvm.symm (hgood w (List.mem_cons_of_mem _ (List.mem_cons_of_mem _ hw))) (hat w hw)
  have hk' : (Cond.classLink own ik cls).before args s' = true := vx_ot_at hW0 hvm.symm (hgood _ List.mem_cons_self) hk
  have hini' : (Cond.initialized cls).before args s' = true := vx_ot_at hW0 hvm.symm (hgood _ (List.mem_cons_of_mem _ List.mem_cons_self)) hini
  have hU' : vx_Zq Bundle.tN "UNASSIGNED_STACK" Bundle.steD A s' s'.heap := by rw [hhp]; exact vx_Zq.moved hW0.alike (hU.kept hS.2.1)
  have hN' : vx_Zq Bundle.tN "SUPPRESSED_SENTINEL" Bundle.listD A s' s'.heap := by rw [hhp]; exact vx_Zq.moved hW0.alike (hN.kept hS.2.1)
  have h : ∀ w ∈ Bundle.ownAtoms own ic cls names, w.before args s' = true := vx_own hat' (vx_isRefq hU'.1) (vx_isRefq hN'.1) hU'.2.word hN'.2.word
  have hown' : s'.vm.findClass own = some m.cls := by rw [hvm]; exact hown
  have hins : (Cond.instantiable cls 6).before args s' = true := h _ (by simp [Bundle.ownAtoms])
  obtain ⟨vm₁, cX, kX, hfX, hkX, -, -, X₁, st1⟩ := Y.newCold hexec (own := own) (C := cls) (index := ik) (n := 6) hown' hk' hins hini'
    (g := F0 m pc ls rest) rfl (by rw [hb]; exact d0) (Nat.le_refl _) (Nat.le_refl _)
  generalize hT1 : (T.setVm vm₁).pushCell { cls := cX, slots := kX.instanceTypes.map defaultValue, vm := .none } = T1 at X₁ st1
  have hcat : (Value.ref T.heap.size).category = 1 := rfl
  have hcellA : T1.heap[T.heap.size]? = some (freshCell cX kX) := by rw [← hT1]; exact State.heap_pushCell_size _ _
  have d3' : decode c.code (pc + 3) = .ok (.dup, 1) := by rw [hb]; exact d3
  have d4' : decode c.code (pc + 4) = .ok (.ldc_w is, 3) := by rw [hb]; exact d4
  have hstr' : vk_R own is text sa s' := vk_R.warm hW0 hstr
  obtain ⟨U, hsteps, hrun, hend, hW, hsame, ce, hce, hO⟩ := X₁.ctorThrowS hexec htr (own := own) (cls := cls) (names := names) (ic := ic) hown' hcls hnames h (fun x hx => nomatch hx) hfX hkX hcellA (by rw [hhp, hT]; exact Nat.le_refl _) (msg := .ref sa) rfl
    (g := { method := m, pc := pc + 7, locals := ls, stack := .ref sa :: .ref T.heap.size :: .ref T.heap.size :: rest, locked := none }) rfl hsize rfl rfl (rest := rest) rfl
    (by rw [hb]; exact d7) (by rw [hb]; exact d10) hout hRframes (by simp only [List.map_cons, List.sum_cons, hcat]; omega) hlocks
  obtain ⟨f1, f2⟩ := vx_frame hsame
  rw [hhp] at f1 f2
  have hWs : s.WarmedH U.vm := State.WarmedH.trans hW0 hW
  have hcl : s.vm.findClass cls = some ce.cls := by
    have h9 := hO.cls
    rw [hvm] at h9
    exact h9
  have hall : s.sameButNew ({ U with vm := s.vm } : State) locs mc ms := by
    subst hA
    obtain ⟨e1, e2⟩ := hsame
    rw [State.setFrames_setFrames] at e1
    have h2 : (T.setVm s.vm).sameButNew ({ U with vm := s.vm } : State) [] (0 + 1) (0 + 6) := ⟨e1, e2⟩
    have h3 := X.same.trans h2
    rw [List.append_nil] at h3
    exact h3.mono hc hs
  refine ⟨U, ?_, .threw T.heap.size, hrun, hend, Or.inr ⟨T.heap.size, rfl, cls, ce, locs, hx U hWs.alike f1 (fun q hq => f2 q hq (fun z hz => nomatch hz)), hce, hO.vm, hcl, hWs, hall, hf⟩⟩
  refine st1 _ ?_
  show Steps p.tables e below (T1.setTop { method := m, pc := pc + 3, locals := ls, stack := .ref T.heap.size :: rest, locked := none }) _
  jvm_step X₁.here [X₁.here.top, hexec, d3', Value.category]
  exact X₁.ldcStringW hexec (own := own) (text := text) (index := is) (a := sa) hown' hstr'.1 hstr'.2
    (g := { method := m, pc := pc + 4, locals := ls, stack := .ref T.heap.size :: .ref T.heap.size :: rest, locked := none }) rfl d4' _ hsteps
end Ends
section Bodies
variable {l : Launch}
theorem vx_ofW {y : MethodName} {ws ws' : List Cond} {rm : Room} {Pc : Array Value → State → Prop} {Qc : Array Value → State → Outcome → State → Prop} {XC : String → State → State → Prop} {mc ms : Nat} {free : Addr → Prop} {cc : ByteArray} {maxL : Nat} {ret : Option FieldType}
    (hy : plainName y.cls = true) (hw : ws = Cond.code y cc maxL ret :: ws')
    (body : ∀ p e s m args below meth c s₁, BodyLoose p l y (headSpec ws rm) cc maxL ret e s m args below meth c s₁ → c.maxLocals = maxL → (∀ x ∈ c.exceptionTable.toList, False) → Pc args s →
      W p l e (headSpec ws rm).room s m args below meth c s.heap [] 0 0 (vx_MQ below Qc XC args s mc ms free) (entryFrame m args maxL)) : vx_Met l y ws rm Pc Qc XC mc ms free := by
  refine MetFree.of_bodyS (code := cc) (maxLocals := maxL) (ret := ret) hy ?_ ?_
  · intro args s m h hn
    obtain ⟨meth, c, h1, h2, h3, h4, h5, h6, -, -⟩ := Cond.code_spec hn (atoms_spec (ws := ws) h _ (by rw [hw]; exact List.mem_cons_self))
    exact ⟨meth, c, h1, h2, h3, h4, h5, h6⟩
  · intro p e s m args below meth c s₁ B hml hP _
    have hh0 : s₁.heap = s.heap := by rw [B.state]; rfl
    have ht : ∀ x ∈ c.exceptionTable.toList, False := by
      obtain ⟨meth9, c9, h1, h2, -, -, -, -, h7, -⟩ := Cond.code_spec B.named (atoms_spec (ws := ws) B.pre _ (by rw [hw]; exact List.mem_cons_self))
      cases Option.some.inj (h1.symm.trans B.method)
      cases Option.some.inj (h2.symm.trans (Stand.of_body B).code)
      intro x hx
      rw [Array.isEmpty_iff.mp h7] at hx
      cases hx
    obtain ⟨t, a1, o, b1, b2, b3⟩ := body p e s m args below meth c s₁ B hml ht hP s₁ hh0 (Stand.of_body B)
    exact ⟨t, o, a1, b1, b2, b3⟩
/-- the table of a body with handlers -/
theorem vx_table {p : Program} {x y : MethodName} {S : Spec} {cc bytes : ByteArray} {maxL maxL' : Nat} {ret ret' : Option FieldType} {e : Env} {s s₁ : State} {m : MethodId} {args : Array Value} {below : List Frame} {meth : Method} {c : Code} {hh : List (Nat × Nat × Nat × Nat)}
    (B : BodyLoose p l y S cc maxL ret e s m args below meth c s₁) (h : (Cond.codeWith y bytes maxL' ret' hh).before args s = true) : c.exceptionTable.toList = tableOf hh := by
  obtain ⟨m9, meth9, c9, hn9, h1, h2, -, -, h6, -⟩ := Cond.codeWith_spec h
  cases Option.some.inj (hn9.symm.trans B.named)
  cases Option.some.inj (h1.symm.trans B.method)
  cases Option.some.inj (h2.symm.trans (Stand.of_body B).code)
  rw [← h6, table_eq]
end Bodies
end VXA
/-! ===== END ===== -/
/-! ===== BEGIN a static call of a method with an exception table ===== -/
section VXS
variable {p : Program} {l : Launch} {e : Env} {R : Room} {s : State} {m : MethodId} {args : Array Value} {below : List Frame} {meth : Method} {c : Code} {T : State} {H : Heap} {locs : List Loc} {cells slots : Nat}
abbrev vx_CSW (R : Room) (s : State) (args : Array Value) (own : String) (index : Nat) (y : MethodName) (bytes : ByteArray) (maxL : Nat) (ret : Option FieldType) (hh : List (Nat × Nat × Nat × Nat)) (ws : List Cond) (rm : Room) (mc ms n : Nat) : Prop :=
  (rm.cells = mc ∧ rm.slots = ms ∧ rm.frames + 1 ≤ R.frames ∧ 8 + (maxL + 11) + rm.locals ≤ R.locals ∧ (∀ w ∈ ws, ∀ (a' : Array Value) (U : State), s.WarmedH U.vm → w.before a' U = true) ∧ Cond.codeWith y bytes maxL ret hh ∈ ws) ∧
  (Cond.codeWith y bytes maxL ret hh).before args s = true ∧ (Cond.initialized y.cls).before args s = true ∧ (y.cls ≠ "java/lang/invoke/MethodHandle" ∧ y.cls ≠ "java/lang/invoke/VarHandle") ∧
  (∀ sig, parseMethodDescriptor y.desc = some sig → n = sig.parameters.length) ∧ (Cond.methodLink own index y).before args s = true ∧ (Cond.static y).before args s = true
theorem vx_cwSW {own : String} {index maxL mc ms : Nat} {y : MethodName} {bytes : ByteArray} {ret : Option FieldType} {hh : List (Nat × Nat × Nat × Nat)} {Ts ws ws' : List Cond} {rm : Room} (n : Nat) (ht : ∀ w ∈ Ts, w.before args s = true) (hT : GoodIn Ts (va_wsS own index y ws)) (hw : ws = Cond.codeWith y bytes maxL ret hh :: ws') (hrc : rm.cells = mc) (hrs : rm.slots = ms)
    (hd : y.cls ≠ "java/lang/invoke/MethodHandle" ∧ y.cls ≠ "java/lang/invoke/VarHandle" ∧ (parseMethodDescriptor y.desc).map (fun d => d.parameters.length) = some n) (hR : rm.frames + 1 ≤ R.frames ∧ 8 + (maxL + 11) + rm.locals ≤ R.locals) :
    vx_CSW R s args own index y bytes maxL ret hh ws rm mc ms n := by
  have ok : ∀ w ∈ va_wsS own index y ws, w.before args s = true := fun w h => ht w (hT w h).1
  have hG : GoodIn Ts ws := fun w h => hT w (by unfold va_wsS; exact List.mem_append_right _ h)
  have hc : Cond.codeWith y bytes maxL ret hh ∈ ws := by rw [hw]; exact List.mem_cons_self
  refine ⟨⟨hrc, hrs, hR.1, hR.2, pay_in ht hG, hc⟩, ht _ (hG _ hc).1, ok _ (by simp [va_wsS]), ⟨hd.1, hd.2.1⟩, fun sig h => ?_, ok _ (by simp [va_wsS]), ok _ (by simp [va_wsS])⟩
  have h2 := hd.2.2
  rw [h] at h2
  exact (Option.some.inj h2).symm
theorem vx_callSW (X : Stand p l e R s m args below meth c T locs cells slots) (hexec : p.tables.exec = Jvm.exec) {own : String} {index : Nat} {y : MethodName} {bytes : ByteArray} {maxL : Nat} {ret : Option FieldType} {hh : List (Nat × Nat × Nat × Nat)}
    (hown : s.vm.findClass own = some m.cls) (hlink : (Cond.methodLink own index y).before args s = true) (hstat : (Cond.static y).before args s = true) (hinit : (Cond.initialized y.cls).before args s = true)
    (hcode : (Cond.codeWith y bytes maxL ret hh).before args s = true) (hy : y.cls ≠ "java/lang/invoke/MethodHandle" ∧ y.cls ≠ "java/lang/invoke/VarHandle")
    {W9 : Nat} {Pre : Pt → Array Value → Prop} {Post : Pt → Array Value → Option Value → Pt → Prop} (hK : Back l R p e below s args y 3 W9 Pre Post)
    {g : JFrame} (hg : g.method = m) (hsize : g.locals.size = c.maxLocals) {argsL rest : List Value} (hlen : ∀ sig, parseMethodDescriptor y.desc = some sig → argsL.length = sig.parameters.length)
    (hstack : g.stack = argsL.reverse ++ rest) (hW : 2 * g.monitorRoom + (rest.map fun v => v.category).sum ≤ W9) (hdg : decode c.code g.pc = .ok (.invokestatic index, 3))
    (hpre : ∀ vm₁, s.WarmedH vm₁ → Pre ⟨T.setVm vm₁, locs, cells, slots⟩ argsL.toArray) :
    ∃ (v : Option Value) (vm₁ : Vm) (B : Pt), s.WarmedH vm₁ ∧ Stand p l e R s m args below meth c B.U B.locs B.cells B.slots ∧ Post ⟨T.setVm vm₁, locs, cells, slots⟩ argsL.toArray v B ∧
      ∀ target, Steps p.tables e below (B.U.setTop { g with pc := g.pc + 3, stack := v.toList ++ rest }) target → Steps p.tables e below (T.setTop g) target := by
  obtain ⟨mk, methM, cM, hnamed, hmethM, -, -, -, -, -, -, hsigM⟩ := Cond.codeWith_spec hcode
  have hstatic : methM.isStatic = true := Cond.static_spec hnamed hmethM hstat
  obtain ⟨kP, hkP, -⟩ := className_of_methodNamed hnamed
  have hinitP : kP.init = .initialized := Cond.initialized_spec (findClass_of_methodNamed hnamed) hkP hinit
  obtain ⟨vm₁, X₁, hstep₁⟩ := X.invokestatic hexec hown hlink hnamed hmethM hstatic hkP hinitP hy (g := g) hg (argsL := argsL) (rest := rest) (hlen _ hsigM) hstack hdg
  obtain ⟨v, B, X', hpost, hsteps⟩ := hK m meth c ⟨T.setVm vm₁, locs, cells, slots⟩ { g with stack := rest } (.invokestatic index) mk argsL.toArray X₁ hg hsize hdg hW (X₁.named hnamed) (hpre vm₁ X₁.warmed)
  exact ⟨v, vm₁, B, X₁.warmed, X', hpost, fun target h => hstep₁ _ fun acts => by rw [doInvoke_state]; exact hsteps.trans h⟩
theorem vx_runSW {y : MethodName} {bytes cc : ByteArray} {maxL nL mc ms n index : Nat} {ret : Option FieldType} {hh : List (Nat × Nat × Nat × Nat)} {ws : List Cond} {rm : Room} {Pc : Array Value → State → Prop} {Qc : Array Value → State → Outcome → State → Prop} {free : Addr → Prop} {Ts : List Cond} {own : String} {As rest : List Value} {g : JFrame}
    (S : CallFix p m c cc nL s args Ts own) (hM : Met l y ws rm Pc Qc mc ms free) (cw : vx_CSW R s args own index y bytes maxL ret hh ws rm mc ms n) (hp : PreS s H Pc As)
    (hg : g.method = m) (hn : As.length = n) (hsize : g.locals.size = nL) (hstack : g.stack = As.reverse ++ rest) (hW : 2 * g.monitorRoom + (rest.map fun v => v.category).sum ≤ 8) (hdg : decode cc g.pc = .ok (.invokestatic index, 3)) (hf : cells + mc ≤ R.cells ∧ slots + ms ≤ R.slots) :
    va_Run p l e R s m args below meth c H locs cells slots mc ms g rest (Qc As.toArray) (free) := by
  obtain ⟨⟨hrc, hrs, hfr, hlo, hws, hcw⟩, hcode, hini, hy, hlen, hl, hstt⟩ := cw
  have hK : Back l R p e below s args y 3 8 (PreOf R mc ms Pc) (PostOf Qc mc ms free) := va_backW (hh := hh) (bytes := bytes) (maxL := maxL) (ret := ret) hM hp.1 hrc hrs hfr hlo hws hcw (fun a' U hW => word_at hW (Or.inl (by first | rfl | simp [Cond.onTables, Cond.keeps, Cond.steady])) hini)
  obtain ⟨hx, hb, hml, ho, -⟩ := S
  intro T hT X
  obtain ⟨v, vm₁, ⟨U', l2, c2, s2⟩, hW₁, X', ⟨g', mk, t, L, e1, e2, hq, h1, hL, h2, h3⟩, st⟩ := vx_callSW X hx (hh := hh) (bytes := bytes) (maxL := maxL) (ret := ret) ho hl hstt hini hcode hy hK hg (hsize.trans hml.symm) (argsL := As) (rest := rest) (fun sig h => hn.trans (hlen sig h)) hstack hW (by rw [hb]; exact hdg)
    (fun vm₁ hW₁ => ⟨hf.1, hf.2, hp.2 (T.setVm vm₁) hT hW₁⟩)
  dsimp only [Pt.U, Pt.locs, Pt.cells, Pt.slots] at X' e1 e2 h1 h2 h3 st
  subst h1; subst h2; subst h3
  exact ⟨v, (T.setVm vm₁).calling g' mk As.toArray, t, U', L, hT, X', hL, e1, e2, hq, st⟩
/-- not caught here, past rows that name other classes: it goes on to the caller -/
theorem vx_outP {p : Program} {l : Launch} {e : Env} {R : Room} {s : State} {m : MethodId} {args : Array Value} {below : List Frame} {meth : Method} {c : Code} {H : Heap} {locs : List Loc} {cells slots : Nat} {free : Addr → Prop} {ls : Array Slot} {rest : List Value} {Qc : Array Value → State → Outcome → State → Prop} {XC : String → State → State → Prop}
    {pc : Nat} {own E : String} {ce : Cell} {q : Addr} {mc ms : Nat} (hown : s.vm.findClass own = some m.cls) (hlocks : meth.locks = false)
    (hpass : ∀ z ∈ c.exceptionTable.toList, covers z pc = false ∨ (z.catchType ≠ 0 ∧ ∃ nm : String, (Cond.classLink own z.catchType nm).before args s = true ∧ va_Nc E nm s)) (hcell : H[q]? = some ce) (hv : ce.vm = .none) (hcl : s.vm.findClass E = some ce.cls)
    (hx : ∀ t : State, t.heap = H → s.vm.Alike t.vm → XC E s t) (hf : ∀ z ∈ locs, free z.base) (hc : cells ≤ mc) (hs : slots ≤ ms) :
    vx_W p l e R s m args below meth c H locs cells slots (vx_MQ below Qc XC args s mc ms free) (F0 m pc ls rest) q := by
  intro T hT X
  have hpl : e.platform.magicAccessors = ({} : Platform).magicAccessors := by rw [X.admits.platform]
  obtain ⟨vm', hW', X', st⟩ := X.outThrough hlocks q (g := F0 m pc ls rest) rfl rfl rfl (cell := ce) (by rw [hT]; exact hcell) (by rw [hv]; rfl)
    (by obtain ⟨k9, h9, -⟩ := Vm.findClass_spec hcl; exact ⟨k9, h9⟩) (fun z hz => by
      rcases hpass z hz with h | ⟨hz0, nm, hl1, hn1⟩
      · exact Or.inl h
      · obtain ⟨c6, hc6, hcl6⟩ := Cond.classLink_spec hown hl1 e.platform hpl
        obtain ⟨a8, b8, h1, h2, h3⟩ := hn1
        cases Option.some.inj (h1.symm.trans hcl)
        cases Option.some.inj (h2.symm.trans hc6)
        exact Or.inr ⟨hz0, _, hcl6, h3⟩)
  obtain ⟨g₀, hfr⟩ := X'.frames_eq
  have hcell9 : ((T.setVm vm').setFrames (.throwing q :: below)).heap[q]? = some ce := by
    show T.heap[q]? = some ce
    rw [hT]; exact hcell
  have hend : Ended ((T.setVm vm').setFrames (.throwing q :: below)) below (.threw q) := State.frames_setFrames _ (State.cur_lt_of_frames hfr)
  refine ⟨(T.setVm vm').setFrames (.throwing q :: below), ?_, .threw q, X'.here.running, hend, Or.inr ⟨q, rfl, E, ce, locs, hx _ hT (X'.ends _).1.alike, hcell9, hv, hcl, (X'.ends _).1, (X'.ends _).2.mono hc hs, hf⟩⟩
  rw [X.pushThrowing_eq]
  exact st
/-- a thing of a world lies in the heap -/
theorem vx_lt {D : va_G} {cl : List vw_C} {ws : va_W} {H1 : Heap} (h : va_P D cl ws H1) {k : Nat} {q : Nat × va_E} (hk : ws[k]? = some q) : q.1 < H1.size := (h k q hk).lt
end VXS
/-! ===== END ===== -/
/-! ===== BEGIN methods with a table of their own: called by a name, returning or throwing ===== -/
section VXH
/-! vx_backW, vx_callVX, vx_callSX, vx_callVW, vx_runVW, vx_runVX, vx_runSX, vx_ofWH follow the same proofs as their sisters above (Free/Laws.lean, Shelf42/LK1.lean); vx_outP calls Shelf42/NT130.lean (outThrough). -/
section
variable {l : Launch} {R : Room} {p : Program} {e : Env} {below : List Frame} {s : State} {sargs : Array Value} {y : MethodName} {len W9 : Nat}
theorem vx_backW {ws : List Cond} {rm : Room} {Pc : Array Value → State → Prop} {Qc : Array Value → State → Outcome → State → Prop} {XC : String → State → State → Prop} {mc ms : Nat} {free : Addr → Prop} {bytes : ByteArray} {maxL : Nat} {ret : Option FieldType} {hh : List (Nat × Nat × Nat × Nat)}
    (hM : vx_Met l y ws rm Pc Qc XC mc ms free) (hblind : FrameBlind Pc) (hrc : rm.cells = mc) (hrs : rm.slots = ms)
    (hframes : rm.frames + 1 ≤ R.frames) (hlocals : W9 + (maxL + 11) + rm.locals ≤ R.locals)
    (hws : ∀ w ∈ ws, ∀ a' U, s.WarmedH U.vm → w.before a' U = true) (hcode : Cond.codeWith y bytes maxL ret hh ∈ ws) (hinit : ∀ a' U, s.WarmedH U.vm → (Cond.initialized y.cls).before a' U = true) :
    vx_Back l R p e below s sargs y len W9 (PreOf R mc ms Pc) (PostOf Qc mc ms free) (vx_Post XC mc ms free) := by
  intro m meth c A g ig mk a X hg hsize hdg hW hn hp
  have h1 : (headSpec ws rm).pre.before a A.U = true := atoms_intro fun w hw => hws w hw _ _ X.warmed
  have h2 : (Cond.codeWith y bytes maxL ret hh).before a A.U = true := hws _ hcode _ _ X.warmed
  have h3 : (Cond.initialized y.cls).before a A.U = true := hinit _ _ X.warmed
  have h4 : A.cells + (headSpec ws rm).room.cells ≤ R.cells := by rw [show (headSpec ws rm).room.cells = mc from hrc]; exact hp.1
  have h5 : A.slots + (headSpec ws rm).room.slots ≤ R.slots := by rw [show (headSpec ws rm).room.slots = ms from hrs]; exact hp.2.1
  have hPc : Pc a (A.U.calling g mk a) := hblind _ _ _ _ hp.2.2
  obtain ⟨U, Ls, c0, s0⟩ := A
  dsimp only [Pt.U, Pt.locs, Pt.cells, Pt.slots] at h1 h2 h3 h4 h5 X hn hPc ⊢
  obtain ⟨m9, methY, cY, hn9, hmY, hcY, -, hlY, -⟩ := Cond.codeWith_spec h2
  cases Option.some.inj (hn9.symm.trans hn)
  obtain ⟨kY, hkY, -⟩ := className_of_methodNamed hn
  have hinitY : kY.init = .initialized := Cond.initialized_spec (findClass_of_methodNamed hn) hkY h3
  have h : At U g.method c below := by rw [hg]; exact X.here
  have hlocals9 : W9 + (maxL + 11) + (headSpec ws rm).room.locals ≤ R.locals := hlocals
  have happ : (headSpec ws rm).appliesLoose y e.platform (U.calling g mk a) = true :=
    Spec.appliesLoose_calling (g := g) h hdg hn hkY hinitY
      (X.room_calling (g := g) (R' := (headSpec ws rm).room) hsize hmY hcY hframes (by rw [hlY]; omega) h4 h5) h1
  obtain ⟨mid, hmid⟩ := h.above
  have hfr : (U.setTop g).frames = (.java g :: mid) ++ below := by rw [State.frames_setTop' g h.top, hmid]; rfl
  obtain ⟨o, s₂, hsteps, -, hend, hq⟩ := Steps.callFree hM p X.admits X.cas X.clock (acts := []) hfr happ hPc trivial
  have hq' : vx_Q Qc XC mc ms free a (U.calling g mk a) o s₂ := hq
  rw [State.frames_setTop' g h.top] at hend
  obtain ⟨g₀, hg0⟩ := Option.isSome_iff_exists.mp h.top
  obtain ⟨r, hr⟩ := State.topJava?_eq_some.mp hg0
  have hr' : (({ U with heap := s₂.heap, slotsUsed := s₂.slotsUsed } : State).setVm s₂.vm).frames = .java g₀ :: r := hr
  rcases hq' with ⟨hqc, L, hfe, hL⟩ | ⟨q, rfl, E, ce, L, hx, hce, hcv, hcl, hW₂, hsm, hL⟩
  · obtain ⟨⟨v, rfl⟩, hW₂, e2, q2, q3, q4, q5, q6⟩ := id hfe
    have e3 : s₂ = ({ (U.calling g mk a).setFrames s₂.frames with heap := s₂.heap, slotsUsed := s₂.slotsUsed } : State).setVm s₂.vm := by
      have : s₂ = ({ s₂ with vm := (U.calling g mk a).vm } : State).setVm s₂.vm := rfl
      rw [e2] at this
      exact this
    obtain ⟨c₂, i₂, len₂, hc₂, hd₂, hf₂⟩ := hend
    have hW' : U.WarmedH s₂.vm := hW₂
    have hcc : c₂ = c := by
      have h1 : s₂.code? g.method = U.code? g.method := by
        rw [State.code?_eq, State.code?_eq, hW'.alike.method?]
      exact Option.some.inj (hc₂.symm.trans (h1.trans h.code))
    subst hcc
    have hlen : len₂ = len := by rw [hdg] at hd₂; cases hd₂; rfl
    subst hlen
    have hs₂ : s₂ = (({ U with heap := s₂.heap, slotsUsed := s₂.slotsUsed } : State).setVm s₂.vm).setTop { g with pc := g.pc + len₂, stack := v.toList ++ g.stack } := by
      refine e3.trans ?_
      rw [hf₂, State.calling_eq h.top, State.setFrames_setFrames, State.setTop_of_frames _ hr', hr]
      rfl
    have hsame : U.sameButNew ({ U with heap := s₂.heap, slotsUsed := s₂.slotsUsed } : State) L mc ms := by
      refine ⟨?_, q2, q3, q4, q5, q6⟩
      obtain ⟨t, ht, -⟩ := State.frames_cons hr
      show ({ U with heap := s₂.heap, slotsUsed := s₂.slotsUsed } : State) = { U.setFrames U.frames with heap := s₂.heap, slotsUsed := s₂.slotsUsed }
      rw [State.setFrames_self ht]
    subst hg
    refine Or.inl ⟨v, ⟨(({ U with heap := s₂.heap, slotsUsed := s₂.slotsUsed } : State).setVm s₂.vm), Ls ++ L, c0 + mc, s0 + ms⟩,
      ⟨X.admits, X.cas, X.clock, X.frames, X.room, X.hears, X.method, X.code, (X.here.setHeapUsed s₂.heap s₂.slotsUsed).setVm hW'.alike, X.tail, State.WarmedH.trans X.warmed hW', X.limits, X.bytes, X.same.trans (hsame.setVm s.vm)⟩,
      ⟨g, mk, s₂, L, rfl, rfl, hqc, rfl, hL, rfl, rfl⟩, ?_⟩
    show Steps p.tables e below _ ((({ U with heap := s₂.heap, slotsUsed := s₂.slotsUsed } : State).setVm s₂.vm).setTop { g with pc := g.pc + len₂, stack := v.toList ++ g.stack })
    rw [← hs₂]
    exact hsteps
  · obtain ⟨e2, q2, q3, q4, q5, q6⟩ := id hsm
    have e3 : s₂ = ({ (U.calling g mk a).setFrames s₂.frames with heap := s₂.heap, slotsUsed := s₂.slotsUsed } : State).setVm s₂.vm := by
      have : s₂ = ({ s₂ with vm := (U.calling g mk a).vm } : State).setVm s₂.vm := rfl
      rw [e2] at this
      exact this
    have hf₂ : s₂.frames = .throwing q :: .java g :: U.frames.tail := hend
    have hW' : U.WarmedH s₂.vm := hW₂
    have hs₂ : s₂ = ((({ U with heap := s₂.heap, slotsUsed := s₂.slotsUsed } : State).setVm s₂.vm).setTop g).pushFrame (.throwing q) := by
      refine e3.trans ?_
      rw [hf₂, State.calling_eq h.top, State.setFrames_setFrames, State.pushFrame, State.frames_setTop _ hr', State.setTop_of_frames _ hr', State.setFrames_setFrames, hr]
      rfl
    have hsame : U.sameButNew ({ U with heap := s₂.heap, slotsUsed := s₂.slotsUsed } : State) L mc ms := by
      refine ⟨?_, q2, q3, q4, q5, q6⟩
      obtain ⟨t, ht, -⟩ := State.frames_cons hr
      show ({ U with heap := s₂.heap, slotsUsed := s₂.slotsUsed } : State) = { U.setFrames U.frames with heap := s₂.heap, slotsUsed := s₂.slotsUsed }
      rw [State.setFrames_self ht]
    subst hg
    refine Or.inr ⟨q, ⟨(({ U with heap := s₂.heap, slotsUsed := s₂.slotsUsed } : State).setVm s₂.vm), Ls ++ L, c0 + mc, s0 + ms⟩,
      ⟨X.admits, X.cas, X.clock, X.frames, X.room, X.hears, X.method, X.code, (X.here.setHeapUsed s₂.heap s₂.slotsUsed).setVm hW'.alike, X.tail, State.WarmedH.trans X.warmed hW', X.limits, X.bytes, X.same.trans (hsame.setVm s.vm)⟩,
      ⟨g, mk, s₂, L, E, ce, rfl, rfl, hx, hce, hcv, hcl, rfl, hL, rfl, rfl⟩, ?_⟩
    show Steps p.tables e below _ (((({ U with heap := s₂.heap, slotsUsed := s₂.slotsUsed } : State).setVm s₂.vm).setTop g).pushFrame (.throwing q))
    rw [← hs₂]
    exact hsteps
end
variable {p : Program} {l : Launch} {e : Env} {R : Room} {s : State} {m : MethodId} {args : Array Value} {below : List Frame} {meth : Method} {c : Code} {T : State} {H : Heap} {locs : List Loc} {cells slots : Nat}
theorem vx_callVX (X : Stand p l e R s m args below meth c T locs cells slots) (hexec : p.tables.exec = Jvm.exec) {own C : String} {index : Nat} {y : MethodName} {bytes : ByteArray} {maxL : Nat} {ret : Option FieldType} {hh : List (Nat × Nat × Nat × Nat)}
    (hown : s.vm.findClass own = some m.cls) (hlink : (Cond.methodLink own index y).before args s = true) (hinst : (Cond.instanceMethod y).before args s = true) (hsel : (Cond.selects C y y).before args s = true)
    (hcode : (Cond.codeWith y bytes maxL ret hh).before args s = true) (hy : y.cls ≠ "java/lang/invoke/MethodHandle" ∧ y.cls ≠ "java/lang/invoke/VarHandle")
    {W9 : Nat} {Pre : Pt → Array Value → Prop} {Post : Pt → Array Value → Option Value → Pt → Prop} {PostX : Pt → Array Value → Addr → Pt → Prop} (hK : vx_Back l R p e below s args y 3 W9 Pre Post PostX)
    {b : Addr} {cellB : Cell} (hcell : T.heap[b]? = some cellB) (hobj : cellB.vm.isStatics = false) (hcls : s.vm.findClass C = some cellB.cls)
    {g : JFrame} (hg : g.method = m) (hsize : g.locals.size = c.maxLocals) {argsL rest : List Value} (hlen : ∀ sig, parseMethodDescriptor y.desc = some sig → argsL.length = sig.parameters.length)
    (hstack : g.stack = argsL.reverse ++ .ref b :: rest) (hW : 2 * g.monitorRoom + (rest.map fun v => v.category).sum ≤ W9) (hdg : decode c.code g.pc = .ok (.invokevirtual index, 3))
    (hpre : ∀ vm₁, s.WarmedH vm₁ → Pre ⟨T.setVm vm₁, locs, cells, slots⟩ (Value.ref b :: argsL).toArray) :
    (∃ (v : Option Value) (vm₁ : Vm) (B : Pt), s.WarmedH vm₁ ∧ Stand p l e R s m args below meth c B.U B.locs B.cells B.slots ∧ Post ⟨T.setVm vm₁, locs, cells, slots⟩ (Value.ref b :: argsL).toArray v B ∧
      ∀ target, Steps p.tables e below (B.U.setTop { g with pc := g.pc + 3, stack := v.toList ++ rest }) target → Steps p.tables e below (T.setTop g) target) ∨
    (∃ (q : Addr) (vm₁ : Vm) (B : Pt), s.WarmedH vm₁ ∧ Stand p l e R s m args below meth c B.U B.locs B.cells B.slots ∧ PostX ⟨T.setVm vm₁, locs, cells, slots⟩ (Value.ref b :: argsL).toArray q B ∧
      Steps p.tables e below (T.setTop g) ((B.U.setTop { g with stack := rest }).pushFrame (.throwing q))) := by
  obtain ⟨mk, methM, hnamed, hmethM, hstM, habM⟩ := Cond.instanceMethod_spec hinst
  obtain ⟨m8, methM', cM, hn8, hmethM', -, -, -, -, -, -, hsigM⟩ := Cond.codeWith_spec hcode
  cases Option.some.inj (hn8.symm.trans hnamed)
  cases hmethM.symm.trans hmethM'
  obtain ⟨c2, r2, m2, q1, q2, q3, q4, kP, hkP, hkPi⟩ := Cond.selects_spec hsel
  cases hcls.symm.trans q1
  cases (State.methodFound?_of_named hnamed hy).symm.trans q2
  cases hnamed.symm.trans q3
  have hselP : selectMethod e.platform s.vm cellB.cls mk = .method mk := by rw [Launch.admits_selectMethod X.admits]; exact q4
  obtain ⟨vm₁, X₁, hstep₁⟩ := X.invokevirtual hexec hown hlink hnamed hmethM hstM hkP hkPi hy (a := b) (cell := cellB) hcell
    (fun z h => by rw [h] at hobj; cases hobj) hselP hmethM habM hkP hkPi (g := g) hg (argsL := argsL) (rest := rest) (hlen _ hsigM) hstack hdg
  rcases hK m meth c ⟨T.setVm vm₁, locs, cells, slots⟩ { g with stack := rest } (.invokevirtual index) mk (Value.ref b :: argsL).toArray X₁ hg hsize hdg hW (X₁.named hnamed) (hpre vm₁ X₁.warmed) with ⟨v, B, X', hpost, hsteps⟩ | ⟨q, B, X', hpost, hsteps⟩
  · exact Or.inl ⟨v, vm₁, B, X₁.warmed, X', hpost, fun target h => hstep₁ _ fun acts => by rw [doInvoke_state]; exact hsteps.trans h⟩
  · exact Or.inr ⟨q, vm₁, B, X₁.warmed, X', hpost, hstep₁ _ fun acts => by rw [doInvoke_state]; exact hsteps⟩
theorem vx_callSX (X : Stand p l e R s m args below meth c T locs cells slots) (hexec : p.tables.exec = Jvm.exec) {own : String} {index : Nat} {y : MethodName} {bytes : ByteArray} {maxL : Nat} {ret : Option FieldType} {hh : List (Nat × Nat × Nat × Nat)}
    (hown : s.vm.findClass own = some m.cls) (hlink : (Cond.methodLink own index y).before args s = true) (hstat : (Cond.static y).before args s = true) (hinit : (Cond.initialized y.cls).before args s = true)
    (hcode : (Cond.codeWith y bytes maxL ret hh).before args s = true) (hy : y.cls ≠ "java/lang/invoke/MethodHandle" ∧ y.cls ≠ "java/lang/invoke/VarHandle")
    {W9 : Nat} {Pre : Pt → Array Value → Prop} {Post : Pt → Array Value → Option Value → Pt → Prop} {PostX : Pt → Array Value → Addr → Pt → Prop} (hK : vx_Back l R p e below s args y 3 W9 Pre Post PostX)
    {g : JFrame} (hg : g.method = m) (hsize : g.locals.size = c.maxLocals) {argsL rest : List Value} (hlen : ∀ sig, parseMethodDescriptor y.desc = some sig → argsL.length = sig.parameters.length)
    (hstack : g.stack = argsL.reverse ++ rest) (hW : 2 * g.monitorRoom + (rest.map fun v => v.category).sum ≤ W9) (hdg : decode c.code g.pc = .ok (.invokestatic index, 3))
    (hpre : ∀ vm₁, s.WarmedH vm₁ → Pre ⟨T.setVm vm₁, locs, cells, slots⟩ argsL.toArray) :
    (∃ (v : Option Value) (vm₁ : Vm) (B : Pt), s.WarmedH vm₁ ∧ Stand p l e R s m args below meth c B.U B.locs B.cells B.slots ∧ Post ⟨T.setVm vm₁, locs, cells, slots⟩ argsL.toArray v B ∧
      ∀ target, Steps p.tables e below (B.U.setTop { g with pc := g.pc + 3, stack := v.toList ++ rest }) target → Steps p.tables e below (T.setTop g) target) ∨
    (∃ (q : Addr) (vm₁ : Vm) (B : Pt), s.WarmedH vm₁ ∧ Stand p l e R s m args below meth c B.U B.locs B.cells B.slots ∧ PostX ⟨T.setVm vm₁, locs, cells, slots⟩ argsL.toArray q B ∧
      Steps p.tables e below (T.setTop g) ((B.U.setTop { g with stack := rest }).pushFrame (.throwing q))) := by
  obtain ⟨mk, methM, cM, hnamed, hmethM, -, -, -, -, -, -, hsigM⟩ := Cond.codeWith_spec hcode
  have hstatic : methM.isStatic = true := Cond.static_spec hnamed hmethM hstat
  obtain ⟨kP, hkP, -⟩ := className_of_methodNamed hnamed
  have hinitP : kP.init = .initialized := Cond.initialized_spec (findClass_of_methodNamed hnamed) hkP hinit
  obtain ⟨vm₁, X₁, hstep₁⟩ := X.invokestatic hexec hown hlink hnamed hmethM hstatic hkP hinitP hy (g := g) hg (argsL := argsL) (rest := rest) (hlen _ hsigM) hstack hdg
  rcases hK m meth c ⟨T.setVm vm₁, locs, cells, slots⟩ { g with stack := rest } (.invokestatic index) mk argsL.toArray X₁ hg hsize hdg hW (X₁.named hnamed) (hpre vm₁ X₁.warmed) with ⟨v, B, X', hpost, hsteps⟩ | ⟨q, B, X', hpost, hsteps⟩
  · exact Or.inl ⟨v, vm₁, B, X₁.warmed, X', hpost, fun target h => hstep₁ _ fun acts => by rw [doInvoke_state]; exact hsteps.trans h⟩
  · exact Or.inr ⟨q, vm₁, B, X₁.warmed, X', hpost, hstep₁ _ fun acts => by rw [doInvoke_state]; exact hsteps⟩
theorem vx_callVW (X : Stand p l e R s m args below meth c T locs cells slots) (hexec : p.tables.exec = Jvm.exec) {own C : String} {index : Nat} {y : MethodName} {bytes : ByteArray} {maxL : Nat} {ret : Option FieldType} {hh : List (Nat × Nat × Nat × Nat)}
    (hown : s.vm.findClass own = some m.cls) (hlink : (Cond.methodLink own index y).before args s = true) (hinst : (Cond.instanceMethod y).before args s = true) (hsel : (Cond.selects C y y).before args s = true)
    (hcode : (Cond.codeWith y bytes maxL ret hh).before args s = true) (hy : y.cls ≠ "java/lang/invoke/MethodHandle" ∧ y.cls ≠ "java/lang/invoke/VarHandle")
    {W9 : Nat} {Pre : Pt → Array Value → Prop} {Post : Pt → Array Value → Option Value → Pt → Prop} (hK : Back l R p e below s args y 3 W9 Pre Post)
    {b : Addr} {cellB : Cell} (hcell : T.heap[b]? = some cellB) (hobj : cellB.vm.isStatics = false) (hcls : s.vm.findClass C = some cellB.cls)
    {g : JFrame} (hg : g.method = m) (hsize : g.locals.size = c.maxLocals) {argsL rest : List Value} (hlen : ∀ sig, parseMethodDescriptor y.desc = some sig → argsL.length = sig.parameters.length)
    (hstack : g.stack = argsL.reverse ++ .ref b :: rest) (hW : 2 * g.monitorRoom + (rest.map fun v => v.category).sum ≤ W9) (hdg : decode c.code g.pc = .ok (.invokevirtual index, 3))
    (hpre : ∀ vm₁, s.WarmedH vm₁ → Pre ⟨T.setVm vm₁, locs, cells, slots⟩ (Value.ref b :: argsL).toArray) :
    ∃ (v : Option Value) (vm₁ : Vm) (B : Pt), s.WarmedH vm₁ ∧ Stand p l e R s m args below meth c B.U B.locs B.cells B.slots ∧ Post ⟨T.setVm vm₁, locs, cells, slots⟩ (Value.ref b :: argsL).toArray v B ∧
      ∀ target, Steps p.tables e below (B.U.setTop { g with pc := g.pc + 3, stack := v.toList ++ rest }) target → Steps p.tables e below (T.setTop g) target := by
  obtain ⟨mk, methM, hnamed, hmethM, hstM, habM⟩ := Cond.instanceMethod_spec hinst
  obtain ⟨m8, methM', cM, hn8, hmethM', -, -, -, -, -, -, hsigM⟩ := Cond.codeWith_spec hcode
  cases Option.some.inj (hn8.symm.trans hnamed)
  cases hmethM.symm.trans hmethM'
  obtain ⟨c2, r2, m2, q1, q2, q3, q4, kP, hkP, hkPi⟩ := Cond.selects_spec hsel
  cases hcls.symm.trans q1
  cases (State.methodFound?_of_named hnamed hy).symm.trans q2
  cases hnamed.symm.trans q3
  have hselP : selectMethod e.platform s.vm cellB.cls mk = .method mk := by rw [Launch.admits_selectMethod X.admits]; exact q4
  obtain ⟨vm₁, X₁, hstep₁⟩ := X.invokevirtual hexec hown hlink hnamed hmethM hstM hkP hkPi hy (a := b) (cell := cellB) hcell
    (fun z h => by rw [h] at hobj; cases hobj) hselP hmethM habM hkP hkPi (g := g) hg (argsL := argsL) (rest := rest) (hlen _ hsigM) hstack hdg
  obtain ⟨v, B, X', hpost, hsteps⟩ := hK m meth c ⟨T.setVm vm₁, locs, cells, slots⟩ { g with stack := rest } (.invokevirtual index) mk (Value.ref b :: argsL).toArray X₁ hg hsize hdg hW (X₁.named hnamed) (hpre vm₁ X₁.warmed)
  exact ⟨v, vm₁, B, X₁.warmed, X', hpost, fun target h => hstep₁ _ fun acts => by rw [doInvoke_state]; exact hsteps.trans h⟩
abbrev vx_CVW (R : Room) (s : State) (args : Array Value) (own C : String) (index : Nat) (y : MethodName) (bytes : ByteArray) (maxL : Nat) (ret : Option FieldType) (hh : List (Nat × Nat × Nat × Nat)) (ws : List Cond) (rm : Room) (mc ms n : Nat) : Prop :=
  (rm.cells = mc ∧ rm.slots = ms ∧ rm.frames + 1 ≤ R.frames ∧ 8 + (maxL + 11) + rm.locals ≤ R.locals ∧ (∀ w ∈ ws, ∀ (a' : Array Value) (U : State), s.WarmedH U.vm → w.before a' U = true) ∧ Cond.codeWith y bytes maxL ret hh ∈ ws) ∧
  (Cond.codeWith y bytes maxL ret hh).before args s = true ∧ (Cond.initialized y.cls).before args s = true ∧ (y.cls ≠ "java/lang/invoke/MethodHandle" ∧ y.cls ≠ "java/lang/invoke/VarHandle") ∧
  (∀ sig, parseMethodDescriptor y.desc = some sig → n = sig.parameters.length) ∧ (Cond.methodLink own index y).before args s = true ∧ (Cond.instanceMethod y).before args s = true ∧ (Cond.selects C y y).before args s = true
theorem vx_cwVW {own C : String} {index maxL mc ms : Nat} {y : MethodName} {bytes : ByteArray} {ret : Option FieldType} {hh : List (Nat × Nat × Nat × Nat)} {Ts ws ws' : List Cond} {rm : Room} (n : Nat) (ht : ∀ w ∈ Ts, w.before args s = true) (hT : GoodIn Ts (wsV own index C y ws)) (hw : ws = Cond.codeWith y bytes maxL ret hh :: ws') (hrc : rm.cells = mc) (hrs : rm.slots = ms)
    (hd : y.cls = C ∧ y.cls ≠ "java/lang/invoke/MethodHandle" ∧ y.cls ≠ "java/lang/invoke/VarHandle" ∧ (parseMethodDescriptor y.desc).map (fun d => d.parameters.length) = some n) (hR : rm.frames + 1 ≤ R.frames ∧ 8 + (maxL + 11) + rm.locals ≤ R.locals) :
    vx_CVW R s args own C index y bytes maxL ret hh ws rm mc ms n := by
  obtain ⟨hC, hd⟩ := hd
  subst hC
  have ok : ∀ w ∈ wsV own index y.cls y ws, w.before args s = true := fun w h => ht w (hT w h).1
  have hG : GoodIn Ts ws := fun w h => hT w (by unfold wsV; exact List.mem_append_right _ h)
  have hc : Cond.codeWith y bytes maxL ret hh ∈ ws := by rw [hw]; exact List.mem_cons_self
  refine ⟨⟨hrc, hrs, hR.1, hR.2, pay_in ht hG, hc⟩, ht _ (hG _ hc).1, ok _ (by simp [wsV]), ⟨hd.1, hd.2.1⟩, fun sig h => ?_, ok _ (by simp [wsV]), ok _ (by simp [wsV]), ok _ (by simp [wsV])⟩
  have h2 := hd.2.2
  rw [h] at h2
  exact (Option.some.inj h2).symm
theorem vx_runVW {y : MethodName} {bytes cc : ByteArray} {maxL nL mc ms n index : Nat} {ret : Option FieldType} {hh : List (Nat × Nat × Nat × Nat)} {ws : List Cond} {rm : Room} {Pc : Array Value → State → Prop} {Qc : Array Value → State → Outcome → State → Prop} {free : Addr → Prop} {Ts : List Cond} {own C : String} {b : Addr} {As rest : List Value} {g : JFrame}
    (S : CallFix p m c cc nL s args Ts own) (hM : Met l y ws rm Pc Qc mc ms free) (cw : vx_CVW R s args own C index y bytes maxL ret hh ws rm mc ms n) (hp : PreV s H C b Pc As)
    (hg : g.method = m) (hn : As.length = n) (hsize : g.locals.size = nL) (hstack : g.stack = As.reverse ++ .ref b :: rest) (hW : 2 * g.monitorRoom + (rest.map fun v => v.category).sum ≤ 8) (hdg : decode cc g.pc = .ok (.invokevirtual index, 3)) (hf : cells + mc ≤ R.cells ∧ slots + ms ≤ R.slots) :
    va_Run p l e R s m args below meth c H locs cells slots mc ms g rest (Qc (Value.ref b :: As).toArray) free := by
  obtain ⟨⟨hrc, hrs, hfr, hlo, hws, hcw⟩, hcode, hini, hy, hlen, hl, hin, hse⟩ := cw
  have hK : Back l R p e below s args y 3 8 (PreOf R mc ms Pc) (PostOf Qc mc ms free) := va_backW (hh := hh) (bytes := bytes) (maxL := maxL) (ret := ret) hM hp.1 hrc hrs hfr hlo hws hcw (fun a' U hW => word_at hW (Or.inl (by first | rfl | simp [Cond.onTables, Cond.keeps, Cond.steady])) hini)
  obtain ⟨hx, hb, hml, ho, -⟩ := S
  obtain ⟨-, ⟨cellB, hcB, hoB, hclB⟩, hPc⟩ := hp
  intro T hT X
  obtain ⟨v, vm₁, ⟨U', l2, c2, s2⟩, hW₁, X', ⟨g', mk, t, L, e1, e2, hq, h1, hL, h2, h3⟩, st⟩ := vx_callVW X hx (C := C) (hh := hh) (bytes := bytes) (maxL := maxL) (ret := ret) ho hl hin hse hcode hy hK (by rw [hT]; exact hcB) hoB hclB hg (hsize.trans hml.symm) (argsL := As) (rest := rest) (fun sig h => hn.trans (hlen sig h)) hstack hW (by rw [hb]; exact hdg)
    (fun vm₁ hW₁ => ⟨hf.1, hf.2, hPc (T.setVm vm₁) hT hW₁⟩)
  dsimp only [Pt.U, Pt.locs, Pt.cells, Pt.slots] at X' e1 e2 h1 h2 h3 st
  subst h1; subst h2; subst h3
  exact ⟨v, (T.setVm vm₁).calling g' mk (Value.ref b :: As).toArray, t, U', L, hT, X', hL, e1, e2, hq, st⟩
section
variable {y : MethodName} {bytes cc : ByteArray} {maxL nL mc ms n index : Nat} {ret : Option FieldType} {ws : List Cond} {rm : Room} {Pc : Array Value → State → Prop} {Qc : Array Value → State → Outcome → State → Prop} {XC : String → State → State → Prop} {free : Addr → Prop} {Ts : List Cond} {own C : String} {b : Addr} {As rest : List Value} {g : JFrame}
theorem vx_runVX {hh : List (Nat × Nat × Nat × Nat)} (S : CallFix p m c cc nL s args Ts own) (hM : vx_Met l y ws rm Pc Qc XC mc ms free) (cw : vx_CVW R s args own C index y bytes maxL ret hh ws rm mc ms n) (hp : PreV s H C b Pc As)
    (hg : g.method = m) (hn : As.length = n) (hsize : g.locals.size = nL) (hstack : g.stack = As.reverse ++ .ref b :: rest) (hW : 2 * g.monitorRoom + (rest.map fun v => v.category).sum ≤ 8) (hdg : decode cc g.pc = .ok (.invokevirtual index, 3)) (hf : cells + mc ≤ R.cells ∧ slots + ms ≤ R.slots) :
    vx_Run p l e R s m args below meth c H locs cells slots mc ms g rest (Qc (Value.ref b :: As).toArray) XC free := by
  obtain ⟨⟨hrc, hrs, hfr, hlo, hws, hcw⟩, hcode, hini, hy, hlen, hl, hin, hse⟩ := cw
  have hK : vx_Back l R p e below s args y 3 8 (PreOf R mc ms Pc) (PostOf Qc mc ms free) (vx_Post XC mc ms free) := vx_backW (hh := hh) (bytes := bytes) (maxL := maxL) (ret := ret) hM hp.1 hrc hrs hfr hlo hws hcw (fun a' U hW => word_at hW (Or.inl (by first | rfl | simp [Cond.onTables, Cond.keeps, Cond.steady])) hini)
  obtain ⟨hx, hb, hml, ho, -⟩ := S
  obtain ⟨-, ⟨cellB, hcB, hoB, hclB⟩, hPc⟩ := hp
  intro T hT X
  rcases vx_callVX X hx (C := C) (hh := hh) (bytes := bytes) (maxL := maxL) (ret := ret) ho hl hin hse hcode hy hK (by rw [hT]; exact hcB) hoB hclB hg (hsize.trans hml.symm) (argsL := As) (rest := rest) (fun sig h => hn.trans (hlen sig h)) hstack hW (by rw [hb]; exact hdg)
    (fun vm₁ hW₁ => ⟨hf.1, hf.2, hPc (T.setVm vm₁) hT hW₁⟩) with ⟨v, vm₁, ⟨U', l2, c2, s2⟩, hW₁, X', ⟨g', mk, t, L, e1, e2, hq, h1, hL, h2, h3⟩, st⟩ | ⟨q, vm₁, ⟨U', l2, c2, s2⟩, hW₁, X', ⟨g', mk, t, L, E, ce, e1, e2, hq, hce, hcv, hcl, h1, hL, h2, h3⟩, st⟩
  · dsimp only [Pt.U, Pt.locs, Pt.cells, Pt.slots] at X' e1 e2 h1 h2 h3 st
    subst h1; subst h2; subst h3
    exact Or.inl ⟨v, (T.setVm vm₁).calling g' mk (Value.ref b :: As).toArray, t, U', L, hT, X', hL, e1, e2, hq, st⟩
  · dsimp only [Pt.U, Pt.locs, Pt.cells, Pt.slots] at X' e1 e2 h1 h2 h3 st hcl
    subst h1; subst h2; subst h3
    exact Or.inr ⟨q, (T.setVm vm₁).calling g' mk (Value.ref b :: As).toArray, t, U', L, E, ce, hT, X', hL, e1, e2, hq, hce, hcv, vx_cls hW₁ hcl, st⟩
theorem vx_runSX {hh : List (Nat × Nat × Nat × Nat)} (S : CallFix p m c cc nL s args Ts own) (hM : vx_Met l y ws rm Pc Qc XC mc ms free) (cw : vx_CSW R s args own index y bytes maxL ret hh ws rm mc ms n) (hp : PreS s H Pc As)
    (hg : g.method = m) (hn : As.length = n) (hsize : g.locals.size = nL) (hstack : g.stack = As.reverse ++ rest) (hW : 2 * g.monitorRoom + (rest.map fun v => v.category).sum ≤ 8) (hdg : decode cc g.pc = .ok (.invokestatic index, 3)) (hf : cells + mc ≤ R.cells ∧ slots + ms ≤ R.slots) :
    vx_Run p l e R s m args below meth c H locs cells slots mc ms g rest (Qc As.toArray) XC free := by
  obtain ⟨⟨hrc, hrs, hfr, hlo, hws, hcw⟩, hcode, hini, hy, hlen, hl, hstt⟩ := cw
  have hK : vx_Back l R p e below s args y 3 8 (PreOf R mc ms Pc) (PostOf Qc mc ms free) (vx_Post XC mc ms free) := vx_backW (hh := hh) (bytes := bytes) (maxL := maxL) (ret := ret) hM hp.1 hrc hrs hfr hlo hws hcw (fun a' U hW => word_at hW (Or.inl (by first | rfl | simp [Cond.onTables, Cond.keeps, Cond.steady])) hini)
  obtain ⟨hx, hb, hml, ho, -⟩ := S
  intro T hT X
  rcases vx_callSX X hx (hh := hh) (bytes := bytes) (maxL := maxL) (ret := ret) ho hl hstt hini hcode hy hK hg (hsize.trans hml.symm) (argsL := As) (rest := rest) (fun sig h => hn.trans (hlen sig h)) hstack hW (by rw [hb]; exact hdg)
    (fun vm₁ hW₁ => ⟨hf.1, hf.2, hp.2 (T.setVm vm₁) hT hW₁⟩) with ⟨v, vm₁, ⟨U', l2, c2, s2⟩, hW₁, X', ⟨g', mk, t, L, e1, e2, hq, h1, hL, h2, h3⟩, st⟩ | ⟨q, vm₁, ⟨U', l2, c2, s2⟩, hW₁, X', ⟨g', mk, t, L, E, ce, e1, e2, hq, hce, hcv, hcl, h1, hL, h2, h3⟩, st⟩
  · dsimp only [Pt.U, Pt.locs, Pt.cells, Pt.slots] at X' e1 e2 h1 h2 h3 st
    subst h1; subst h2; subst h3
    exact Or.inl ⟨v, (T.setVm vm₁).calling g' mk As.toArray, t, U', L, hT, X', hL, e1, e2, hq, st⟩
  · dsimp only [Pt.U, Pt.locs, Pt.cells, Pt.slots] at X' e1 e2 h1 h2 h3 st hcl
    subst h1; subst h2; subst h3
    exact Or.inr ⟨q, (T.setVm vm₁).calling g' mk As.toArray, t, U', L, E, ce, hT, X', hL, e1, e2, hq, hce, hcv, vx_cls hW₁ hcl, st⟩
end
end VXH
theorem vx_ofWH {l : Launch} {y : MethodName} {ws ws' : List Cond} {rm : Room} {Pc : Array Value → State → Prop} {Qc : Array Value → State → Outcome → State → Prop} {XC : String → State → State → Prop} {mc ms : Nat} {free : Addr → Prop} {cc : ByteArray} {maxL : Nat} {ret : Option FieldType} {hh : List (Nat × Nat × Nat × Nat)}
    (hy : plainName y.cls = true) (hw : ws = Cond.codeWith y cc maxL ret hh :: ws')
    (body : ∀ p e s m args below meth c s₁, BodyLoose p l y (headSpec ws rm) cc maxL ret e s m args below meth c s₁ → c.maxLocals = maxL → Pc args s →
      W p l e (headSpec ws rm).room s m args below meth c s.heap [] 0 0 (vx_MQ below Qc XC args s mc ms free) (entryFrame m args maxL)) : vx_Met l y ws rm Pc Qc XC mc ms free := by
  refine MetFree.of_bodyS (code := cc) (maxLocals := maxL) (ret := ret) hy ?_ ?_
  · intro args s m h hn
    obtain ⟨m9, meth, c, hn9, h1, h2, h3, h4, -, h5, h6, -⟩ := Cond.codeWith_spec (atoms_spec (ws := ws) h _ (by rw [hw]; exact List.mem_cons_self))
    cases hn.symm.trans hn9
    exact ⟨meth, c, h1, h2, h3, h4, h5, h6⟩
  · intro p e s m args below meth c s₁ B hml hP _
    have hh0 : s₁.heap = s.heap := by rw [B.state]; rfl
    obtain ⟨t, a1, o, b1, b2, b3⟩ := body p e s m args below meth c s₁ B hml hP s₁ hh0 (Stand.of_body B)
    exact ⟨t, o, a1, b1, b2, b3⟩
/-! ===== END ===== -/
end
section
/-! ===== BEGIN printed: names, fields, word lists, decode rows ===== -/
def RX0 : String := "RateGate$CallLog"
def TX0 : u_T := fun k => match k with
  | 0 => ("RateGate$CallLog", "total", "I", false)
  | 1 => ("RateGate$CallLog", "shippers", "[I", true)
  | 2 => ("RateGate$CallLog", "minutes", "[I", true)
  | 3 => ("RateGate$CallLog", "areLimited", "[Z", true)
  | 4 => ("RateGate$CallLog", "kept", "I", false)
  | _ => ("RateGate$CallLog", "next", "I", false)
def tyX0 : Nat → FieldType := fun k => match k with
  | 0 => .int
  | 1 => .array .int
  | 2 => .array .int
  | 3 => .array .boolean
  | 4 => .int
  | _ => .int
abbrev wsX00 : List Cond := u_ws RX0 TX0 6
theorem nmX0 : ∀ a, a < 6 → ∀ b, b < 6 → a ≠ b → (TX0 a).2.1 ≠ (TX0 b).2.1 := by decide +kernel
theorem tyX0_ok : ∀ k, k < 6 → parseFieldDescriptor (TX0 k).2.2.1 = some (tyX0 k) := by decide +kernel
abbrev cX0_init : ByteArray := prog_2_method_1_code
def yX0_init : MethodName := ⟨RX0, "<init>", "()V"⟩
abbrev cX0_add : ByteArray := prog_2_method_2_code
def yX0_add : MethodName := ⟨RX0, "add", "(IIZ)V"⟩
abbrev cX0_countBehind : ByteArray := prog_2_method_3_code
def yX0_countBehind : MethodName := ⟨RX0, "countBehind", "(II)I"⟩
def RX1 : String := "RateGate$Carrier"
def TX1 : u_T := fun k => match k with
  | 0 => ("RateGate$Carrier", "isUp", "Z", false)
  | 1 => ("RateGate$Carrier", "flaw", "I", false)
  | 2 => ("RateGate$Carrier", "triesHad", "I", false)
  | 3 => ("RateGate$Carrier", "rates", "LRateGate$Tariff;", false)
  | 4 => ("RateGate$Carrier", "failsInRow", "I", false)
  | 5 => ("RateGate$Carrier", "hasOpened", "Z", false)
  | _ => ("RateGate$Carrier", "openEnd", "I", false)
def tyX1 : Nat → FieldType := fun k => match k with
  | 0 => .boolean
  | 1 => .int
  | 2 => .int
  | 3 => .object "RateGate$Tariff"
  | 4 => .int
  | 5 => .boolean
  | _ => .int
abbrev wsX10 : List Cond := u_ws RX1 TX1 7
theorem nmX1 : ∀ a, a < 7 → ∀ b, b < 7 → a ≠ b → (TX1 a).2.1 ≠ (TX1 b).2.1 := by decide +kernel
theorem tyX1_ok : ∀ k, k < 7 → parseFieldDescriptor (TX1 k).2.2.1 = some (tyX1 k) := by decide +kernel
abbrev cX1_init : ByteArray := prog_3_method_1_code
def yX1_init : MethodName := ⟨RX1, "<init>", "()V"⟩
abbrev cX1_circuitAt : ByteArray := prog_3_method_2_code
def yX1_circuitAt : MethodName := ⟨RX1, "circuitAt", "(I)I"⟩
abbrev cX1_answersAt : ByteArray := prog_3_method_3_code
def yX1_answersAt : MethodName := ⟨RX1, "answersAt", "(I)Z"⟩
abbrev cX1_succeedsAt : ByteArray := prog_3_method_4_code
def yX1_succeedsAt : MethodName := ⟨RX1, "succeedsAt", "(I)Z"⟩
def RX2 : String := "RateGate$Parcel"
def TX2 : u_T := fun k => match k with
  | 0 => ("RateGate$Parcel", "quote", "LRateGate$Quote;", true)
  | 1 => ("RateGate$Parcel", "bookedAt", "I", true)
  | 2 => ("RateGate$Parcel", "amount", "I", false)
  | _ => ("RateGate$Parcel", "stage", "I", false)
def tyX2 : Nat → FieldType := fun k => match k with
  | 0 => .object "RateGate$Quote"
  | 1 => .int
  | 2 => .int
  | _ => .int
abbrev wsX20 : List Cond := u_ws RX2 TX2 4
theorem nmX2 : ∀ a, a < 4 → ∀ b, b < 4 → a ≠ b → (TX2 a).2.1 ≠ (TX2 b).2.1 := by decide +kernel
theorem tyX2_ok : ∀ k, k < 4 → parseFieldDescriptor (TX2 k).2.2.1 = some (tyX2 k) := by decide +kernel
abbrev cX2_init : ByteArray := prog_4_method_1_code
def yX2_init : MethodName := ⟨RX2, "<init>", "(LRateGate$Quote;II)V"⟩
abbrev cX2_isSettledAt : ByteArray := prog_4_method_2_code
def yX2_isSettledAt : MethodName := ⟨RX2, "isSettledAt", "(I)Z"⟩
abbrev cX2_isDueFrom : ByteArray := prog_4_method_3_code
def yX2_isDueFrom : MethodName := ⟨RX2, "isDueFrom", "(II)Z"⟩
def RX3 : String := "RateGate$Quote"
def TX3 : u_T := fun k => match k with
  | 0 => ("RateGate$Quote", "shipper", "I", true)
  | 1 => ("RateGate$Quote", "carrier", "I", true)
  | 2 => ("RateGate$Quote", "from", "I", true)
  | 3 => ("RateGate$Quote", "to", "I", true)
  | 4 => ("RateGate$Quote", "grams", "I", true)
  | 5 => ("RateGate$Quote", "isExpress", "Z", true)
  | 6 => ("RateGate$Quote", "rates", "LRateGate$Tariff;", true)
  | _ => ("RateGate$Quote", "end", "I", true)
def tyX3 : Nat → FieldType := fun k => match k with
  | 0 => .int
  | 1 => .int
  | 2 => .int
  | 3 => .int
  | 4 => .int
  | 5 => .boolean
  | 6 => .object "RateGate$Tariff"
  | _ => .int
abbrev wsX30 : List Cond := u_ws RX3 TX3 8
theorem nmX3 : ∀ a, a < 8 → ∀ b, b < 8 → a ≠ b → (TX3 a).2.1 ≠ (TX3 b).2.1 := by decide +kernel
theorem tyX3_ok : ∀ k, k < 8 → parseFieldDescriptor (TX3 k).2.2.1 = some (tyX3 k) := by decide +kernel
abbrev cX3_init : ByteArray := prog_5_method_1_code
def yX3_init : MethodName := ⟨RX3, "<init>", "(LRateGate$Request;LRateGate$Tariff;I)V"⟩
abbrev cX3_isFixedAt : ByteArray := prog_5_method_2_code
def yX3_isFixedAt : MethodName := ⟨RX3, "isFixedAt", "(I)Z"⟩
abbrev cX3_isOnLaneOf : ByteArray := prog_5_method_3_code
def yX3_isOnLaneOf : MethodName := ⟨RX3, "isOnLaneOf", "(LRateGate$Request;)Z"⟩
abbrev cX3_priceBy : ByteArray := prog_5_method_4_code
def yX3_priceBy : MethodName := ⟨RX3, "priceBy", "(LRateGate$Tariff;I)I"⟩
def RX4 : String := "RateGate$Request"
def TX4 : u_T := fun k => match k with
  | 0 => ("RateGate$Request", "signs", "[C", true)
  | 1 => ("RateGate$Request", "values", "[I", true)
  | 2 => ("RateGate$Request", "length", "I", false)
  | 3 => ("RateGate$Request", "faultWord", "Ljava/lang/String;", false)
  | _ => ("RateGate$Request", "faultKey", "C", false)
def tyX4 : Nat → FieldType := fun k => match k with
  | 0 => .array .char
  | 1 => .array .int
  | 2 => .int
  | 3 => .object "java/lang/String"
  | _ => .char
abbrev wsX40 : List Cond := u_ws RX4 TX4 5
theorem nmX4 : ∀ a, a < 5 → ∀ b, b < 5 → a ≠ b → (TX4 a).2.1 ≠ (TX4 b).2.1 := by decide +kernel
theorem tyX4_ok : ∀ k, k < 5 → parseFieldDescriptor (TX4 k).2.2.1 = some (tyX4 k) := by decide +kernel
abbrev cX4_init : ByteArray := prog_6_method_1_code
def yX4_init : MethodName := ⟨RX4, "<init>", "()V"⟩
abbrev cX4_isTypable : ByteArray := prog_6_method_2_code
def yX4_isTypable : MethodName := ⟨RX4, "isTypable", "(C)Z"⟩
abbrev cX4_isFull : ByteArray := prog_6_method_3_code
def yX4_isFull : MethodName := ⟨RX4, "isFull", "()Z"⟩
abbrev cX4_append : ByteArray := prog_6_method_4_code
def yX4_append : MethodName := ⟨RX4, "append", "(C)I"⟩
abbrev cX4_empty : ByteArray := prog_6_method_5_code
def yX4_empty : MethodName := ⟨RX4, "empty", "()I"⟩
abbrev cX4_faultText : ByteArray := prog_6_method_6_code
def yX4_faultText : MethodName := ⟨RX4, "faultText", "()Ljava/lang/String;"⟩
abbrev cX4_valueOf : ByteArray := prog_6_method_7_code
def yX4_valueOf : MethodName := ⟨RX4, "valueOf", "(I)I"⟩
abbrev cX4_readText : ByteArray := prog_6_method_8_code
def yX4_readText : MethodName := ⟨RX4, "readText", "()V"⟩
abbrev cX4_endOfPart : ByteArray := prog_6_method_9_code
def yX4_endOfPart : MethodName := ⟨RX4, "endOfPart", "(I)I"⟩
abbrev cX4_readPart : ByteArray := prog_6_method_10_code
def yX4_readPart : MethodName := ⟨RX4, "readPart", "(III)V"⟩
abbrev cX4_keyIn : ByteArray := prog_6_method_11_code
def yX4_keyIn : MethodName := ⟨RX4, "keyIn", "(II)I"⟩
abbrev cX4_readValue : ByteArray := prog_6_method_12_code
def yX4_readValue : MethodName := ⟨RX4, "readValue", "(III)I"⟩
abbrev cX4_readDigit : ByteArray := prog_6_method_13_code
def yX4_readDigit : MethodName := ⟨RX4, "readDigit", "(III)I"⟩
abbrev cX4_readWeight : ByteArray := prog_6_method_14_code
def yX4_readWeight : MethodName := ⟨RX4, "readWeight", "(II)I"⟩
abbrev cX4_readExpress : ByteArray := prog_6_method_15_code
def yX4_readExpress : MethodName := ⟨RX4, "readExpress", "(II)I"⟩
abbrev cX4_findMissingKey : ByteArray := prog_6_method_16_code
def yX4_findMissingKey : MethodName := ⟨RX4, "findMissingKey", "()V"⟩
abbrev cX4_setFault : ByteArray := prog_6_method_17_code
def yX4_setFault : MethodName := ⟨RX4, "setFault", "(Ljava/lang/String;C)V"⟩
abbrev cX4_signAt : ByteArray := prog_6_method_18_code
def yX4_signAt : MethodName := ⟨RX4, "signAt", "(I)C"⟩
abbrev cX4_isDigit : ByteArray := prog_6_method_19_code
def yX4_isDigit : MethodName := ⟨RX4, "isDigit", "(C)Z"⟩
def RX5 : String := "RateGate$Shipper"
def TX5 : u_T := fun k => match k with
  | 0 => ("RateGate$Shipper", "quotaCalls", "I", false)
  | 1 => ("RateGate$Shipper", "quotaMinutes", "I", false)
  | 2 => ("RateGate$Shipper", "callCosts", "I", false)
  | 3 => ("RateGate$Shipper", "allBills", "I", false)
  | 4 => ("RateGate$Shipper", "lastMinutes", "[I", true)
  | 5 => ("RateGate$Shipper", "kept", "I", false)
  | _ => ("RateGate$Shipper", "next", "I", false)
def tyX5 : Nat → FieldType := fun k => match k with
  | 0 => .int
  | 1 => .int
  | 2 => .int
  | 3 => .int
  | 4 => .array .int
  | 5 => .int
  | _ => .int
abbrev wsX50 : List Cond := u_ws RX5 TX5 7
theorem nmX5 : ∀ a, a < 7 → ∀ b, b < 7 → a ≠ b → (TX5 a).2.1 ≠ (TX5 b).2.1 := by decide +kernel
theorem tyX5_ok : ∀ k, k < 7 → parseFieldDescriptor (TX5 k).2.2.1 = some (tyX5 k) := by decide +kernel
abbrev cX5_init : ByteArray := prog_7_method_1_code
def yX5_init : MethodName := ⟨RX5, "<init>", "()V"⟩
abbrev cX5_callsLeft : ByteArray := prog_7_method_2_code
def yX5_callsLeft : MethodName := ⟨RX5, "callsLeft", "(I)I"⟩
abbrev cX5_keepCall : ByteArray := prog_7_method_3_code
def yX5_keepCall : MethodName := ⟨RX5, "keepCall", "(I)V"⟩
def RX6 : String := "RateGate$Tariff"
def TX6 : u_T := fun k => match k with
  | 0 => ("RateGate$Tariff", "base", "I", true)
  | 1 => ("RateGate$Tariff", "perZone", "I", true)
  | _ => ("RateGate$Tariff", "perWeight", "I", true)
def tyX6 : Nat → FieldType := fun k => match k with
  | 0 => .int
  | 1 => .int
  | _ => .int
abbrev wsX60 : List Cond := u_ws RX6 TX6 3
theorem nmX6 : ∀ a, a < 3 → ∀ b, b < 3 → a ≠ b → (TX6 a).2.1 ≠ (TX6 b).2.1 := by decide +kernel
theorem tyX6_ok : ∀ k, k < 3 → parseFieldDescriptor (TX6 k).2.2.1 = some (tyX6 k) := by decide +kernel
abbrev cX6_init : ByteArray := prog_8_method_1_code
def yX6_init : MethodName := ⟨RX6, "<init>", "(III)V"⟩
def RX7 : String := "RateGate"
def TX7 : u_T := fun k => match k with
  | 0 => ("RateGate", "request", "LRateGate$Request;", true)
  | 1 => ("RateGate", "log", "LRateGate$CallLog;", true)
  | 2 => ("RateGate", "shippers", "[LRateGate$Shipper;", true)
  | 3 => ("RateGate", "carriers", "[LRateGate$Carrier;", true)
  | 4 => ("RateGate", "quotes", "Ljava/util/List;", true)
  | 5 => ("RateGate", "parcels", "Ljava/util/List;", true)
  | _ => ("RateGate", "now", "I", false)
def tyX7 : Nat → FieldType := fun k => match k with
  | 0 => .object "RateGate$Request"
  | 1 => .object "RateGate$CallLog"
  | 2 => .array (.object "RateGate$Shipper")
  | 3 => .array (.object "RateGate$Carrier")
  | 4 => .object "java/util/List"
  | 5 => .object "java/util/List"
  | _ => .int
abbrev wsX70 : List Cond := u_ws RX7 TX7 7
theorem nmX7 : ∀ a, a < 7 → ∀ b, b < 7 → a ≠ b → (TX7 a).2.1 ≠ (TX7 b).2.1 := by decide +kernel
theorem tyX7_ok : ∀ k, k < 7 → parseFieldDescriptor (TX7 k).2.2.1 = some (tyX7 k) := by decide +kernel
abbrev cX7_init : ByteArray := prog_1_method_1_code
def yX7_init : MethodName := ⟨RX7, "<init>", "()V"⟩
abbrev cX7_type : ByteArray := prog_1_method_2_code
def yX7_type : MethodName := ⟨RX7, "type", "(C)I"⟩
abbrev cX7_wipe : ByteArray := prog_1_method_3_code
def yX7_wipe : MethodName := ⟨RX7, "wipe", "()I"⟩
abbrev cX7_isRight : ByteArray := prog_1_method_4_code
def yX7_isRight : MethodName := ⟨RX7, "isRight", "()Z"⟩
abbrev cX7_faultLength : ByteArray := prog_1_method_5_code
def yX7_faultLength : MethodName := ⟨RX7, "faultLength", "()I"⟩
abbrev cX7_fault : ByteArray := prog_1_method_6_code
def yX7_fault : MethodName := ⟨RX7, "fault", "(I)C"⟩
abbrev cX7_pass : ByteArray := prog_1_method_7_code
def yX7_pass : MethodName := ⟨RX7, "pass", "(I)I"⟩
abbrev cX7_quota : ByteArray := prog_1_method_8_code
def yX7_quota : MethodName := ⟨RX7, "quota", "(III)I"⟩
abbrev cX7_carrier : ByteArray := prog_1_method_9_code
def yX7_carrier : MethodName := ⟨RX7, "carrier", "(IZI)I"⟩
abbrev cX7_tariff : ByteArray := prog_1_method_10_code
def yX7_tariff : MethodName := ⟨RX7, "tariff", "(IIII)I"⟩
abbrev cX7_call : ByteArray := prog_1_method_11_code
def yX7_call : MethodName := ⟨RX7, "call", "()I"⟩
abbrev cX7_price : ByteArray := prog_1_method_12_code
def yX7_price : MethodName := ⟨RX7, "price", "(I)I"⟩
abbrev cX7_fixed : ByteArray := prog_1_method_13_code
def yX7_fixed : MethodName := ⟨RX7, "fixed", "(I)I"⟩
abbrev cX7_left : ByteArray := prog_1_method_14_code
def yX7_left : MethodName := ⟨RX7, "left", "(I)I"⟩
abbrev cX7_leftByLog : ByteArray := prog_1_method_15_code
def yX7_leftByLog : MethodName := ⟨RX7, "leftByLog", "(I)I"⟩
abbrev cX7_circuit : ByteArray := prog_1_method_16_code
def yX7_circuit : MethodName := ⟨RX7, "circuit", "(I)I"⟩
abbrev cX7_tries : ByteArray := prog_1_method_17_code
def yX7_tries : MethodName := ⟨RX7, "tries", "(I)I"⟩
abbrev cX7_calls : ByteArray := prog_1_method_18_code
def yX7_calls : MethodName := ⟨RX7, "calls", "()I"⟩
abbrev cX7_book : ByteArray := prog_1_method_19_code
def yX7_book : MethodName := ⟨RX7, "book", "(I)I"⟩
abbrev cX7_weigh : ByteArray := prog_1_method_20_code
def yX7_weigh : MethodName := ⟨RX7, "weigh", "(II)I"⟩
abbrev cX7_cancel : ByteArray := prog_1_method_21_code
def yX7_cancel : MethodName := ⟨RX7, "cancel", "(I)I"⟩
abbrev cX7_state : ByteArray := prog_1_method_22_code
def yX7_state : MethodName := ⟨RX7, "state", "(I)I"⟩
abbrev cX7_cost : ByteArray := prog_1_method_23_code
def yX7_cost : MethodName := ⟨RX7, "cost", "(I)I"⟩
abbrev cX7_bill : ByteArray := prog_1_method_24_code
def yX7_bill : MethodName := ⟨RX7, "bill", "(I)I"⟩
abbrev cX7_close : ByteArray := prog_1_method_25_code
def yX7_close : MethodName := ⟨RX7, "close", "(I)I"⟩
abbrev cX7_billed : ByteArray := prog_1_method_26_code
def yX7_billed : MethodName := ⟨RX7, "billed", "(I)I"⟩
abbrev cX7_isWithin : ByteArray := prog_1_method_27_code
def yX7_isWithin : MethodName := ⟨RX7, "isWithin", "(III)Z"⟩
abbrev cX7_shipperAt : ByteArray := prog_1_method_28_code
def yX7_shipperAt : MethodName := ⟨RX7, "shipperAt", "(I)LRateGate$Shipper;"⟩
abbrev cX7_carrierAt : ByteArray := prog_1_method_29_code
def yX7_carrierAt : MethodName := ⟨RX7, "carrierAt", "(I)LRateGate$Carrier;"⟩
abbrev cX7_quoteAt : ByteArray := prog_1_method_30_code
def yX7_quoteAt : MethodName := ⟨RX7, "quoteAt", "(I)LRateGate$Quote;"⟩
abbrev cX7_parcelAt : ByteArray := prog_1_method_31_code
def yX7_parcelAt : MethodName := ⟨RX7, "parcelAt", "(I)LRateGate$Parcel;"⟩
abbrev cX7_answerTo : ByteArray := prog_1_method_32_code
def yX7_answerTo : MethodName := ⟨RX7, "answerTo", "(LRateGate$Shipper;LRateGate$Carrier;)I"⟩
abbrev cX7_quoteFixingRequest : ByteArray := prog_1_method_33_code
def yX7_quoteFixingRequest : MethodName := ⟨RX7, "quoteFixingRequest", "()LRateGate$Quote;"⟩
abbrev cX7_addQuote : ByteArray := prog_1_method_34_code
def yX7_addQuote : MethodName := ⟨RX7, "addQuote", "(LRateGate$Tariff;I)I"⟩
abbrev cX7_dueParcelCosts : ByteArray := prog_1_method_35_code
def yX7_dueParcelCosts : MethodName := ⟨RX7, "dueParcelCosts", "(I)I"⟩
abbrev cX7_markDueParcels : ByteArray := prog_1_method_36_code
def yX7_markDueParcels : MethodName := ⟨RX7, "markDueParcels", "(I)V"⟩
def RX8 : String := "RateGateModel"
def TX8 : u_T := fun k => match k with
  | 0 => ("RateGateModel", "thrown", "I", false)
  | 1 => ("RateGateModel", "now", "I", false)
  | 2 => ("RateGateModel", "text", "[C", true)
  | 3 => ("RateGateModel", "length", "I", false)
  | 4 => ("RateGateModel", "keys", "[C", true)
  | 5 => ("RateGateModel", "words", "[C", true)
  | 6 => ("RateGateModel", "values", "[I", true)
  | 7 => ("RateGateModel", "fault", "I", false)
  | 8 => ("RateGateModel", "faultAt", "I", false)
  | 9 => ("RateGateModel", "told", "[C", true)
  | 10 => ("RateGateModel", "toldLength", "I", false)
  | 11 => ("RateGateModel", "quota", "[I", true)
  | 12 => ("RateGateModel", "window", "[I", true)
  | 13 => ("RateGateModel", "isDown", "[Z", true)
  | 14 => ("RateGateModel", "flaw", "[I", true)
  | 15 => ("RateGateModel", "tries", "[I", true)
  | 16 => ("RateGateModel", "fails", "[I", true)
  | 17 => ("RateGateModel", "isShut", "[Z", true)
  | 18 => ("RateGateModel", "openUntil", "[I", true)
  | 19 => ("RateGateModel", "base", "[I", true)
  | 20 => ("RateGateModel", "zone", "[I", true)
  | 21 => ("RateGateModel", "weight", "[I", true)
  | 22 => ("RateGateModel", "calls", "I", false)
  | 23 => ("RateGateModel", "counted", "I", false)
  | 24 => ("RateGateModel", "countedMinute", "[I", true)
  | 25 => ("RateGateModel", "countedShipper", "[I", true)
  | 26 => ("RateGateModel", "costs", "[I", true)
  | 27 => ("RateGateModel", "billed", "[I", true)
  | 28 => ("RateGateModel", "fixedEnd", "[I", true)
  | 29 => ("RateGateModel", "fixedBase", "[I", true)
  | 30 => ("RateGateModel", "fixedZone", "[I", true)
  | 31 => ("RateGateModel", "fixedWeight", "[I", true)
  | 32 => ("RateGateModel", "quotes", "I", false)
  | 33 => ("RateGateModel", "quoteShipper", "[I", true)
  | 34 => ("RateGateModel", "quoteCarrier", "[I", true)
  | 35 => ("RateGateModel", "quoteApart", "[I", true)
  | 36 => ("RateGateModel", "quoteGrams", "[I", true)
  | 37 => ("RateGateModel", "isExpress", "[Z", true)
  | 38 => ("RateGateModel", "quoteBase", "[I", true)
  | 39 => ("RateGateModel", "quoteZone", "[I", true)
  | 40 => ("RateGateModel", "quoteWeight", "[I", true)
  | 41 => ("RateGateModel", "quoteEnd", "[I", true)
  | 42 => ("RateGateModel", "parcels", "I", false)
  | 43 => ("RateGateModel", "parcelQuote", "[I", true)
  | 44 => ("RateGateModel", "bookedAt", "[I", true)
  | 45 => ("RateGateModel", "cost", "[I", true)
  | _ => ("RateGateModel", "state", "[I", true)
def tyX8 : Nat → FieldType := fun k => match k with
  | 0 => .int
  | 1 => .int
  | 2 => .array .char
  | 3 => .int
  | 4 => .array .char
  | 5 => .array .char
  | 6 => .array .int
  | 7 => .int
  | 8 => .int
  | 9 => .array .char
  | 10 => .int
  | 11 => .array .int
  | 12 => .array .int
  | 13 => .array .boolean
  | 14 => .array .int
  | 15 => .array .int
  | 16 => .array .int
  | 17 => .array .boolean
  | 18 => .array .int
  | 19 => .array .int
  | 20 => .array .int
  | 21 => .array .int
  | 22 => .int
  | 23 => .int
  | 24 => .array .int
  | 25 => .array .int
  | 26 => .array .int
  | 27 => .array .int
  | 28 => .array .int
  | 29 => .array .int
  | 30 => .array .int
  | 31 => .array .int
  | 32 => .int
  | 33 => .array .int
  | 34 => .array .int
  | 35 => .array .int
  | 36 => .array .int
  | 37 => .array .boolean
  | 38 => .array .int
  | 39 => .array .int
  | 40 => .array .int
  | 41 => .array .int
  | 42 => .int
  | 43 => .array .int
  | 44 => .array .int
  | 45 => .array .int
  | _ => .array .int
abbrev wsX80 : List Cond := u_ws RX8 TX8 47
theorem nmX8 : ∀ a, a < 47 → ∀ b, b < 47 → a ≠ b → (TX8 a).2.1 ≠ (TX8 b).2.1 := by decide +kernel
theorem tyX8_ok : ∀ k, k < 47 → parseFieldDescriptor (TX8 k).2.2.1 = some (tyX8 k) := by decide +kernel
abbrev cX8_init : ByteArray := prog_10_method_1_code
def yX8_init : MethodName := ⟨RX8, "<init>", "()V"⟩
abbrev cX8_thrown : ByteArray := prog_10_method_2_code
def yX8_thrown : MethodName := ⟨RX8, "thrown", "()I"⟩
abbrev cX8_isIn : ByteArray := prog_10_method_3_code
def yX8_isIn : MethodName := ⟨RX8, "isIn", "(III)Z"⟩
abbrev cX8_type : ByteArray := prog_10_method_4_code
def yX8_type : MethodName := ⟨RX8, "type", "(C)I"⟩
abbrev cX8_wipe : ByteArray := prog_10_method_5_code
def yX8_wipe : MethodName := ⟨RX8, "wipe", "()I"⟩
abbrev cX8_number : ByteArray := prog_10_method_6_code
def yX8_number : MethodName := ⟨RX8, "number", "(III)I"⟩
abbrev cX8_valueOf : ByteArray := prog_10_method_7_code
def yX8_valueOf : MethodName := ⟨RX8, "valueOf", "(III)I"⟩
abbrev cX8_keyOf : ByteArray := prog_10_method_8_code
def yX8_keyOf : MethodName := ⟨RX8, "keyOf", "(II)I"⟩
abbrev cX8_fails : ByteArray := prog_10_method_9_code
def yX8_fails : MethodName := ⟨RX8, "fails", "(II)V"⟩
abbrev cX8_readPart : ByteArray := prog_10_method_10_code
def yX8_readPart : MethodName := ⟨RX8, "readPart", "(III)V"⟩
abbrev cX8_reads : ByteArray := prog_10_method_11_code
def yX8_reads : MethodName := ⟨RX8, "reads", "()Z"⟩
abbrev cX8_tells : ByteArray := prog_10_method_12_code
def yX8_tells : MethodName := ⟨RX8, "tells", "()V"⟩
abbrev cX8_isRight : ByteArray := prog_10_method_13_code
def yX8_isRight : MethodName := ⟨RX8, "isRight", "()Z"⟩
abbrev cX8_faultLength : ByteArray := prog_10_method_14_code
def yX8_faultLength : MethodName := ⟨RX8, "faultLength", "()I"⟩
abbrev cX8_fault : ByteArray := prog_10_method_15_code
def yX8_fault : MethodName := ⟨RX8, "fault", "(I)C"⟩
abbrev cX8_pass : ByteArray := prog_10_method_16_code
def yX8_pass : MethodName := ⟨RX8, "pass", "(I)I"⟩
abbrev cX8_isShipper : ByteArray := prog_10_method_17_code
def yX8_isShipper : MethodName := ⟨RX8, "isShipper", "(I)Z"⟩
abbrev cX8_isCarrier : ByteArray := prog_10_method_18_code
def yX8_isCarrier : MethodName := ⟨RX8, "isCarrier", "(I)Z"⟩
abbrev cX8_quota : ByteArray := prog_10_method_19_code
def yX8_quota : MethodName := ⟨RX8, "quota", "(III)I"⟩
abbrev cX8_carrier : ByteArray := prog_10_method_20_code
def yX8_carrier : MethodName := ⟨RX8, "carrier", "(IZI)I"⟩
abbrev cX8_tariff : ByteArray := prog_10_method_21_code
def yX8_tariff : MethodName := ⟨RX8, "tariff", "(IIII)I"⟩
abbrev cX8_circuitOf : ByteArray := prog_10_method_22_code
def yX8_circuitOf : MethodName := ⟨RX8, "circuitOf", "(I)I"⟩
abbrev cX8_isFailed : ByteArray := prog_10_method_23_code
def yX8_isFailed : MethodName := ⟨RX8, "isFailed", "(I)Z"⟩
abbrev cX8_asked : ByteArray := prog_10_method_24_code
def yX8_asked : MethodName := ⟨RX8, "asked", "(I)I"⟩
abbrev cX8_inWindow : ByteArray := prog_10_method_25_code
def yX8_inWindow : MethodName := ⟨RX8, "inWindow", "(I)I"⟩
abbrev cX8_priceOf : ByteArray := prog_10_method_26_code
def yX8_priceOf : MethodName := ⟨RX8, "priceOf", "(IIIIIZ)I"⟩
abbrev cX8_quoted : ByteArray := prog_10_method_27_code
def yX8_quoted : MethodName := ⟨RX8, "quoted", "(II)I"⟩
abbrev cX8_quote : ByteArray := prog_10_method_28_code
def yX8_quote : MethodName := ⟨RX8, "quote", "(III)I"⟩
abbrev cX8_call : ByteArray := prog_10_method_29_code
def yX8_call : MethodName := ⟨RX8, "call", "()I"⟩
abbrev cX8_asksQuote : ByteArray := prog_10_method_30_code
def yX8_asksQuote : MethodName := ⟨RX8, "asksQuote", "(I)Z"⟩
abbrev cX8_price : ByteArray := prog_10_method_31_code
def yX8_price : MethodName := ⟨RX8, "price", "(I)I"⟩
abbrev cX8_fixed : ByteArray := prog_10_method_32_code
def yX8_fixed : MethodName := ⟨RX8, "fixed", "(I)I"⟩
abbrev cX8_leftOf : ByteArray := prog_10_method_33_code
def yX8_leftOf : MethodName := ⟨RX8, "leftOf", "(I)I"⟩
abbrev cX8_left : ByteArray := prog_10_method_34_code
def yX8_left : MethodName := ⟨RX8, "left", "(I)I"⟩
abbrev cX8_leftByLog : ByteArray := prog_10_method_35_code
def yX8_leftByLog : MethodName := ⟨RX8, "leftByLog", "(I)I"⟩
abbrev cX8_circuit : ByteArray := prog_10_method_36_code
def yX8_circuit : MethodName := ⟨RX8, "circuit", "(I)I"⟩
abbrev cX8_tries : ByteArray := prog_10_method_37_code
def yX8_tries : MethodName := ⟨RX8, "tries", "(I)I"⟩
abbrev cX8_calls : ByteArray := prog_10_method_38_code
def yX8_calls : MethodName := ⟨RX8, "calls", "()I"⟩
abbrev cX8_book : ByteArray := prog_10_method_39_code
def yX8_book : MethodName := ⟨RX8, "book", "(I)I"⟩
abbrev cX8_isParcel : ByteArray := prog_10_method_40_code
def yX8_isParcel : MethodName := ⟨RX8, "isParcel", "(I)Z"⟩
abbrev cX8_weigh : ByteArray := prog_10_method_41_code
def yX8_weigh : MethodName := ⟨RX8, "weigh", "(II)I"⟩
abbrev cX8_cancel : ByteArray := prog_10_method_42_code
def yX8_cancel : MethodName := ⟨RX8, "cancel", "(I)I"⟩
abbrev cX8_state : ByteArray := prog_10_method_43_code
def yX8_state : MethodName := ⟨RX8, "state", "(I)I"⟩
abbrev cX8_cost : ByteArray := prog_10_method_44_code
def yX8_cost : MethodName := ⟨RX8, "cost", "(I)I"⟩
abbrev cX8_isDue : ByteArray := prog_10_method_45_code
def yX8_isDue : MethodName := ⟨RX8, "isDue", "(II)Z"⟩
abbrev cX8_billOf : ByteArray := prog_10_method_46_code
def yX8_billOf : MethodName := ⟨RX8, "billOf", "(I)I"⟩
abbrev cX8_bill : ByteArray := prog_10_method_47_code
def yX8_bill : MethodName := ⟨RX8, "bill", "(I)I"⟩
abbrev cX8_close : ByteArray := prog_10_method_48_code
def yX8_close : MethodName := ⟨RX8, "close", "(I)I"⟩
abbrev cX8_billed : ByteArray := prog_10_method_49_code
def yX8_billed : MethodName := ⟨RX8, "billed", "(I)I"⟩
def RJx145de : String := "java/io/Serializable"
def TJx145de : u_T := fun k => match k with
  | _ => ("", "", "", false)
def tyJx145de : Nat → FieldType := fun k => match k with
  | _ => .int
abbrev wsJx145de0 : List Cond := u_ws RJx145de TJx145de 0
theorem nmJx145de : ∀ a, a < 0 → ∀ b, b < 0 → a ≠ b → (TJx145de a).2.1 ≠ (TJx145de b).2.1 := by decide +kernel
theorem tyJx145de_ok : ∀ k, k < 0 → parseFieldDescriptor (TJx145de k).2.2.1 = some (tyJx145de k) := by decide +kernel
def RJ5 : String := "java/lang/AbstractStringBuilder"
def TJ5 : u_T := fun k => match k with
  | _ => ("", "", "", false)
def tyJ5 : Nat → FieldType := fun k => match k with
  | _ => .int
abbrev wsJ50 : List Cond := u_ws RJ5 TJ5 0
theorem nmJ5 : ∀ a, a < 0 → ∀ b, b < 0 → a ≠ b → (TJ5 a).2.1 ≠ (TJ5 b).2.1 := by decide +kernel
theorem tyJ5_ok : ∀ k, k < 0 → parseFieldDescriptor (TJ5 k).2.2.1 = some (tyJ5 k) := by decide +kernel
abbrev cJ5_init_d00df : ByteArray := prog_12_method_2_code
def yJ5_init_d00df : MethodName := ⟨RJ5, "<init>", "(I)V"⟩
abbrev cJ5_length_8abf5 : ByteArray := prog_12_method_6_code
def yJ5_length_8abf5 : MethodName := ⟨RJ5, "length", "()I"⟩
abbrev cJ5_ensureCapacityInternal_d00df : ByteArray := prog_12_method_9_code
def yJ5_ensureCapacityInternal_d00df : MethodName := ⟨RJ5, "ensureCapacityInternal", "(I)V"⟩
abbrev cJ5_newCapacity_0f7a4 : ByteArray := prog_12_method_10_code
def yJ5_newCapacity_0f7a4 : MethodName := ⟨RJ5, "newCapacity", "(I)I"⟩
abbrev cJ5_inflate_da8c8 : ByteArray := prog_12_method_11_code
def yJ5_inflate_da8c8 : MethodName := ⟨RJ5, "inflate", "()V"⟩
abbrev cJ5_append_cf1ce : ByteArray := prog_12_method_22_code
def yJ5_append_cf1ce : MethodName := ⟨RJ5, "append", "(Ljava/lang/String;)Ljava/lang/AbstractStringBuilder;"⟩
abbrev cJ5_appendNull_278bc : ByteArray := prog_12_method_26_code
def yJ5_appendNull_278bc : MethodName := ⟨RJ5, "appendNull", "()Ljava/lang/AbstractStringBuilder;"⟩
abbrev cJ5_append_3fe6f : ByteArray := prog_12_method_31_code
def yJ5_append_3fe6f : MethodName := ⟨RJ5, "append", "(C)Ljava/lang/AbstractStringBuilder;"⟩
abbrev cJ5_append_c97b9 : ByteArray := prog_12_method_32_code
def yJ5_append_c97b9 : MethodName := ⟨RJ5, "append", "(I)Ljava/lang/AbstractStringBuilder;"⟩
abbrev cJ5_getValue_6d5f1 : ByteArray := prog_12_method_64_code
def yJ5_getValue_6d5f1 : MethodName := ⟨RJ5, "getValue", "()[B"⟩
abbrev cJ5_isLatin1_aae02 : ByteArray := prog_12_method_68_code
def yJ5_isLatin1_aae02 : MethodName := ⟨RJ5, "isLatin1", "()Z"⟩
abbrev cJ5_inflateIfNeededFor_a7421 : ByteArray := prog_12_method_71_code
def yJ5_inflateIfNeededFor_a7421 : MethodName := ⟨RJ5, "inflateIfNeededFor", "(Ljava/lang/String;)V"⟩
abbrev cJ5_putStringAt_47b60 : ByteArray := prog_12_method_73_code
def yJ5_putStringAt_47b60 : MethodName := ⟨RJ5, "putStringAt", "(ILjava/lang/String;)V"⟩
def RJx2cfe8 : String := "java/lang/Appendable"
def TJx2cfe8 : u_T := fun k => match k with
  | _ => ("", "", "", false)
def tyJx2cfe8 : Nat → FieldType := fun k => match k with
  | _ => .int
abbrev wsJx2cfe80 : List Cond := u_ws RJx2cfe8 TJx2cfe8 0
theorem nmJx2cfe8 : ∀ a, a < 0 → ∀ b, b < 0 → a ≠ b → (TJx2cfe8 a).2.1 ≠ (TJx2cfe8 b).2.1 := by decide +kernel
theorem tyJx2cfe8_ok : ∀ k, k < 0 → parseFieldDescriptor (TJx2cfe8 k).2.2.1 = some (tyJx2cfe8 k) := by decide +kernel
def RJx9f9b0 : String := "java/lang/CharSequence"
def TJx9f9b0 : u_T := fun k => match k with
  | _ => ("", "", "", false)
def tyJx9f9b0 : Nat → FieldType := fun k => match k with
  | _ => .int
abbrev wsJx9f9b00 : List Cond := u_ws RJx9f9b0 TJx9f9b0 0
theorem nmJx9f9b0 : ∀ a, a < 0 → ∀ b, b < 0 → a ≠ b → (TJx9f9b0 a).2.1 ≠ (TJx9f9b0 b).2.1 := by decide +kernel
theorem tyJx9f9b0_ok : ∀ k, k < 0 → parseFieldDescriptor (TJx9f9b0 k).2.2.1 = some (tyJx9f9b0 k) := by decide +kernel
def RJ11 : String := "java/lang/Character"
def TJ11 : u_T := fun k => match k with
  | _ => ("", "", "", false)
def tyJ11 : Nat → FieldType := fun k => match k with
  | _ => .int
abbrev wsJ110 : List Cond := u_ws RJ11 TJ11 0
theorem nmJ11 : ∀ a, a < 0 → ∀ b, b < 0 → a ≠ b → (TJ11 a).2.1 ≠ (TJ11 b).2.1 := by decide +kernel
theorem tyJ11_ok : ∀ k, k < 0 → parseFieldDescriptor (TJ11 k).2.2.1 = some (tyJ11 k) := by decide +kernel
abbrev cJ11_isValidCodePoint_9a6ad : ByteArray := prog_15_method_11_code
def yJ11_isValidCodePoint_9a6ad : MethodName := ⟨RJ11, "isValidCodePoint", "(I)Z"⟩
abbrev cJ11_highSurrogate_5068e : ByteArray := prog_15_method_28_code
def yJ11_highSurrogate_5068e : MethodName := ⟨RJ11, "highSurrogate", "(I)C"⟩
abbrev cJ11_lowSurrogate_5068e : ByteArray := prog_15_method_29_code
def yJ11_lowSurrogate_5068e : MethodName := ⟨RJ11, "lowSurrogate", "(I)C"⟩
def RJx8e188 : String := "java/lang/Cloneable"
def TJx8e188 : u_T := fun k => match k with
  | _ => ("", "", "", false)
def tyJx8e188 : Nat → FieldType := fun k => match k with
  | _ => .int
abbrev wsJx8e1880 : List Cond := u_ws RJx8e188 TJx8e188 0
theorem nmJx8e188 : ∀ a, a < 0 → ∀ b, b < 0 → a ≠ b → (TJx8e188 a).2.1 ≠ (TJx8e188 b).2.1 := by decide +kernel
theorem tyJx8e188_ok : ∀ k, k < 0 → parseFieldDescriptor (TJx8e188 k).2.2.1 = some (tyJx8e188 k) := by decide +kernel
def RJxb160c : String := "java/lang/Comparable"
def TJxb160c : u_T := fun k => match k with
  | _ => ("", "", "", false)
def tyJxb160c : Nat → FieldType := fun k => match k with
  | _ => .int
abbrev wsJxb160c0 : List Cond := u_ws RJxb160c TJxb160c 0
theorem nmJxb160c : ∀ a, a < 0 → ∀ b, b < 0 → a ≠ b → (TJxb160c a).2.1 ≠ (TJxb160c b).2.1 := by decide +kernel
theorem tyJxb160c_ok : ∀ k, k < 0 → parseFieldDescriptor (TJxb160c k).2.2.1 = some (tyJxb160c k) := by decide +kernel
def RJ6 : String := "java/lang/Integer"
def TJ6 : u_T := fun k => match k with
  | _ => ("", "", "", false)
def tyJ6 : Nat → FieldType := fun k => match k with
  | _ => .int
abbrev wsJ60 : List Cond := u_ws RJ6 TJ6 0
theorem nmJ6 : ∀ a, a < 0 → ∀ b, b < 0 → a ≠ b → (TJ6 a).2.1 ≠ (TJ6 b).2.1 := by decide +kernel
theorem tyJ6_ok : ∀ k, k < 0 → parseFieldDescriptor (TJ6 k).2.2.1 = some (tyJ6 k) := by decide +kernel
abbrev cJ6_getChars_ba4f3 : ByteArray := prog_22_method_12_code
def yJ6_getChars_ba4f3 : MethodName := ⟨RJ6, "getChars", "(II[B)I"⟩
abbrev cJ6_stringSize_0f7a4 : ByteArray := prog_22_method_13_code
def yJ6_stringSize_0f7a4 : MethodName := ⟨RJ6, "stringSize", "(I)I"⟩
def RJxab1ab : String := "java/lang/Iterable"
def TJxab1ab : u_T := fun k => match k with
  | _ => ("", "", "", false)
def tyJxab1ab : Nat → FieldType := fun k => match k with
  | _ => .int
abbrev wsJxab1ab0 : List Cond := u_ws RJxab1ab TJxab1ab 0
theorem nmJxab1ab : ∀ a, a < 0 → ∀ b, b < 0 → a ≠ b → (TJxab1ab a).2.1 ≠ (TJxab1ab b).2.1 := by decide +kernel
theorem tyJxab1ab_ok : ∀ k, k < 0 → parseFieldDescriptor (TJxab1ab k).2.2.1 = some (tyJxab1ab k) := by decide +kernel
def RJ9 : String := "java/lang/Math"
def TJ9 : u_T := fun k => match k with
  | _ => ("", "", "", false)
def tyJ9 : Nat → FieldType := fun k => match k with
  | _ => .int
abbrev wsJ90 : List Cond := u_ws RJ9 TJ9 0
theorem nmJ9 : ∀ a, a < 0 → ∀ b, b < 0 → a ≠ b → (TJ9 a).2.1 ≠ (TJ9 b).2.1 := by decide +kernel
theorem tyJ9_ok : ∀ k, k < 0 → parseFieldDescriptor (TJ9 k).2.2.1 = some (tyJ9 k) := by decide +kernel
abbrev cJ9_abs_0f7a4 : ByteArray := prog_24_method_59_code
def yJ9_abs_0f7a4 : MethodName := ⟨RJ9, "abs", "(I)I"⟩
abbrev cJ9_max_7cf53 : ByteArray := prog_24_method_65_code
def yJ9_max_7cf53 : MethodName := ⟨RJ9, "max", "(II)I"⟩
abbrev cJ9_min_7cf53 : ByteArray := prog_24_method_69_code
def yJ9_min_7cf53 : MethodName := ⟨RJ9, "min", "(II)I"⟩
def RJxd2413 : String := "java/lang/Number"
def TJxd2413 : u_T := fun k => match k with
  | _ => ("", "", "", false)
def tyJxd2413 : Nat → FieldType := fun k => match k with
  | _ => .int
abbrev wsJxd24130 : List Cond := u_ws RJxd2413 TJxd2413 0
theorem nmJxd2413 : ∀ a, a < 0 → ∀ b, b < 0 → a ≠ b → (TJxd2413 a).2.1 ≠ (TJxd2413 b).2.1 := by decide +kernel
theorem tyJxd2413_ok : ∀ k, k < 0 → parseFieldDescriptor (TJxd2413 k).2.2.1 = some (tyJxd2413 k) := by decide +kernel
def RJ0 : String := "java/lang/String"
def TJ0 : u_T := fun k => match k with
  | 0 => ("java/lang/String", "value", "[B", true)
  | 1 => ("java/lang/String", "coder", "B", true)
  | 2 => ("java/lang/String", "hash", "I", false)
  | _ => ("java/lang/String", "hashIsZero", "Z", false)
def tyJ0 : Nat → FieldType := fun k => match k with
  | 0 => .array .byte
  | 1 => .byte
  | 2 => .int
  | _ => .boolean
abbrev wsJ00 : List Cond := u_ws RJ0 TJ0 4
theorem nmJ0 : ∀ a, a < 4 → ∀ b, b < 4 → a ≠ b → (TJ0 a).2.1 ≠ (TJ0 b).2.1 := by decide +kernel
theorem tyJ0_ok : ∀ k, k < 4 → parseFieldDescriptor (TJ0 k).2.2.1 = some (tyJ0 k) := by decide +kernel
abbrev cJ0_init_81219 : ByteArray := prog_27_method_53_code
def yJ0_init_81219 : MethodName := ⟨RJ0, "<init>", "(Ljava/lang/StringBuilder;)V"⟩
abbrev cJ0_length_8abf5 : ByteArray := prog_27_method_54_code
def yJ0_length_8abf5 : MethodName := ⟨RJ0, "length", "()I"⟩
abbrev cJ0_isEmpty_aae02 : ByteArray := prog_27_method_55_code
def yJ0_isEmpty_aae02 : MethodName := ⟨RJ0, "isEmpty", "()Z"⟩
abbrev cJ0_charAt_5068e : ByteArray := prog_27_method_56_code
def yJ0_charAt_5068e : MethodName := ⟨RJ0, "charAt", "(I)C"⟩
abbrev cJ0_indexOf_0f7a4 : ByteArray := prog_27_method_79_code
def yJ0_indexOf_0f7a4 : MethodName := ⟨RJ0, "indexOf", "(I)I"⟩
abbrev cJ0_indexOf_7cf53 : ByteArray := prog_27_method_80_code
def yJ0_indexOf_7cf53 : MethodName := ⟨RJ0, "indexOf", "(II)I"⟩
abbrev cJ0_getBytes_840e7 : ByteArray := prog_27_method_147_code
def yJ0_getBytes_840e7 : MethodName := ⟨RJ0, "getBytes", "([BIB)V"⟩
abbrev cJ0_init_db425 : ByteArray := prog_27_method_150_code
def yJ0_init_db425 : MethodName := ⟨RJ0, "<init>", "(Ljava/lang/AbstractStringBuilder;Ljava/lang/Void;)V"⟩
abbrev cJ0_coder_7d493 : ByteArray := prog_27_method_152_code
def yJ0_coder_7d493 : MethodName := ⟨RJ0, "coder", "()B"⟩
abbrev cJ0_isLatin1_aae02 : ByteArray := prog_27_method_154_code
def yJ0_isLatin1_aae02 : MethodName := ⟨RJ0, "isLatin1", "()Z"⟩
abbrev cJ0_checkIndex_df160 : ByteArray := prog_27_method_155_code
def yJ0_checkIndex_df160 : MethodName := ⟨RJ0, "checkIndex", "(II)V"⟩
abbrev cJ0_checkBoundsOffCount_cabcc : ByteArray := prog_27_method_157_code
def yJ0_checkBoundsOffCount_cabcc : MethodName := ⟨RJ0, "checkBoundsOffCount", "(III)I"⟩
abbrev cJ0_checkBoundsBeginEnd_23922 : ByteArray := prog_27_method_158_code
def yJ0_checkBoundsBeginEnd_23922 : MethodName := ⟨RJ0, "checkBoundsBeginEnd", "(III)V"⟩
def RJ4 : String := "java/lang/StringBuilder"
def TJ4 : u_T := fun k => match k with
  | 0 => ("java/lang/AbstractStringBuilder", "value", "[B", false)
  | 1 => ("java/lang/AbstractStringBuilder", "coder", "B", false)
  | 2 => ("java/lang/AbstractStringBuilder", "maybeLatin1", "Z", false)
  | _ => ("java/lang/AbstractStringBuilder", "count", "I", false)
def tyJ4 : Nat → FieldType := fun k => match k with
  | 0 => .array .byte
  | 1 => .byte
  | 2 => .boolean
  | _ => .int
abbrev wsJ40 : List Cond := u_ws RJ4 TJ4 4
theorem nmJ4 : ∀ a, a < 4 → ∀ b, b < 4 → a ≠ b → (TJ4 a).2.1 ≠ (TJ4 b).2.1 := by decide +kernel
theorem tyJ4_ok : ∀ k, k < 4 → parseFieldDescriptor (TJ4 k).2.2.1 = some (tyJ4 k) := by decide +kernel
abbrev cJ4_init_da8c8 : ByteArray := prog_28_method_1_code
def yJ4_init_da8c8 : MethodName := ⟨RJ4, "<init>", "()V"⟩
abbrev cJ4_append_15ec4 : ByteArray := prog_28_method_7_code
def yJ4_append_15ec4 : MethodName := ⟨RJ4, "append", "(Ljava/lang/String;)Ljava/lang/StringBuilder;"⟩
abbrev cJ4_append_cf468 : ByteArray := prog_28_method_14_code
def yJ4_append_cf468 : MethodName := ⟨RJ4, "append", "(C)Ljava/lang/StringBuilder;"⟩
abbrev cJ4_append_bf812 : ByteArray := prog_28_method_15_code
def yJ4_append_bf812 : MethodName := ⟨RJ4, "append", "(I)Ljava/lang/StringBuilder;"⟩
abbrev cJ4_toString_0e30d : ByteArray := prog_28_method_42_code
def yJ4_toString_0e30d : MethodName := ⟨RJ4, "toString", "()Ljava/lang/String;"⟩
abbrev cJ4_length_8abf5 : ByteArray := prog_28_method_93_code
def yJ4_length_8abf5 : MethodName := ⟨RJ4, "length", "()I"⟩
def RJ1 : String := "java/lang/StringLatin1"
def TJ1 : u_T := fun k => match k with
  | _ => ("", "", "", false)
def tyJ1 : Nat → FieldType := fun k => match k with
  | _ => .int
abbrev wsJ10 : List Cond := u_ws RJ1 TJ1 0
theorem nmJ1 : ∀ a, a < 0 → ∀ b, b < 0 → a ≠ b → (TJ1 a).2.1 ≠ (TJ1 b).2.1 := by decide +kernel
theorem tyJ1_ok : ∀ k, k < 0 → parseFieldDescriptor (TJ1 k).2.2.1 = some (tyJ1 k) := by decide +kernel
abbrev cJ1_charAt_3b067 : ByteArray := prog_29_method_2_code
def yJ1_charAt_3b067 : MethodName := ⟨RJ1, "charAt", "([BI)C"⟩
abbrev cJ1_canEncode_fc78d : ByteArray := prog_29_method_3_code
def yJ1_canEncode_fc78d : MethodName := ⟨RJ1, "canEncode", "(C)Z"⟩
abbrev cJ1_canEncode_9a6ad : ByteArray := prog_29_method_4_code
def yJ1_canEncode_9a6ad : MethodName := ⟨RJ1, "canEncode", "(I)Z"⟩
abbrev cJ1_indexOf_4cfef : ByteArray := prog_29_method_22_code
def yJ1_indexOf_4cfef : MethodName := ⟨RJ1, "indexOf", "([BIII)I"⟩
abbrev cJ1_indexOfChar_4cfef : ByteArray := prog_29_method_23_code
def yJ1_indexOfChar_4cfef : MethodName := ⟨RJ1, "indexOfChar", "([BIII)I"⟩
abbrev cJ1_inflate_0e8fd : ByteArray := prog_29_method_50_code
def yJ1_inflate_0e8fd : MethodName := ⟨RJ1, "inflate", "([BI[BII)V"⟩
def RJ2 : String := "java/lang/StringUTF16"
def TJ2 : u_T := fun k => match k with
  | _ => ("", "", "", false)
def tyJ2 : Nat → FieldType := fun k => match k with
  | _ => .int
abbrev wsJ20 : List Cond := u_ws RJ2 TJ2 0
theorem nmJ2 : ∀ a, a < 0 → ∀ b, b < 0 → a ≠ b → (TJ2 a).2.1 ≠ (TJ2 b).2.1 := by decide +kernel
theorem tyJ2_ok : ∀ k, k < 0 → parseFieldDescriptor (TJ2 k).2.2.1 = some (tyJ2 k) := by decide +kernel
abbrev cJ2_newBytesFor_77867 : ByteArray := prog_30_method_2_code
def yJ2_newBytesFor_77867 : MethodName := ⟨RJ2, "newBytesFor", "(I)[B"⟩
abbrev cJ2_newBytesLength_0f7a4 : ByteArray := prog_30_method_3_code
def yJ2_newBytesLength_0f7a4 : MethodName := ⟨RJ2, "newBytesLength", "(I)I"⟩
abbrev cJ2_putChar_b72d1 : ByteArray := prog_30_method_4_code
def yJ2_putChar_b72d1 : MethodName := ⟨RJ2, "putChar", "([BII)V"⟩
abbrev cJ2_getChar_3b067 : ByteArray := prog_30_method_5_code
def yJ2_getChar_3b067 : MethodName := ⟨RJ2, "getChar", "([BI)C"⟩
abbrev cJ2_length_9d52b : ByteArray := prog_30_method_6_code
def yJ2_length_9d52b : MethodName := ⟨RJ2, "length", "([B)I"⟩
abbrev cJ2_coderFromArrayLen_85cad : ByteArray := prog_30_method_15_code
def yJ2_coderFromArrayLen_85cad : MethodName := ⟨RJ2, "coderFromArrayLen", "([BI)B"⟩
abbrev cJ2_compress_39247 : ByteArray := prog_30_method_17_code
def yJ2_compress_39247 : MethodName := ⟨RJ2, "compress", "([BII)[B"⟩
abbrev cJ2_compress_5af95 : ByteArray := prog_30_method_22_code
def yJ2_compress_5af95 : MethodName := ⟨RJ2, "compress", "([BI[BII)I"⟩
abbrev cJ2_indexOf_4cfef : ByteArray := prog_30_method_40_code
def yJ2_indexOf_4cfef : MethodName := ⟨RJ2, "indexOf", "([BIII)I"⟩
abbrev cJ2_indexOfChar_4cfef : ByteArray := prog_30_method_47_code
def yJ2_indexOfChar_4cfef : MethodName := ⟨RJ2, "indexOfChar", "([BIII)I"⟩
abbrev cJ2_indexOfCharUnsafe_4cfef : ByteArray := prog_30_method_48_code
def yJ2_indexOfCharUnsafe_4cfef : MethodName := ⟨RJ2, "indexOfCharUnsafe", "([BIII)I"⟩
abbrev cJ2_indexOfSupplementary_4cfef : ByteArray := prog_30_method_49_code
def yJ2_indexOfSupplementary_4cfef : MethodName := ⟨RJ2, "indexOfSupplementary", "([BIII)I"⟩
abbrev cJ2_putCharSB_b72d1 : ByteArray := prog_30_method_71_code
def yJ2_putCharSB_b72d1 : MethodName := ⟨RJ2, "putCharSB", "([BII)V"⟩
abbrev cJ2_getChars_46870 : ByteArray := prog_30_method_77_code
def yJ2_getChars_46870 : MethodName := ⟨RJ2, "getChars", "(III[B)I"⟩
abbrev cJ2_putCharsAt_cd4e5 : ByteArray := prog_30_method_81_code
def yJ2_putCharsAt_cd4e5 : MethodName := ⟨RJ2, "putCharsAt", "([BICCCC)I"⟩
abbrev cJ2_charAt_3b067 : ByteArray := prog_30_method_83_code
def yJ2_charAt_3b067 : MethodName := ⟨RJ2, "charAt", "([BI)C"⟩
abbrev cJ2_inflate_0e8fd : ByteArray := prog_30_method_86_code
def yJ2_inflate_0e8fd : MethodName := ⟨RJ2, "inflate", "([BI[BII)V"⟩
abbrev cJ2_getChars_ba4f3 : ByteArray := prog_30_method_89_code
def yJ2_getChars_ba4f3 : MethodName := ⟨RJ2, "getChars", "(II[B)I"⟩
abbrev cJ2_checkIndex_2214a : ByteArray := prog_30_method_91_code
def yJ2_checkIndex_2214a : MethodName := ⟨RJ2, "checkIndex", "(I[B)V"⟩
abbrev cJ2_checkBoundsBeginEnd_d044e : ByteArray := prog_30_method_93_code
def yJ2_checkBoundsBeginEnd_d044e : MethodName := ⟨RJ2, "checkBoundsBeginEnd", "(II[B)V"⟩
abbrev cJ2_checkBoundsOffCount_d044e : ByteArray := prog_30_method_94_code
def yJ2_checkBoundsOffCount_d044e : MethodName := ⟨RJ2, "checkBoundsOffCount", "(II[B)V"⟩
def RJ10 : String := "java/lang/System"
def TJ10 : u_T := fun k => match k with
  | _ => ("", "", "", false)
def tyJ10 : Nat → FieldType := fun k => match k with
  | _ => .int
abbrev wsJ100 : List Cond := u_ws RJ10 TJ10 0
theorem nmJ10 : ∀ a, a < 0 → ∀ b, b < 0 → a ≠ b → (TJ10 a).2.1 ≠ (TJ10 b).2.1 := by decide +kernel
theorem tyJ10_ok : ∀ k, k < 0 → parseFieldDescriptor (TJ10 k).2.2.1 = some (tyJ10 k) := by decide +kernel
def RJxfd54e : String := "java/lang/constant/Constable"
def TJxfd54e : u_T := fun k => match k with
  | _ => ("", "", "", false)
def tyJxfd54e : Nat → FieldType := fun k => match k with
  | _ => .int
abbrev wsJxfd54e0 : List Cond := u_ws RJxfd54e TJxfd54e 0
theorem nmJxfd54e : ∀ a, a < 0 → ∀ b, b < 0 → a ≠ b → (TJxfd54e a).2.1 ≠ (TJxfd54e b).2.1 := by decide +kernel
theorem tyJxfd54e_ok : ∀ k, k < 0 → parseFieldDescriptor (TJxfd54e k).2.2.1 = some (tyJxfd54e k) := by decide +kernel
def RJx3cf43 : String := "java/lang/constant/ConstantDesc"
def TJx3cf43 : u_T := fun k => match k with
  | _ => ("", "", "", false)
def tyJx3cf43 : Nat → FieldType := fun k => match k with
  | _ => .int
abbrev wsJx3cf430 : List Cond := u_ws RJx3cf43 TJx3cf43 0
theorem nmJx3cf43 : ∀ a, a < 0 → ∀ b, b < 0 → a ≠ b → (TJx3cf43 a).2.1 ≠ (TJx3cf43 b).2.1 := by decide +kernel
theorem tyJx3cf43_ok : ∀ k, k < 0 → parseFieldDescriptor (TJx3cf43 k).2.2.1 = some (tyJx3cf43 k) := by decide +kernel
def RJxa1e45 : String := "java/util/AbstractCollection"
def TJxa1e45 : u_T := fun k => match k with
  | _ => ("", "", "", false)
def tyJxa1e45 : Nat → FieldType := fun k => match k with
  | _ => .int
abbrev wsJxa1e450 : List Cond := u_ws RJxa1e45 TJxa1e45 0
theorem nmJxa1e45 : ∀ a, a < 0 → ∀ b, b < 0 → a ≠ b → (TJxa1e45 a).2.1 ≠ (TJxa1e45 b).2.1 := by decide +kernel
theorem tyJxa1e45_ok : ∀ k, k < 0 → parseFieldDescriptor (TJxa1e45 k).2.2.1 = some (tyJxa1e45 k) := by decide +kernel
abbrev cJxa1e45_init_da8c8 : ByteArray := prog_35_method_1_code
def yJxa1e45_init_da8c8 : MethodName := ⟨RJxa1e45, "<init>", "()V"⟩
def RJxc12de : String := "java/util/AbstractList"
def TJxc12de : u_T := fun k => match k with
  | _ => ("", "", "", false)
def tyJxc12de : Nat → FieldType := fun k => match k with
  | _ => .int
abbrev wsJxc12de0 : List Cond := u_ws RJxc12de TJxc12de 0
theorem nmJxc12de : ∀ a, a < 0 → ∀ b, b < 0 → a ≠ b → (TJxc12de a).2.1 ≠ (TJxc12de b).2.1 := by decide +kernel
theorem tyJxc12de_ok : ∀ k, k < 0 → parseFieldDescriptor (TJxc12de k).2.2.1 = some (tyJxc12de k) := by decide +kernel
abbrev cJxc12de_init_da8c8 : ByteArray := prog_36_method_1_code
def yJxc12de_init_da8c8 : MethodName := ⟨RJxc12de, "<init>", "()V"⟩
def RJx4a65c : String := "java/util/ArrayList"
def TJx4a65c : u_T := fun k => match k with
  | 0 => ("java/util/AbstractList", "modCount", "I", false)
  | 1 => ("java/util/ArrayList", "elementData", "[Ljava/lang/Object;", false)
  | _ => ("java/util/ArrayList", "size", "I", false)
def tyJx4a65c : Nat → FieldType := fun k => match k with
  | 0 => .int
  | 1 => .array (.object "java/lang/Object")
  | _ => .int
abbrev wsJx4a65c0 : List Cond := u_ws RJx4a65c TJx4a65c 3
theorem nmJx4a65c : ∀ a, a < 3 → ∀ b, b < 3 → a ≠ b → (TJx4a65c a).2.1 ≠ (TJx4a65c b).2.1 := by decide +kernel
theorem tyJx4a65c_ok : ∀ k, k < 3 → parseFieldDescriptor (TJx4a65c k).2.2.1 = some (tyJx4a65c k) := by decide +kernel
abbrev cJx4a65c_init_da8c8 : ByteArray := prog_37_method_2_code
def yJx4a65c_init_da8c8 : MethodName := ⟨RJx4a65c, "<init>", "()V"⟩
abbrev cJx4a65c_grow_92f84 : ByteArray := prog_37_method_6_code
def yJx4a65c_grow_92f84 : MethodName := ⟨RJx4a65c, "grow", "(I)[Ljava/lang/Object;"⟩
abbrev cJx4a65c_grow_d5877 : ByteArray := prog_37_method_7_code
def yJx4a65c_grow_d5877 : MethodName := ⟨RJx4a65c, "grow", "()[Ljava/lang/Object;"⟩
abbrev cJx4a65c_size_8abf5 : ByteArray := prog_37_method_8_code
def yJx4a65c_size_8abf5 : MethodName := ⟨RJx4a65c, "size", "()I"⟩
abbrev cJx4a65c_elementData_915e3 : ByteArray := prog_37_method_18_code
def yJx4a65c_elementData_915e3 : MethodName := ⟨RJx4a65c, "elementData", "(I)Ljava/lang/Object;"⟩
abbrev cJx4a65c_get_915e3 : ByteArray := prog_37_method_20_code
def yJx4a65c_get_915e3 : MethodName := ⟨RJx4a65c, "get", "(I)Ljava/lang/Object;"⟩
abbrev cJx4a65c_add_72be8 : ByteArray := prog_37_method_24_code
def yJx4a65c_add_72be8 : MethodName := ⟨RJx4a65c, "add", "(Ljava/lang/Object;[Ljava/lang/Object;I)V"⟩
abbrev cJx4a65c_add_9ea2d : ByteArray := prog_37_method_25_code
def yJx4a65c_add_9ea2d : MethodName := ⟨RJx4a65c, "add", "(Ljava/lang/Object;)Z"⟩
def RJ7 : String := "java/util/Arrays"
def TJ7 : u_T := fun k => match k with
  | _ => ("", "", "", false)
def tyJ7 : Nat → FieldType := fun k => match k with
  | _ => .int
abbrev wsJ70 : List Cond := u_ws RJ7 TJ7 0
theorem nmJ7 : ∀ a, a < 0 → ∀ b, b < 0 → a ≠ b → (TJ7 a).2.1 ≠ (TJ7 b).2.1 := by decide +kernel
theorem tyJ7_ok : ∀ k, k < 0 → parseFieldDescriptor (TJ7 k).2.2.1 = some (tyJ7 k) := by decide +kernel
abbrev cJ7_fill_53178 : ByteArray := prog_38_method_103_code
def yJ7_fill_53178 : MethodName := ⟨RJ7, "fill", "([II)V"⟩
abbrev cJ7_copyOf_1904c : ByteArray := prog_38_method_119_code
def yJ7_copyOf_1904c : MethodName := ⟨RJ7, "copyOf", "([Ljava/lang/Object;I)[Ljava/lang/Object;"⟩
abbrev cJ7_copyOf_6403c : ByteArray := prog_38_method_120_code
def yJ7_copyOf_6403c : MethodName := ⟨RJ7, "copyOf", "([Ljava/lang/Object;ILjava/lang/Class;)[Ljava/lang/Object;"⟩
abbrev cJ7_copyOf_9075b : ByteArray := prog_38_method_121_code
def yJ7_copyOf_9075b : MethodName := ⟨RJ7, "copyOf", "([BI)[B"⟩
abbrev cJ7_checkLength_df160 : ByteArray := prog_38_method_131_code
def yJ7_checkLength_df160 : MethodName := ⟨RJ7, "checkLength", "(II)V"⟩
abbrev cJ7_copyOfRange_39247 : ByteArray := prog_38_method_132_code
def yJ7_copyOfRange_39247 : MethodName := ⟨RJ7, "copyOfRange", "([BII)[B"⟩
abbrev cJ7_copyOfRangeByte_39247 : ByteArray := prog_38_method_133_code
def yJ7_copyOfRangeByte_39247 : MethodName := ⟨RJ7, "copyOfRangeByte", "([BII)[B"⟩
def RJx5ef63 : String := "java/util/Collection"
def TJx5ef63 : u_T := fun k => match k with
  | _ => ("", "", "", false)
def tyJx5ef63 : Nat → FieldType := fun k => match k with
  | _ => .int
abbrev wsJx5ef630 : List Cond := u_ws RJx5ef63 TJx5ef63 0
theorem nmJx5ef63 : ∀ a, a < 0 → ∀ b, b < 0 → a ≠ b → (TJx5ef63 a).2.1 ≠ (TJx5ef63 b).2.1 := by decide +kernel
theorem tyJx5ef63_ok : ∀ k, k < 0 → parseFieldDescriptor (TJx5ef63 k).2.2.1 = some (tyJx5ef63 k) := by decide +kernel
def RJxbd725 : String := "java/util/List"
def TJxbd725 : u_T := fun k => match k with
  | _ => ("", "", "", false)
def tyJxbd725 : Nat → FieldType := fun k => match k with
  | _ => .int
abbrev wsJxbd7250 : List Cond := u_ws RJxbd725 TJxbd725 0
theorem nmJxbd725 : ∀ a, a < 0 → ∀ b, b < 0 → a ≠ b → (TJxbd725 a).2.1 ≠ (TJxbd725 b).2.1 := by decide +kernel
theorem tyJxbd725_ok : ∀ k, k < 0 → parseFieldDescriptor (TJxbd725 k).2.2.1 = some (tyJxbd725 k) := by decide +kernel
def RJ15 : String := "java/util/Objects"
def TJ15 : u_T := fun k => match k with
  | _ => ("", "", "", false)
def tyJ15 : Nat → FieldType := fun k => match k with
  | _ => .int
abbrev wsJ150 : List Cond := u_ws RJ15 TJ15 0
theorem nmJ15 : ∀ a, a < 0 → ∀ b, b < 0 → a ≠ b → (TJ15 a).2.1 ≠ (TJ15 b).2.1 := by decide +kernel
theorem tyJ15_ok : ∀ k, k < 0 → parseFieldDescriptor (TJ15 k).2.2.1 = some (tyJ15 k) := by decide +kernel
abbrev cJ15_checkIndex_7cf53 : ByteArray := prog_41_method_17_code
def yJ15_checkIndex_7cf53 : MethodName := ⟨RJ15, "checkIndex", "(II)I"⟩
def RJxf0a74 : String := "java/util/RandomAccess"
def TJxf0a74 : u_T := fun k => match k with
  | _ => ("", "", "", false)
def tyJxf0a74 : Nat → FieldType := fun k => match k with
  | _ => .int
abbrev wsJxf0a740 : List Cond := u_ws RJxf0a74 TJxf0a74 0
theorem nmJxf0a74 : ∀ a, a < 0 → ∀ b, b < 0 → a ≠ b → (TJxf0a74 a).2.1 ≠ (TJxf0a74 b).2.1 := by decide +kernel
theorem tyJxf0a74_ok : ∀ k, k < 0 → parseFieldDescriptor (TJxf0a74 k).2.2.1 = some (tyJxf0a74 k) := by decide +kernel
def RJxa66e6 : String := "java/util/SequencedCollection"
def TJxa66e6 : u_T := fun k => match k with
  | _ => ("", "", "", false)
def tyJxa66e6 : Nat → FieldType := fun k => match k with
  | _ => .int
abbrev wsJxa66e60 : List Cond := u_ws RJxa66e6 TJxa66e6 0
theorem nmJxa66e6 : ∀ a, a < 0 → ∀ b, b < 0 → a ≠ b → (TJxa66e6 a).2.1 ≠ (TJxa66e6 b).2.1 := by decide +kernel
theorem tyJxa66e6_ok : ∀ k, k < 0 → parseFieldDescriptor (TJxa66e6 k).2.2.1 = some (tyJxa66e6 k) := by decide +kernel
def RJ8 : String := "jdk/internal/util/ArraysSupport"
def TJ8 : u_T := fun k => match k with
  | _ => ("", "", "", false)
def tyJ8 : Nat → FieldType := fun k => match k with
  | _ => .int
abbrev wsJ80 : List Cond := u_ws RJ8 TJ8 0
theorem nmJ8 : ∀ a, a < 0 → ∀ b, b < 0 → a ≠ b → (TJ8 a).2.1 ≠ (TJ8 b).2.1 := by decide +kernel
theorem tyJ8_ok : ∀ k, k < 0 → parseFieldDescriptor (TJ8 k).2.2.1 = some (tyJ8 k) := by decide +kernel
abbrev cJ8_newLength_cabcc : ByteArray := prog_44_method_27_code
def yJ8_newLength_cabcc : MethodName := ⟨RJ8, "newLength", "(III)I"⟩
abbrev cJ8_hugeLength_7cf53 : ByteArray := prog_44_method_28_code
def yJ8_hugeLength_7cf53 : MethodName := ⟨RJ8, "hugeLength", "(II)I"⟩
def RJ3 : String := "jdk/internal/util/Preconditions"
def TJ3 : u_T := fun k => match k with
  | _ => ("", "", "", false)
def tyJ3 : Nat → FieldType := fun k => match k with
  | _ => .int
abbrev wsJ30 : List Cond := u_ws RJ3 TJ3 0
theorem nmJ3 : ∀ a, a < 0 → ∀ b, b < 0 → a ≠ b → (TJ3 a).2.1 ≠ (TJ3 b).2.1 := by decide +kernel
theorem tyJ3_ok : ∀ k, k < 0 → parseFieldDescriptor (TJ3 k).2.2.1 = some (tyJ3 k) := by decide +kernel
abbrev cJ3_checkIndex_8e157 : ByteArray := prog_45_method_11_code
def yJ3_checkIndex_8e157 : MethodName := ⟨RJ3, "checkIndex", "(IILjava/util/function/BiFunction;)I"⟩
abbrev cJ3_checkFromToIndex_8c36e : ByteArray := prog_45_method_12_code
def yJ3_checkFromToIndex_8c36e : MethodName := ⟨RJ3, "checkFromToIndex", "(IIILjava/util/function/BiFunction;)I"⟩
abbrev cJ3_checkFromIndexSize_8c36e : ByteArray := prog_45_method_13_code
def yJ3_checkFromIndexSize_8c36e : MethodName := ⟨RJ3, "checkFromIndexSize", "(IIILjava/util/function/BiFunction;)I"⟩
def RL : String := "RateGateLaw"
abbrev cL_type : ByteArray := method_3_code
def yL_type : MethodName := ⟨RL, "type", "(LRateGate;C[J)I"⟩
abbrev cL_fault : ByteArray := method_4_code
def yL_fault : MethodName := ⟨RL, "fault", "(LRateGate;I[J)I"⟩
abbrev cL_pass : ByteArray := method_5_code
def yL_pass : MethodName := ⟨RL, "pass", "(LRateGate;I[J)I"⟩
abbrev cL_quota : ByteArray := method_6_code
def yL_quota : MethodName := ⟨RL, "quota", "(LRateGate;III[J)I"⟩
abbrev cL_carrier : ByteArray := method_7_code
def yL_carrier : MethodName := ⟨RL, "carrier", "(LRateGate;IZI[J)I"⟩
abbrev cL_tariff : ByteArray := method_8_code
def yL_tariff : MethodName := ⟨RL, "tariff", "(LRateGate;IIII[J)I"⟩
abbrev cL_call : ByteArray := method_9_code
def yL_call : MethodName := ⟨RL, "call", "(LRateGate;[J)I"⟩
abbrev cL_price : ByteArray := method_10_code
def yL_price : MethodName := ⟨RL, "price", "(LRateGate;I[J)I"⟩
abbrev cL_fixed : ByteArray := method_11_code
def yL_fixed : MethodName := ⟨RL, "fixed", "(LRateGate;I[J)I"⟩
abbrev cL_left : ByteArray := method_12_code
def yL_left : MethodName := ⟨RL, "left", "(LRateGate;I[J)I"⟩
abbrev cL_leftByLog : ByteArray := method_13_code
def yL_leftByLog : MethodName := ⟨RL, "leftByLog", "(LRateGate;I[J)I"⟩
abbrev cL_circuit : ByteArray := method_14_code
def yL_circuit : MethodName := ⟨RL, "circuit", "(LRateGate;I[J)I"⟩
abbrev cL_tries : ByteArray := method_15_code
def yL_tries : MethodName := ⟨RL, "tries", "(LRateGate;I[J)I"⟩
abbrev cL_book : ByteArray := method_16_code
def yL_book : MethodName := ⟨RL, "book", "(LRateGate;I[J)I"⟩
abbrev cL_weigh : ByteArray := method_17_code
def yL_weigh : MethodName := ⟨RL, "weigh", "(LRateGate;II[J)I"⟩
abbrev cL_cancel : ByteArray := method_18_code
def yL_cancel : MethodName := ⟨RL, "cancel", "(LRateGate;I[J)I"⟩
abbrev cL_state : ByteArray := method_19_code
def yL_state : MethodName := ⟨RL, "state", "(LRateGate;I[J)I"⟩
abbrev cL_cost : ByteArray := method_20_code
def yL_cost : MethodName := ⟨RL, "cost", "(LRateGate;I[J)I"⟩
abbrev cL_bill : ByteArray := method_21_code
def yL_bill : MethodName := ⟨RL, "bill", "(LRateGate;I[J)I"⟩
abbrev cL_close : ByteArray := method_22_code
def yL_close : MethodName := ⟨RL, "close", "(LRateGate;I[J)I"⟩
abbrev cL_billed : ByteArray := method_23_code
def yL_billed : MethodName := ⟨RL, "billed", "(LRateGate;I[J)I"⟩
abbrev cL_law : ByteArray := code
def yL_law : MethodName := ⟨RL, "law", "([I)Z"⟩
abbrev vwCl : List vw_C := [(RJ0, TJ0, 4), (RJ4, TJ4, 4), (RJx4a65c, TJx4a65c, 3), (RX0, TX0, 6), (RX1, TX1, 7), (RX2, TX2, 4), (RX3, TX3, 8), (RX4, TX4, 5), (RX5, TX5, 7), (RX6, TX6, 3), (RX7, TX7, 7), (RX8, TX8, 47)]
end
section
/-- the tables' words that a call may hand on: one list for every method -/
def TB : List Cond := lw_tbl.filter goodWord
theorem tB_tbl {w : Cond} (h : w ∈ TB) : w ∈ lw_tbl := (List.mem_filter.mp h).1
theorem tB_ok {w : Cond} (h : w ∈ TB) : goodWord w = true := (List.mem_filter.mp h).2
theorem tB_of {w : Cond} (h : w ∈ lw_tbl) (hg : goodWord w = true) : w ∈ TB := List.mem_filter.mpr ⟨h, hg⟩
theorem tB_t {w : Cond} (h : w ∈ tables_1) (hg : goodWord w = true) : w ∈ TB := tB_of (List.mem_append_right _ h) hg
theorem tB0 (i : Nat) {w : Cond} (h : (k2_sels lw_privs)[i]? = some w) (hg : goodWord w = true) : w ∈ TB := tB_of (List.mem_append_left _ (List.mem_of_getElem? h)) hg
theorem tB1 (i : Nat) {w : Cond} (h : tables_1_1[i]? = some w) (hg : goodWord w = true) : w ∈ TB := tB_t (List.mem_append_left _ (List.mem_of_getElem? h)) hg
theorem tB2 (i : Nat) {w : Cond} (h : tables_1_2[i]? = some w) (hg : goodWord w = true) : w ∈ TB := tB_t (List.mem_append_right _ (List.mem_append_left _ (List.mem_of_getElem? h))) hg
theorem tB3 (i : Nat) {w : Cond} (h : tables_1_3[i]? = some w) (hg : goodWord w = true) : w ∈ TB := tB_t (List.mem_append_right _ (List.mem_append_right _ (List.mem_append_left _ (List.mem_of_getElem? h)))) hg
theorem tB4 (i : Nat) {w : Cond} (h : tables_1_4[i]? = some w) (hg : goodWord w = true) : w ∈ TB := tB_t (List.mem_append_right _ (List.mem_append_right _ (List.mem_append_right _ (List.mem_append_left _ (List.mem_of_getElem? h))))) hg
theorem tB5 (i : Nat) {w : Cond} (h : tables_1_5[i]? = some w) (hg : goodWord w = true) : w ∈ TB := tB_t (List.mem_append_right _ (List.mem_append_right _ (List.mem_append_right _ (List.mem_append_right _ (List.mem_append_left _ (List.mem_of_getElem? h)))))) hg
theorem tB6 (i : Nat) {w : Cond} (h : tables_1_6[i]? = some w) (hg : goodWord w = true) : w ∈ TB := tB_t (List.mem_append_right _ (List.mem_append_right _ (List.mem_append_right _ (List.mem_append_right _ (List.mem_append_right _ (List.mem_append_left _ (List.mem_of_getElem? h))))))) hg
theorem tB7 (i : Nat) {w : Cond} (h : tables_1_7[i]? = some w) (hg : goodWord w = true) : w ∈ TB := tB_t (List.mem_append_right _ (List.mem_append_right _ (List.mem_append_right _ (List.mem_append_right _ (List.mem_append_right _ (List.mem_append_right _ (List.mem_of_getElem? h))))))) hg
theorem tw_0_0 : Cond.selects "RateGate$Request" ⟨"RateGate$Request", "readText", "()V"⟩ ⟨"RateGate$Request", "readText", "()V"⟩ ∈ TB := tB0 0 (by rfl) (by rfl)
theorem tw_0_1 : Cond.selects "RateGate$Request" ⟨"RateGate$Request", "endOfPart", "(I)I"⟩ ⟨"RateGate$Request", "endOfPart", "(I)I"⟩ ∈ TB := tB0 1 (by rfl) (by rfl)
theorem tw_0_2 : Cond.selects "RateGate$Request" ⟨"RateGate$Request", "signAt", "(I)C"⟩ ⟨"RateGate$Request", "signAt", "(I)C"⟩ ∈ TB := tB0 2 (by rfl) (by rfl)
theorem tw_0_3 : Cond.selects "RateGate$Request" ⟨"RateGate$Request", "readPart", "(III)V"⟩ ⟨"RateGate$Request", "readPart", "(III)V"⟩ ∈ TB := tB0 3 (by rfl) (by rfl)
theorem tw_0_4 : Cond.selects "RateGate$Request" ⟨"RateGate$Request", "keyIn", "(II)I"⟩ ⟨"RateGate$Request", "keyIn", "(II)I"⟩ ∈ TB := tB0 4 (by rfl) (by rfl)
theorem tw_0_5 : Cond.selects "RateGate$Request" ⟨"RateGate$Request", "setFault", "(Ljava/lang/String;C)V"⟩ ⟨"RateGate$Request", "setFault", "(Ljava/lang/String;C)V"⟩ ∈ TB := tB0 5 (by rfl) (by rfl)
theorem tw_0_6 : Cond.selects "RateGate$Request" ⟨"RateGate$Request", "readValue", "(III)I"⟩ ⟨"RateGate$Request", "readValue", "(III)I"⟩ ∈ TB := tB0 6 (by rfl) (by rfl)
theorem tw_0_7 : Cond.selects "RateGate$Request" ⟨"RateGate$Request", "readDigit", "(III)I"⟩ ⟨"RateGate$Request", "readDigit", "(III)I"⟩ ∈ TB := tB0 7 (by rfl) (by rfl)
theorem tw_0_8 : Cond.selects "RateGate$Request" ⟨"RateGate$Request", "readWeight", "(II)I"⟩ ⟨"RateGate$Request", "readWeight", "(II)I"⟩ ∈ TB := tB0 8 (by rfl) (by rfl)
theorem tw_0_9 : Cond.selects "RateGate$Request" ⟨"RateGate$Request", "readExpress", "(II)I"⟩ ⟨"RateGate$Request", "readExpress", "(II)I"⟩ ∈ TB := tB0 9 (by rfl) (by rfl)
theorem tw_0_10 : Cond.selects "RateGate$Request" ⟨"RateGate$Request", "findMissingKey", "()V"⟩ ⟨"RateGate$Request", "findMissingKey", "()V"⟩ ∈ TB := tB0 10 (by rfl) (by rfl)
theorem tw_0_11 : Cond.selects "java/lang/Throwable" ⟨"java/lang/Throwable", "fillInStackTrace", "(I)Ljava/lang/Throwable;"⟩ ⟨"java/lang/Throwable", "fillInStackTrace", "(I)Ljava/lang/Throwable;"⟩ ∈ TB := tB0 11 (by rfl) (by rfl)
theorem tw_0_12 : Cond.selects "RateGate" ⟨"RateGate", "shipperAt", "(I)LRateGate$Shipper;"⟩ ⟨"RateGate", "shipperAt", "(I)LRateGate$Shipper;"⟩ ∈ TB := tB0 12 (by rfl) (by rfl)
theorem tw_0_13 : Cond.selects "RateGate" ⟨"RateGate", "carrierAt", "(I)LRateGate$Carrier;"⟩ ⟨"RateGate", "carrierAt", "(I)LRateGate$Carrier;"⟩ ∈ TB := tB0 13 (by rfl) (by rfl)
theorem tw_0_14 : Cond.selects "RateGate" ⟨"RateGate", "answerTo", "(LRateGate$Shipper;LRateGate$Carrier;)I"⟩ ⟨"RateGate", "answerTo", "(LRateGate$Shipper;LRateGate$Carrier;)I"⟩ ∈ TB := tB0 14 (by rfl) (by rfl)
theorem tw_0_15 : Cond.selects "RateGate" ⟨"RateGate", "quoteFixingRequest", "()LRateGate$Quote;"⟩ ⟨"RateGate", "quoteFixingRequest", "()LRateGate$Quote;"⟩ ∈ TB := tB0 15 (by rfl) (by rfl)
theorem tw_0_16 : Cond.selects "RateGate" ⟨"RateGate", "addQuote", "(LRateGate$Tariff;I)I"⟩ ⟨"RateGate", "addQuote", "(LRateGate$Tariff;I)I"⟩ ∈ TB := tB0 16 (by rfl) (by rfl)
theorem tw_0_17 : Cond.selects "java/util/ArrayList" ⟨"java/util/ArrayList", "add", "(Ljava/lang/Object;[Ljava/lang/Object;I)V"⟩ ⟨"java/util/ArrayList", "add", "(Ljava/lang/Object;[Ljava/lang/Object;I)V"⟩ ∈ TB := tB0 17 (by rfl) (by rfl)
theorem tw_0_18 : Cond.selects "java/util/ArrayList" ⟨"java/util/ArrayList", "grow", "()[Ljava/lang/Object;"⟩ ⟨"java/util/ArrayList", "grow", "()[Ljava/lang/Object;"⟩ ∈ TB := tB0 18 (by rfl) (by rfl)
theorem tw_0_19 : Cond.selects "java/util/ArrayList" ⟨"java/util/ArrayList", "grow", "(I)[Ljava/lang/Object;"⟩ ⟨"java/util/ArrayList", "grow", "(I)[Ljava/lang/Object;"⟩ ∈ TB := tB0 19 (by rfl) (by rfl)
theorem tw_0_20 : Cond.selects "RateGate$Carrier" ⟨"RateGate$Carrier", "succeedsAt", "(I)Z"⟩ ⟨"RateGate$Carrier", "succeedsAt", "(I)Z"⟩ ∈ TB := tB0 20 (by rfl) (by rfl)
theorem tw_0_21 : Cond.selects "RateGate" ⟨"RateGate", "quoteAt", "(I)LRateGate$Quote;"⟩ ⟨"RateGate", "quoteAt", "(I)LRateGate$Quote;"⟩ ∈ TB := tB0 21 (by rfl) (by rfl)
theorem tw_0_22 : Cond.selects "RateGate" ⟨"RateGate", "parcelAt", "(I)LRateGate$Parcel;"⟩ ⟨"RateGate", "parcelAt", "(I)LRateGate$Parcel;"⟩ ∈ TB := tB0 22 (by rfl) (by rfl)
theorem tw_0_23 : Cond.selects "RateGate" ⟨"RateGate", "dueParcelCosts", "(I)I"⟩ ⟨"RateGate", "dueParcelCosts", "(I)I"⟩ ∈ TB := tB0 23 (by rfl) (by rfl)
theorem tw_0_24 : Cond.selects "RateGate" ⟨"RateGate", "markDueParcels", "(I)V"⟩ ⟨"RateGate", "markDueParcels", "(I)V"⟩ ∈ TB := tB0 24 (by rfl) (by rfl)
theorem tw_0_25 : Cond.selects "RateGateModel" ⟨"RateGateModel", "reads", "()Z"⟩ ⟨"RateGateModel", "reads", "()Z"⟩ ∈ TB := tB0 25 (by rfl) (by rfl)
theorem tw_0_26 : Cond.selects "RateGateModel" ⟨"RateGateModel", "readPart", "(III)V"⟩ ⟨"RateGateModel", "readPart", "(III)V"⟩ ∈ TB := tB0 26 (by rfl) (by rfl)
theorem tw_0_27 : Cond.selects "RateGateModel" ⟨"RateGateModel", "keyOf", "(II)I"⟩ ⟨"RateGateModel", "keyOf", "(II)I"⟩ ∈ TB := tB0 27 (by rfl) (by rfl)
theorem tw_0_28 : Cond.selects "RateGateModel" ⟨"RateGateModel", "fails", "(II)V"⟩ ⟨"RateGateModel", "fails", "(II)V"⟩ ∈ TB := tB0 28 (by rfl) (by rfl)
theorem tw_0_29 : Cond.selects "RateGateModel" ⟨"RateGateModel", "valueOf", "(III)I"⟩ ⟨"RateGateModel", "valueOf", "(III)I"⟩ ∈ TB := tB0 29 (by rfl) (by rfl)
theorem tw_0_30 : Cond.selects "RateGateModel" ⟨"RateGateModel", "number", "(III)I"⟩ ⟨"RateGateModel", "number", "(III)I"⟩ ∈ TB := tB0 30 (by rfl) (by rfl)
theorem tw_0_31 : Cond.selects "RateGateModel" ⟨"RateGateModel", "tells", "()V"⟩ ⟨"RateGateModel", "tells", "()V"⟩ ∈ TB := tB0 31 (by rfl) (by rfl)
theorem tw_0_32 : Cond.selects "RateGateModel" ⟨"RateGateModel", "inWindow", "(I)I"⟩ ⟨"RateGateModel", "inWindow", "(I)I"⟩ ∈ TB := tB0 32 (by rfl) (by rfl)
theorem tw_0_33 : Cond.selects "RateGateModel" ⟨"RateGateModel", "quote", "(III)I"⟩ ⟨"RateGateModel", "quote", "(III)I"⟩ ∈ TB := tB0 33 (by rfl) (by rfl)
theorem tw_0_34 : Cond.selects "RateGateModel" ⟨"RateGateModel", "asked", "(I)I"⟩ ⟨"RateGateModel", "asked", "(I)I"⟩ ∈ TB := tB0 34 (by rfl) (by rfl)
theorem tw_0_35 : Cond.selects "RateGateModel" ⟨"RateGateModel", "circuitOf", "(I)I"⟩ ⟨"RateGateModel", "circuitOf", "(I)I"⟩ ∈ TB := tB0 35 (by rfl) (by rfl)
theorem tw_0_36 : Cond.selects "RateGateModel" ⟨"RateGateModel", "isFailed", "(I)Z"⟩ ⟨"RateGateModel", "isFailed", "(I)Z"⟩ ∈ TB := tB0 36 (by rfl) (by rfl)
theorem tw_0_37 : Cond.selects "RateGateModel" ⟨"RateGateModel", "asksQuote", "(I)Z"⟩ ⟨"RateGateModel", "asksQuote", "(I)Z"⟩ ∈ TB := tB0 37 (by rfl) (by rfl)
theorem tw_0_38 : Cond.selects "RateGateModel" ⟨"RateGateModel", "quoted", "(II)I"⟩ ⟨"RateGateModel", "quoted", "(II)I"⟩ ∈ TB := tB0 38 (by rfl) (by rfl)
theorem tw_0_39 : Cond.selects "RateGateModel" ⟨"RateGateModel", "leftOf", "(I)I"⟩ ⟨"RateGateModel", "leftOf", "(I)I"⟩ ∈ TB := tB0 39 (by rfl) (by rfl)
theorem tw_0_40 : Cond.selects "RateGateModel" ⟨"RateGateModel", "isParcel", "(I)Z"⟩ ⟨"RateGateModel", "isParcel", "(I)Z"⟩ ∈ TB := tB0 40 (by rfl) (by rfl)
theorem tw_0_41 : Cond.selects "RateGateModel" ⟨"RateGateModel", "billOf", "(I)I"⟩ ⟨"RateGateModel", "billOf", "(I)I"⟩ ∈ TB := tB0 41 (by rfl) (by rfl)
theorem tw_0_42 : Cond.selects "RateGateModel" ⟨"RateGateModel", "isDue", "(II)Z"⟩ ⟨"RateGateModel", "isDue", "(II)Z"⟩ ∈ TB := tB0 42 (by rfl) (by rfl)
theorem tw_1_0 : (Jvm.Cond.initialized "RateGateLaw") ∈ TB := tB1 0 (by rfl) (by rfl)
theorem tw_1_1 : (Jvm.Cond.initialized "RateGate") ∈ TB := tB1 1 (by rfl) (by rfl)
theorem tw_1_2 : (Jvm.Cond.initialized "RateGate$Request") ∈ TB := tB1 2 (by rfl) (by rfl)
theorem tw_1_3 : (Jvm.Cond.initialized "RateGate$CallLog") ∈ TB := tB1 3 (by rfl) (by rfl)
theorem tw_1_4 : (Jvm.Cond.initialized "java/util/AbstractCollection") ∈ TB := tB1 4 (by rfl) (by rfl)
theorem tw_1_5 : (Jvm.Cond.initialized "java/util/AbstractList") ∈ TB := tB1 5 (by rfl) (by rfl)
theorem tw_1_6 : (Jvm.Cond.initialized "java/util/ArrayList") ∈ TB := tB1 6 (by rfl) (by rfl)
theorem tw_1_7 : (Jvm.Cond.initialized "RateGate$Shipper") ∈ TB := tB1 7 (by rfl) (by rfl)
theorem tw_1_8 : (Jvm.Cond.initialized "RateGate$Carrier") ∈ TB := tB1 8 (by rfl) (by rfl)
theorem tw_1_9 : (Jvm.Cond.initialized "RateGate$Tariff") ∈ TB := tB1 9 (by rfl) (by rfl)
theorem tw_1_10 : (Jvm.Cond.initialized "RateGateModel") ∈ TB := tB1 10 (by rfl) (by rfl)
theorem tw_1_11 : (Jvm.Cond.initialized "java/lang/Throwable") ∈ TB := tB1 11 (by rfl) (by rfl)
theorem tw_1_12 : (Jvm.Cond.initialized "java/lang/Exception") ∈ TB := tB1 12 (by rfl) (by rfl)
theorem tw_1_13 : (Jvm.Cond.initialized "java/lang/RuntimeException") ∈ TB := tB1 13 (by rfl) (by rfl)
theorem tw_1_14 : (Jvm.Cond.initialized "java/lang/IllegalArgumentException") ∈ TB := tB1 14 (by rfl) (by rfl)
theorem tw_1_15 : (Jvm.Cond.initialized "java/lang/IllegalStateException") ∈ TB := tB1 15 (by rfl) (by rfl)
theorem tw_1_16 : (Jvm.Cond.initialized "java/util/Arrays") ∈ TB := tB1 16 (by rfl) (by rfl)
theorem tw_1_17 : (Jvm.Cond.initialized "java/lang/String") ∈ TB := tB1 17 (by rfl) (by rfl)
theorem tw_1_18 : (Jvm.Cond.initialized "java/lang/StringLatin1") ∈ TB := tB1 18 (by rfl) (by rfl)
theorem tw_1_19 : (Jvm.Cond.initialized "java/lang/Math") ∈ TB := tB1 19 (by rfl) (by rfl)
theorem tw_1_20 : (Jvm.Cond.initialized "java/lang/StringUTF16") ∈ TB := tB1 20 (by rfl) (by rfl)
theorem tw_1_21 : (Jvm.Cond.initialized "jdk/internal/util/Preconditions") ∈ TB := tB1 21 (by rfl) (by rfl)
theorem tw_1_22 : (Jvm.Cond.initialized "java/lang/Character") ∈ TB := tB1 22 (by rfl) (by rfl)
theorem tw_1_23 : (Jvm.Cond.initialized "java/lang/AbstractStringBuilder") ∈ TB := tB1 23 (by rfl) (by rfl)
theorem tw_1_24 : (Jvm.Cond.initialized "java/lang/StringBuilder") ∈ TB := tB1 24 (by rfl) (by rfl)
theorem tw_1_25 : (Jvm.Cond.initialized "jdk/internal/util/ArraysSupport") ∈ TB := tB1 25 (by rfl) (by rfl)
theorem tw_1_26 : (Jvm.Cond.initialized "java/lang/System") ∈ TB := tB1 26 (by rfl) (by rfl)
theorem tw_1_27 : (Jvm.Cond.initialized "java/lang/Number") ∈ TB := tB1 27 (by rfl) (by rfl)
theorem tw_1_28 : (Jvm.Cond.initialized "java/lang/Integer") ∈ TB := tB1 28 (by rfl) (by rfl)
theorem tw_1_29 : (Jvm.Cond.initialized "java/lang/IndexOutOfBoundsException") ∈ TB := tB1 29 (by rfl) (by rfl)
theorem tw_1_30 : (Jvm.Cond.initialized "java/util/Objects") ∈ TB := tB1 30 (by rfl) (by rfl)
theorem tw_1_31 : (Jvm.Cond.initialized "RateGate$Quote") ∈ TB := tB1 31 (by rfl) (by rfl)
theorem tw_1_32 : (Jvm.Cond.initialized "RateGate$Parcel") ∈ TB := tB1 32 (by rfl) (by rfl)
theorem tw_1_33 : (Jvm.Cond.classLink "RateGateLaw" (8 : Nat) "RateGate") ∈ TB := tB1 33 (by rfl) (by rfl)
theorem tw_1_34 : (Jvm.Cond.instantiable "RateGate" (7 : Nat)) ∈ TB := tB1 34 (by rfl) (by rfl)
theorem tw_1_35 : (Jvm.Cond.methodLink "RateGateLaw" (86 : Nat) ({ cls := "RateGate", name := "<init>", desc := "()V" } : Jvm.MethodName)) ∈ TB := tB1 35 (by rfl) (by rfl)
theorem tw_1_36 : (Jvm.Cond.instanceMethod ({ cls := "RateGate", name := "<init>", desc := "()V" } : Jvm.MethodName)) ∈ TB := tB1 36 (by rfl) (by rfl)
theorem tw_1_37 : (Jvm.Cond.code ({ cls := "RateGate", name := "<init>", desc := "()V" } : Jvm.MethodName) prog_1_method_1_code (2 : Nat) (Option.none : Option Jvm.ClassFile.FieldType)) ∈ TB := tB1 37 (by rfl) (by rfl)
theorem tw_1_38 : (Jvm.Cond.methodLink "RateGate" (1 : Nat) ({ cls := "java/lang/Object", name := "<init>", desc := "()V" } : Jvm.MethodName)) ∈ TB := tB1 38 (by rfl) (by rfl)
theorem tw_1_39 : (Jvm.Cond.instanceMethod ({ cls := "java/lang/Object", name := "<init>", desc := "()V" } : Jvm.MethodName)) ∈ TB := tB1 39 (by rfl) (by rfl)
theorem tw_1_40 : (Jvm.Cond.code ({ cls := "java/lang/Object", name := "<init>", desc := "()V" } : Jvm.MethodName) object_method_1_code (1 : Nat) (Option.none : Option Jvm.ClassFile.FieldType)) ∈ TB := tB1 40 (by rfl) (by rfl)
theorem tw_1_41 : (Jvm.Cond.classLink "RateGate" (7 : Nat) "RateGate$Request") ∈ TB := tB1 41 (by rfl) (by rfl)
theorem tw_1_42 : (Jvm.Cond.instantiable "RateGate$Request" (5 : Nat)) ∈ TB := tB1 42 (by rfl) (by rfl)
theorem tw_1_44 : (Jvm.Cond.instanceMethod ({ cls := "RateGate$Request", name := "<init>", desc := "()V" } : Jvm.MethodName)) ∈ TB := tB1 44 (by rfl) (by rfl)
theorem tw_1_45 : (Jvm.Cond.code ({ cls := "RateGate$Request", name := "<init>", desc := "()V" } : Jvm.MethodName) prog_6_method_1_code (1 : Nat) (Option.none : Option Jvm.ClassFile.FieldType)) ∈ TB := tB1 45 (by rfl) (by rfl)
theorem tw_1_46 : (Jvm.Cond.methodLink "RateGate$Request" (3 : Nat) ({ cls := "java/lang/Object", name := "<init>", desc := "()V" } : Jvm.MethodName)) ∈ TB := tB1 46 (by rfl) (by rfl)
theorem tw_1_48 : (Jvm.Cond.fieldLink "RateGate$Request" (11 : Nat) "RateGate$Request" "signs" "[C") ∈ TB := tB1 48 (by rfl) (by rfl)
theorem tw_1_49 : (Jvm.Cond.fieldLink "RateGate$Request" (15 : Nat) "RateGate$Request" "values" "[I") ∈ TB := tB1 49 (by rfl) (by rfl)
theorem tw_1_50 : (Jvm.Cond.fieldLink "RateGate$Request" (19 : Nat) "RateGate$Request" "length" "I") ∈ TB := tB1 50 (by rfl) (by rfl)
theorem tw_1_51 : (Jvm.Cond.fieldLink "RateGate$Request" (25 : Nat) "RateGate$Request" "faultWord" "Ljava/lang/String;") ∈ TB := tB1 51 (by rfl) (by rfl)
theorem tw_1_52 : (Jvm.Cond.fieldLink "RateGate$Request" (29 : Nat) "RateGate$Request" "faultKey" "C") ∈ TB := tB1 52 (by rfl) (by rfl)
theorem tw_1_53 : (Jvm.Cond.laysFinal "RateGate$Request" "RateGate$Request" "signs" "[C") ∈ TB := tB1 53 (by rfl) (by rfl)
theorem tw_1_55 : (Jvm.Cond.laysFinal "RateGate$Request" "RateGate$Request" "values" "[I") ∈ TB := tB1 55 (by rfl) (by rfl)
theorem tw_1_57 : (Jvm.Cond.lays "RateGate$Request" "RateGate$Request" "length" "I") ∈ TB := tB1 57 (by rfl) (by rfl)
theorem tw_1_59 : (Jvm.Cond.lays "RateGate$Request" "RateGate$Request" "faultWord" "Ljava/lang/String;") ∈ TB := tB1 59 (by rfl) (by rfl)
theorem tw_1_61 : (Jvm.Cond.lays "RateGate$Request" "RateGate$Request" "faultKey" "C") ∈ TB := tB1 61 (by rfl) (by rfl)
theorem tw_1_63 : (Jvm.Cond.superclass "RateGate$Request" "java/lang/Object") ∈ TB := tB1 63 (by rfl) (by rfl)
theorem tw_1_64 : (Jvm.Cond.arrayClass Jvm.ClassFile.FieldType.char) ∈ TB := tB1 64 (by rfl) (by rfl)
theorem tw_1_65 : (Jvm.Cond.arrayClass Jvm.ClassFile.FieldType.int) ∈ TB := tB1 65 (by rfl) (by rfl)
theorem tw_1_66 : (Jvm.Cond.arrayClass Jvm.ClassFile.FieldType.byte) ∈ TB := tB1 66 (by rfl) (by rfl)
theorem tw_1_67 : (Jvm.Cond.classLink "RateGate" (16 : Nat) "RateGate$CallLog") ∈ TB := tB1 67 (by rfl) (by rfl)
theorem tw_1_68 : (Jvm.Cond.instantiable "RateGate$CallLog" (6 : Nat)) ∈ TB := tB1 68 (by rfl) (by rfl)
theorem tw_1_70 : (Jvm.Cond.instanceMethod ({ cls := "RateGate$CallLog", name := "<init>", desc := "()V" } : Jvm.MethodName)) ∈ TB := tB1 70 (by rfl) (by rfl)
theorem tw_1_71 : (Jvm.Cond.code ({ cls := "RateGate$CallLog", name := "<init>", desc := "()V" } : Jvm.MethodName) prog_2_method_1_code (1 : Nat) (Option.none : Option Jvm.ClassFile.FieldType)) ∈ TB := tB1 71 (by rfl) (by rfl)
theorem tw_1_72 : (Jvm.Cond.methodLink "RateGate$CallLog" (1 : Nat) ({ cls := "java/lang/Object", name := "<init>", desc := "()V" } : Jvm.MethodName)) ∈ TB := tB1 72 (by rfl) (by rfl)
theorem tw_1_73 : (Jvm.Cond.fieldLink "RateGate$CallLog" (7 : Nat) "RateGate$CallLog" "total" "I") ∈ TB := tB1 73 (by rfl) (by rfl)
theorem tw_1_74 : (Jvm.Cond.fieldLink "RateGate" (203 : Nat) "RateGate$CallLog" "total" "I") ∈ TB := tB1 74 (by rfl) (by rfl)
theorem tw_1_75 : (Jvm.Cond.fieldLink "RateGate$CallLog" (13 : Nat) "RateGate$CallLog" "shippers" "[I") ∈ TB := tB1 75 (by rfl) (by rfl)
theorem tw_1_76 : (Jvm.Cond.fieldLink "RateGate$CallLog" (17 : Nat) "RateGate$CallLog" "minutes" "[I") ∈ TB := tB1 76 (by rfl) (by rfl)
theorem tw_1_77 : (Jvm.Cond.fieldLink "RateGate$CallLog" (20 : Nat) "RateGate$CallLog" "areLimited" "[Z") ∈ TB := tB1 77 (by rfl) (by rfl)
theorem tw_1_78 : (Jvm.Cond.fieldLink "RateGate$CallLog" (24 : Nat) "RateGate$CallLog" "kept" "I") ∈ TB := tB1 78 (by rfl) (by rfl)
theorem tw_1_79 : (Jvm.Cond.fieldLink "RateGate$CallLog" (27 : Nat) "RateGate$CallLog" "next" "I") ∈ TB := tB1 79 (by rfl) (by rfl)
theorem tw_1_80 : (Jvm.Cond.lays "RateGate$CallLog" "RateGate$CallLog" "total" "I") ∈ TB := tB1 80 (by rfl) (by rfl)
theorem tw_1_82 : (Jvm.Cond.laysFinal "RateGate$CallLog" "RateGate$CallLog" "shippers" "[I") ∈ TB := tB1 82 (by rfl) (by rfl)
theorem tw_1_84 : (Jvm.Cond.laysFinal "RateGate$CallLog" "RateGate$CallLog" "minutes" "[I") ∈ TB := tB1 84 (by rfl) (by rfl)
theorem tw_1_86 : (Jvm.Cond.laysFinal "RateGate$CallLog" "RateGate$CallLog" "areLimited" "[Z") ∈ TB := tB1 86 (by rfl) (by rfl)
theorem tw_1_88 : (Jvm.Cond.lays "RateGate$CallLog" "RateGate$CallLog" "kept" "I") ∈ TB := tB1 88 (by rfl) (by rfl)
theorem tw_1_90 : (Jvm.Cond.lays "RateGate$CallLog" "RateGate$CallLog" "next" "I") ∈ TB := tB1 90 (by rfl) (by rfl)
theorem tw_1_92 : (Jvm.Cond.superclass "RateGate$CallLog" "java/lang/Object") ∈ TB := tB1 92 (by rfl) (by rfl)
theorem tw_1_93 : (Jvm.Cond.arrayClass Jvm.ClassFile.FieldType.boolean) ∈ TB := tB1 93 (by rfl) (by rfl)
theorem tw_1_94 : (Jvm.Cond.classLink "RateGate" (23 : Nat) "RateGate$Shipper") ∈ TB := tB1 94 (by rfl) (by rfl)
theorem tw_1_96 : (Jvm.Cond.classLink "RateGate" (29 : Nat) "RateGate$Carrier") ∈ TB := tB1 96 (by rfl) (by rfl)
theorem tw_1_98 : (Jvm.Cond.classLink "RateGate" (35 : Nat) "java/util/ArrayList") ∈ TB := tB1 98 (by rfl) (by rfl)
theorem tw_1_99 : (Jvm.Cond.instantiable "java/util/ArrayList" (3 : Nat)) ∈ TB := tB1 99 (by rfl) (by rfl)
theorem tw_1_100 : (Jvm.Cond.methodLink "RateGate" (37 : Nat) ({ cls := "java/util/ArrayList", name := "<init>", desc := "()V" } : Jvm.MethodName)) ∈ TB := tB1 100 (by rfl) (by rfl)
theorem tw_1_101 : (Jvm.Cond.instanceMethod ({ cls := "java/util/ArrayList", name := "<init>", desc := "()V" } : Jvm.MethodName)) ∈ TB := tB1 101 (by rfl) (by rfl)
theorem tw_1_102 : (Jvm.Cond.code ({ cls := "java/util/ArrayList", name := "<init>", desc := "()V" } : Jvm.MethodName) prog_37_method_2_code (1 : Nat) (Option.none : Option Jvm.ClassFile.FieldType)) ∈ TB := tB1 102 (by rfl) (by rfl)
theorem tw_1_103 : (Jvm.Cond.methodLink "java/util/ArrayList" (1 : Nat) ({ cls := "java/util/AbstractList", name := "<init>", desc := "()V" } : Jvm.MethodName)) ∈ TB := tB1 103 (by rfl) (by rfl)
theorem tw_1_104 : (Jvm.Cond.instanceMethod ({ cls := "java/util/AbstractList", name := "<init>", desc := "()V" } : Jvm.MethodName)) ∈ TB := tB1 104 (by rfl) (by rfl)
theorem tw_1_105 : (Jvm.Cond.code ({ cls := "java/util/AbstractList", name := "<init>", desc := "()V" } : Jvm.MethodName) prog_36_method_1_code (1 : Nat) (Option.none : Option Jvm.ClassFile.FieldType)) ∈ TB := tB1 105 (by rfl) (by rfl)
theorem tw_1_106 : (Jvm.Cond.methodLink "java/util/AbstractList" (1 : Nat) ({ cls := "java/util/AbstractCollection", name := "<init>", desc := "()V" } : Jvm.MethodName)) ∈ TB := tB1 106 (by rfl) (by rfl)
theorem tw_1_107 : (Jvm.Cond.instanceMethod ({ cls := "java/util/AbstractCollection", name := "<init>", desc := "()V" } : Jvm.MethodName)) ∈ TB := tB1 107 (by rfl) (by rfl)
theorem tw_1_108 : (Jvm.Cond.code ({ cls := "java/util/AbstractCollection", name := "<init>", desc := "()V" } : Jvm.MethodName) prog_35_method_1_code (1 : Nat) (Option.none : Option Jvm.ClassFile.FieldType)) ∈ TB := tB1 108 (by rfl) (by rfl)
theorem tw_1_109 : (Jvm.Cond.methodLink "java/util/AbstractCollection" (1 : Nat) ({ cls := "java/lang/Object", name := "<init>", desc := "()V" } : Jvm.MethodName)) ∈ TB := tB1 109 (by rfl) (by rfl)
theorem tw_1_110 : (Jvm.Cond.fieldLink "java/util/ArrayList" (39 : Nat) "java/util/ArrayList" "DEFAULTCAPACITY_EMPTY_ELEMENTDATA" "[Ljava/lang/Object;") ∈ TB := tB1 110 (by rfl) (by rfl)
theorem tw_1_112 : (Jvm.Cond.fieldLink "java/util/ArrayList" (9 : Nat) "java/util/ArrayList" "elementData" "[Ljava/lang/Object;") ∈ TB := tB1 112 (by rfl) (by rfl)
theorem tw_1_113 : (Jvm.Cond.fieldLink "java/util/ArrayList" (48 : Nat) "java/util/ArrayList" "size" "I") ∈ TB := tB1 113 (by rfl) (by rfl)
theorem tw_1_114 : (Jvm.Cond.fieldLink "java/util/AbstractList" (7 : Nat) "java/util/AbstractList" "modCount" "I") ∈ TB := tB1 114 (by rfl) (by rfl)
theorem tw_1_115 : (Jvm.Cond.fieldLink "java/util/ArrayList" (63 : Nat) "java/util/ArrayList" "modCount" "I") ∈ TB := tB1 115 (by rfl) (by rfl)
theorem tw_1_117 : (Jvm.Cond.lays "java/util/ArrayList" "java/util/ArrayList" "elementData" "[Ljava/lang/Object;") ∈ TB := tB1 117 (by rfl) (by rfl)
theorem tw_1_119 : (Jvm.Cond.lays "java/util/ArrayList" "java/util/ArrayList" "size" "I") ∈ TB := tB1 119 (by rfl) (by rfl)
theorem tw_1_121 : (Jvm.Cond.lays "java/util/ArrayList" "java/util/AbstractList" "modCount" "I") ∈ TB := tB1 121 (by rfl) (by rfl)
theorem tw_1_123 : (Jvm.Cond.superclass "java/util/ArrayList" "java/util/AbstractList") ∈ TB := tB1 123 (by rfl) (by rfl)
theorem tw_1_124 : (Jvm.Cond.instantiable "RateGate$Shipper" (7 : Nat)) ∈ TB := tB1 124 (by rfl) (by rfl)
theorem tw_1_126 : (Jvm.Cond.instanceMethod ({ cls := "RateGate$Shipper", name := "<init>", desc := "()V" } : Jvm.MethodName)) ∈ TB := tB1 126 (by rfl) (by rfl)
theorem tw_1_127 : (Jvm.Cond.code ({ cls := "RateGate$Shipper", name := "<init>", desc := "()V" } : Jvm.MethodName) prog_7_method_1_code (1 : Nat) (Option.none : Option Jvm.ClassFile.FieldType)) ∈ TB := tB1 127 (by rfl) (by rfl)
theorem tw_1_128 : (Jvm.Cond.methodLink "RateGate$Shipper" (3 : Nat) ({ cls := "java/lang/Object", name := "<init>", desc := "()V" } : Jvm.MethodName)) ∈ TB := tB1 128 (by rfl) (by rfl)
theorem tw_1_129 : (Jvm.Cond.fieldLink "RateGate$Shipper" (9 : Nat) "RateGate$Shipper" "quotaCalls" "I") ∈ TB := tB1 129 (by rfl) (by rfl)
theorem tw_1_130 : (Jvm.Cond.fieldLink "RateGate" (114 : Nat) "RateGate$Shipper" "quotaCalls" "I") ∈ TB := tB1 130 (by rfl) (by rfl)
theorem tw_1_131 : (Jvm.Cond.fieldLink "RateGate$Shipper" (15 : Nat) "RateGate$Shipper" "quotaMinutes" "I") ∈ TB := tB1 131 (by rfl) (by rfl)
theorem tw_1_132 : (Jvm.Cond.fieldLink "RateGate" (117 : Nat) "RateGate$Shipper" "quotaMinutes" "I") ∈ TB := tB1 132 (by rfl) (by rfl)
theorem tw_1_133 : (Jvm.Cond.fieldLink "RateGate$Shipper" (18 : Nat) "RateGate$Shipper" "callCosts" "I") ∈ TB := tB1 133 (by rfl) (by rfl)
theorem tw_1_134 : (Jvm.Cond.fieldLink "RateGate" (248 : Nat) "RateGate$Shipper" "callCosts" "I") ∈ TB := tB1 134 (by rfl) (by rfl)
theorem tw_1_135 : (Jvm.Cond.fieldLink "RateGate$Shipper" (21 : Nat) "RateGate$Shipper" "allBills" "I") ∈ TB := tB1 135 (by rfl) (by rfl)
theorem tw_1_136 : (Jvm.Cond.fieldLink "RateGate" (258 : Nat) "RateGate$Shipper" "allBills" "I") ∈ TB := tB1 136 (by rfl) (by rfl)
theorem tw_1_137 : (Jvm.Cond.fieldLink "RateGate$Shipper" (24 : Nat) "RateGate$Shipper" "lastMinutes" "[I") ∈ TB := tB1 137 (by rfl) (by rfl)
theorem tw_1_138 : (Jvm.Cond.fieldLink "RateGate$Shipper" (28 : Nat) "RateGate$Shipper" "kept" "I") ∈ TB := tB1 138 (by rfl) (by rfl)
theorem tw_1_139 : (Jvm.Cond.fieldLink "RateGate$Shipper" (31 : Nat) "RateGate$Shipper" "next" "I") ∈ TB := tB1 139 (by rfl) (by rfl)
theorem tw_1_140 : (Jvm.Cond.lays "RateGate$Shipper" "RateGate$Shipper" "quotaCalls" "I") ∈ TB := tB1 140 (by rfl) (by rfl)
theorem tw_1_142 : (Jvm.Cond.lays "RateGate$Shipper" "RateGate$Shipper" "quotaMinutes" "I") ∈ TB := tB1 142 (by rfl) (by rfl)
theorem tw_1_144 : (Jvm.Cond.lays "RateGate$Shipper" "RateGate$Shipper" "callCosts" "I") ∈ TB := tB1 144 (by rfl) (by rfl)
theorem tw_1_146 : (Jvm.Cond.lays "RateGate$Shipper" "RateGate$Shipper" "allBills" "I") ∈ TB := tB1 146 (by rfl) (by rfl)
theorem tw_1_148 : (Jvm.Cond.laysFinal "RateGate$Shipper" "RateGate$Shipper" "lastMinutes" "[I") ∈ TB := tB1 148 (by rfl) (by rfl)
theorem tw_1_150 : (Jvm.Cond.lays "RateGate$Shipper" "RateGate$Shipper" "kept" "I") ∈ TB := tB1 150 (by rfl) (by rfl)
theorem tw_1_152 : (Jvm.Cond.lays "RateGate$Shipper" "RateGate$Shipper" "next" "I") ∈ TB := tB1 152 (by rfl) (by rfl)
theorem tw_1_154 : (Jvm.Cond.superclass "RateGate$Shipper" "java/lang/Object") ∈ TB := tB1 154 (by rfl) (by rfl)
theorem tw_1_155 : (Jvm.Cond.instantiable "RateGate$Carrier" (7 : Nat)) ∈ TB := tB1 155 (by rfl) (by rfl)
theorem tw_1_157 : (Jvm.Cond.instanceMethod ({ cls := "RateGate$Carrier", name := "<init>", desc := "()V" } : Jvm.MethodName)) ∈ TB := tB1 157 (by rfl) (by rfl)
theorem tw_1_158 : (Jvm.Cond.code ({ cls := "RateGate$Carrier", name := "<init>", desc := "()V" } : Jvm.MethodName) prog_3_method_1_code (1 : Nat) (Option.none : Option Jvm.ClassFile.FieldType)) ∈ TB := tB1 158 (by rfl) (by rfl)
theorem tw_1_159 : (Jvm.Cond.methodLink "RateGate$Carrier" (3 : Nat) ({ cls := "java/lang/Object", name := "<init>", desc := "()V" } : Jvm.MethodName)) ∈ TB := tB1 159 (by rfl) (by rfl)
theorem tw_1_160 : (Jvm.Cond.classLink "RateGate$Carrier" (22 : Nat) "RateGate$Tariff") ∈ TB := tB1 160 (by rfl) (by rfl)
theorem tw_1_161 : (Jvm.Cond.instantiable "RateGate$Tariff" (3 : Nat)) ∈ TB := tB1 161 (by rfl) (by rfl)
theorem tw_1_162 : (Jvm.Cond.methodLink "RateGate$Carrier" (24 : Nat) ({ cls := "RateGate$Tariff", name := "<init>", desc := "(III)V" } : Jvm.MethodName)) ∈ TB := tB1 162 (by rfl) (by rfl)
theorem tw_1_163 : (Jvm.Cond.instanceMethod ({ cls := "RateGate$Tariff", name := "<init>", desc := "(III)V" } : Jvm.MethodName)) ∈ TB := tB1 163 (by rfl) (by rfl)
theorem tw_1_164 : (Jvm.Cond.code ({ cls := "RateGate$Tariff", name := "<init>", desc := "(III)V" } : Jvm.MethodName) prog_8_method_1_code (4 : Nat) (Option.none : Option Jvm.ClassFile.FieldType)) ∈ TB := tB1 164 (by rfl) (by rfl)
theorem tw_1_165 : (Jvm.Cond.methodLink "RateGate$Tariff" (1 : Nat) ({ cls := "java/lang/Object", name := "<init>", desc := "()V" } : Jvm.MethodName)) ∈ TB := tB1 165 (by rfl) (by rfl)
theorem tw_1_166 : (Jvm.Cond.fieldLink "RateGate$Tariff" (7 : Nat) "RateGate$Tariff" "base" "I") ∈ TB := tB1 166 (by rfl) (by rfl)
theorem tw_1_167 : (Jvm.Cond.fieldLink "RateGate$Quote" (42 : Nat) "RateGate$Tariff" "base" "I") ∈ TB := tB1 167 (by rfl) (by rfl)
theorem tw_1_168 : (Jvm.Cond.fieldLink "RateGate" (139 : Nat) "RateGate$Tariff" "base" "I") ∈ TB := tB1 168 (by rfl) (by rfl)
theorem tw_1_169 : (Jvm.Cond.fieldLink "RateGate$Tariff" (13 : Nat) "RateGate$Tariff" "perZone" "I") ∈ TB := tB1 169 (by rfl) (by rfl)
theorem tw_1_170 : (Jvm.Cond.fieldLink "RateGate$Quote" (47 : Nat) "RateGate$Tariff" "perZone" "I") ∈ TB := tB1 170 (by rfl) (by rfl)
theorem tw_1_171 : (Jvm.Cond.fieldLink "RateGate$Tariff" (16 : Nat) "RateGate$Tariff" "perWeight" "I") ∈ TB := tB1 171 (by rfl) (by rfl)
theorem tw_1_172 : (Jvm.Cond.fieldLink "RateGate$Quote" (55 : Nat) "RateGate$Tariff" "perWeight" "I") ∈ TB := tB1 172 (by rfl) (by rfl)
theorem tw_1_173 : (Jvm.Cond.laysFinal "RateGate$Tariff" "RateGate$Tariff" "base" "I") ∈ TB := tB1 173 (by rfl) (by rfl)
theorem tw_1_175 : (Jvm.Cond.laysFinal "RateGate$Tariff" "RateGate$Tariff" "perZone" "I") ∈ TB := tB1 175 (by rfl) (by rfl)
theorem tw_1_177 : (Jvm.Cond.laysFinal "RateGate$Tariff" "RateGate$Tariff" "perWeight" "I") ∈ TB := tB1 177 (by rfl) (by rfl)
theorem tw_1_179 : (Jvm.Cond.superclass "RateGate$Tariff" "java/lang/Object") ∈ TB := tB1 179 (by rfl) (by rfl)
theorem tw_1_180 : (Jvm.Cond.fieldLink "RateGate$Carrier" (9 : Nat) "RateGate$Carrier" "isUp" "Z") ∈ TB := tB1 180 (by rfl) (by rfl)
theorem tw_1_181 : (Jvm.Cond.fieldLink "RateGate" (129 : Nat) "RateGate$Carrier" "isUp" "Z") ∈ TB := tB1 181 (by rfl) (by rfl)
theorem tw_1_182 : (Jvm.Cond.fieldLink "RateGate$Carrier" (15 : Nat) "RateGate$Carrier" "flaw" "I") ∈ TB := tB1 182 (by rfl) (by rfl)
theorem tw_1_183 : (Jvm.Cond.fieldLink "RateGate" (126 : Nat) "RateGate$Carrier" "flaw" "I") ∈ TB := tB1 183 (by rfl) (by rfl)
theorem tw_1_184 : (Jvm.Cond.fieldLink "RateGate$Carrier" (19 : Nat) "RateGate$Carrier" "triesHad" "I") ∈ TB := tB1 184 (by rfl) (by rfl)
theorem tw_1_185 : (Jvm.Cond.fieldLink "RateGate" (200 : Nat) "RateGate$Carrier" "triesHad" "I") ∈ TB := tB1 185 (by rfl) (by rfl)
theorem tw_1_186 : (Jvm.Cond.fieldLink "RateGate$Carrier" (27 : Nat) "RateGate$Carrier" "rates" "LRateGate$Tariff;") ∈ TB := tB1 186 (by rfl) (by rfl)
theorem tw_1_187 : (Jvm.Cond.fieldLink "RateGate" (135 : Nat) "RateGate$Carrier" "rates" "LRateGate$Tariff;") ∈ TB := tB1 187 (by rfl) (by rfl)
theorem tw_1_188 : (Jvm.Cond.fieldLink "RateGate$Carrier" (31 : Nat) "RateGate$Carrier" "failsInRow" "I") ∈ TB := tB1 188 (by rfl) (by rfl)
theorem tw_1_189 : (Jvm.Cond.fieldLink "RateGate$Carrier" (34 : Nat) "RateGate$Carrier" "hasOpened" "Z") ∈ TB := tB1 189 (by rfl) (by rfl)
theorem tw_1_190 : (Jvm.Cond.fieldLink "RateGate$Carrier" (37 : Nat) "RateGate$Carrier" "openEnd" "I") ∈ TB := tB1 190 (by rfl) (by rfl)
theorem tw_1_191 : (Jvm.Cond.lays "RateGate$Carrier" "RateGate$Carrier" "isUp" "Z") ∈ TB := tB1 191 (by rfl) (by rfl)
theorem tw_1_193 : (Jvm.Cond.lays "RateGate$Carrier" "RateGate$Carrier" "flaw" "I") ∈ TB := tB1 193 (by rfl) (by rfl)
theorem tw_1_195 : (Jvm.Cond.lays "RateGate$Carrier" "RateGate$Carrier" "triesHad" "I") ∈ TB := tB1 195 (by rfl) (by rfl)
theorem tw_1_197 : (Jvm.Cond.lays "RateGate$Carrier" "RateGate$Carrier" "rates" "LRateGate$Tariff;") ∈ TB := tB1 197 (by rfl) (by rfl)
theorem tw_1_199 : (Jvm.Cond.lays "RateGate$Carrier" "RateGate$Carrier" "failsInRow" "I") ∈ TB := tB1 199 (by rfl) (by rfl)
theorem tw_1_201 : (Jvm.Cond.lays "RateGate$Carrier" "RateGate$Carrier" "hasOpened" "Z") ∈ TB := tB1 201 (by rfl) (by rfl)
theorem tw_1_203 : (Jvm.Cond.lays "RateGate$Carrier" "RateGate$Carrier" "openEnd" "I") ∈ TB := tB1 203 (by rfl) (by rfl)
theorem tw_1_205 : (Jvm.Cond.superclass "RateGate$Carrier" "java/lang/Object") ∈ TB := tB1 205 (by rfl) (by rfl)
theorem tw_1_206 : (Jvm.Cond.fieldLink "RateGate" (10 : Nat) "RateGate" "request" "LRateGate$Request;") ∈ TB := tB1 206 (by rfl) (by rfl)
theorem tw_1_207 : (Jvm.Cond.fieldLink "RateGate" (19 : Nat) "RateGate" "log" "LRateGate$CallLog;") ∈ TB := tB1 207 (by rfl) (by rfl)
theorem tw_1_208 : (Jvm.Cond.fieldLink "RateGate" (25 : Nat) "RateGate" "shippers" "[LRateGate$Shipper;") ∈ TB := tB1 208 (by rfl) (by rfl)
theorem tw_1_209 : (Jvm.Cond.fieldLink "RateGate" (31 : Nat) "RateGate" "carriers" "[LRateGate$Carrier;") ∈ TB := tB1 209 (by rfl) (by rfl)
theorem tw_1_210 : (Jvm.Cond.fieldLink "RateGate" (38 : Nat) "RateGate" "quotes" "Ljava/util/List;") ∈ TB := tB1 210 (by rfl) (by rfl)
theorem tw_1_211 : (Jvm.Cond.fieldLink "RateGate" (42 : Nat) "RateGate" "parcels" "Ljava/util/List;") ∈ TB := tB1 211 (by rfl) (by rfl)
theorem tw_1_212 : (Jvm.Cond.fieldLink "RateGate" (45 : Nat) "RateGate" "now" "I") ∈ TB := tB1 212 (by rfl) (by rfl)
theorem tw_1_213 : (Jvm.Cond.laysFinal "RateGate" "RateGate" "request" "LRateGate$Request;") ∈ TB := tB1 213 (by rfl) (by rfl)
theorem tw_1_215 : (Jvm.Cond.laysFinal "RateGate" "RateGate" "log" "LRateGate$CallLog;") ∈ TB := tB1 215 (by rfl) (by rfl)
theorem tw_1_217 : (Jvm.Cond.laysFinal "RateGate" "RateGate" "shippers" "[LRateGate$Shipper;") ∈ TB := tB1 217 (by rfl) (by rfl)
theorem tw_1_219 : (Jvm.Cond.laysFinal "RateGate" "RateGate" "carriers" "[LRateGate$Carrier;") ∈ TB := tB1 219 (by rfl) (by rfl)
theorem tw_1_221 : (Jvm.Cond.laysFinal "RateGate" "RateGate" "quotes" "Ljava/util/List;") ∈ TB := tB1 221 (by rfl) (by rfl)
theorem tw_1_223 : (Jvm.Cond.laysFinal "RateGate" "RateGate" "parcels" "Ljava/util/List;") ∈ TB := tB1 223 (by rfl) (by rfl)
theorem tw_1_225 : (Jvm.Cond.lays "RateGate" "RateGate" "now" "I") ∈ TB := tB1 225 (by rfl) (by rfl)
theorem tw_1_227 : (Jvm.Cond.superclass "RateGate" "java/lang/Object") ∈ TB := tB1 227 (by rfl) (by rfl)
theorem tw_1_228 : (Jvm.Cond.methodLink "RateGateLaw" (99 : Nat) ({ cls := "RateGate", name := "wipe", desc := "()I" } : Jvm.MethodName)) ∈ TB := tB1 228 (by rfl) (by rfl)
theorem tw_1_229 : (Jvm.Cond.instanceMethod ({ cls := "RateGate", name := "wipe", desc := "()I" } : Jvm.MethodName)) ∈ TB := tB1 229 (by rfl) (by rfl)
theorem tw_1_230 : (Jvm.Cond.selects "RateGate" ({ cls := "RateGate", name := "wipe", desc := "()I" } : Jvm.MethodName) ({ cls := "RateGate", name := "wipe", desc := "()I" } : Jvm.MethodName)) ∈ TB := tB1 230 (by rfl) (by rfl)
theorem tw_1_231 : (Jvm.Cond.code ({ cls := "RateGate", name := "wipe", desc := "()I" } : Jvm.MethodName) prog_1_method_3_code (1 : Nat) (Option.some Jvm.ClassFile.FieldType.int)) ∈ TB := tB1 231 (by rfl) (by rfl)
theorem tw_1_232 : (Jvm.Cond.methodLink "RateGate" (75 : Nat) ({ cls := "RateGate$Request", name := "empty", desc := "()I" } : Jvm.MethodName)) ∈ TB := tB1 232 (by rfl) (by rfl)
theorem tw_1_233 : (Jvm.Cond.instanceMethod ({ cls := "RateGate$Request", name := "empty", desc := "()I" } : Jvm.MethodName)) ∈ TB := tB1 233 (by rfl) (by rfl)
theorem tw_1_234 : (Jvm.Cond.selects "RateGate$Request" ({ cls := "RateGate$Request", name := "empty", desc := "()I" } : Jvm.MethodName) ({ cls := "RateGate$Request", name := "empty", desc := "()I" } : Jvm.MethodName)) ∈ TB := tB1 234 (by rfl) (by rfl)
theorem tw_1_235 : (Jvm.Cond.code ({ cls := "RateGate$Request", name := "empty", desc := "()I" } : Jvm.MethodName) prog_6_method_5_code (2 : Nat) (Option.some Jvm.ClassFile.FieldType.int)) ∈ TB := tB1 235 (by rfl) (by rfl)
theorem tw_1_236 : (Jvm.Cond.methodLink "RateGateLaw" (103 : Nat) ({ cls := "RateGate", name := "isRight", desc := "()Z" } : Jvm.MethodName)) ∈ TB := tB1 236 (by rfl) (by rfl)
theorem tw_1_237 : (Jvm.Cond.instanceMethod ({ cls := "RateGate", name := "isRight", desc := "()Z" } : Jvm.MethodName)) ∈ TB := tB1 237 (by rfl) (by rfl)
theorem tw_1_238 : (Jvm.Cond.selects "RateGate" ({ cls := "RateGate", name := "isRight", desc := "()Z" } : Jvm.MethodName) ({ cls := "RateGate", name := "isRight", desc := "()Z" } : Jvm.MethodName)) ∈ TB := tB1 238 (by rfl) (by rfl)
theorem tw_1_239 : (Jvm.Cond.code ({ cls := "RateGate", name := "isRight", desc := "()Z" } : Jvm.MethodName) prog_1_method_4_code (1 : Nat) (Option.some Jvm.ClassFile.FieldType.boolean)) ∈ TB := tB1 239 (by rfl) (by rfl)
theorem tw_2_0 : (Jvm.Cond.methodLink "RateGate" (79 : Nat) ({ cls := "RateGate$Request", name := "faultText", desc := "()Ljava/lang/String;" } : Jvm.MethodName)) ∈ TB := tB2 0 (by rfl) (by rfl)
theorem tw_2_1 : (Jvm.Cond.instanceMethod ({ cls := "RateGate$Request", name := "faultText", desc := "()Ljava/lang/String;" } : Jvm.MethodName)) ∈ TB := tB2 1 (by rfl) (by rfl)
theorem tw_2_2 : (Jvm.Cond.selects "RateGate$Request" ({ cls := "RateGate$Request", name := "faultText", desc := "()Ljava/lang/String;" } : Jvm.MethodName) ({ cls := "RateGate$Request", name := "faultText", desc := "()Ljava/lang/String;" } : Jvm.MethodName)) ∈ TB := tB2 2 (by rfl) (by rfl)
theorem tw_2_3 : (Jvm.Cond.code ({ cls := "RateGate$Request", name := "faultText", desc := "()Ljava/lang/String;" } : Jvm.MethodName) prog_6_method_6_code (2 : Nat) (Option.some (Jvm.ClassFile.FieldType.object "java/lang/String"))) ∈ TB := tB2 3 (by rfl) (by rfl)
theorem tw_2_4 : (Jvm.Cond.methodLink "RateGate$Request" (37 : Nat) ({ cls := "RateGate$Request", name := "readText", desc := "()V" } : Jvm.MethodName)) ∈ TB := tB2 4 (by rfl) (by rfl)
theorem tw_2_6 : (Jvm.Cond.instanceMethod ({ cls := "RateGate$Request", name := "readText", desc := "()V" } : Jvm.MethodName)) ∈ TB := tB2 6 (by rfl) (by rfl)
theorem tw_2_7 : (Jvm.Cond.code ({ cls := "RateGate$Request", name := "readText", desc := "()V" } : Jvm.MethodName) prog_6_method_8_code (4 : Nat) (Option.none : Option Jvm.ClassFile.FieldType)) ∈ TB := tB2 7 (by rfl) (by rfl)
theorem tw_2_8 : (Jvm.Cond.methodLink "RateGate$Request" (60 : Nat) ({ cls := "java/util/Arrays", name := "fill", desc := "([II)V" } : Jvm.MethodName)) ∈ TB := tB2 8 (by rfl) (by rfl)
theorem tw_2_9 : (Jvm.Cond.static ({ cls := "java/util/Arrays", name := "fill", desc := "([II)V" } : Jvm.MethodName)) ∈ TB := tB2 9 (by rfl) (by rfl)
theorem tw_2_10 : (Jvm.Cond.code ({ cls := "java/util/Arrays", name := "fill", desc := "([II)V" } : Jvm.MethodName) prog_38_method_103_code (4 : Nat) (Option.none : Option Jvm.ClassFile.FieldType)) ∈ TB := tB2 10 (by rfl) (by rfl)
theorem tw_2_11 : (Jvm.Cond.methodLink "RateGate$Request" (40 : Nat) ({ cls := "java/lang/String", name := "isEmpty", desc := "()Z" } : Jvm.MethodName)) ∈ TB := tB2 11 (by rfl) (by rfl)
theorem tw_2_12 : (Jvm.Cond.instanceMethod ({ cls := "java/lang/String", name := "isEmpty", desc := "()Z" } : Jvm.MethodName)) ∈ TB := tB2 12 (by rfl) (by rfl)
theorem tw_2_13 : (Jvm.Cond.selects "java/lang/String" ({ cls := "java/lang/String", name := "isEmpty", desc := "()Z" } : Jvm.MethodName) ({ cls := "java/lang/String", name := "isEmpty", desc := "()Z" } : Jvm.MethodName)) ∈ TB := tB2 13 (by rfl) (by rfl)
theorem tw_2_14 : (Jvm.Cond.code ({ cls := "java/lang/String", name := "isEmpty", desc := "()Z" } : Jvm.MethodName) prog_27_method_55_code (1 : Nat) (Option.some Jvm.ClassFile.FieldType.boolean)) ∈ TB := tB2 14 (by rfl) (by rfl)
theorem tw_2_15 : (Jvm.Cond.methodLink "RateGate$Request" (66 : Nat) ({ cls := "RateGate$Request", name := "endOfPart", desc := "(I)I" } : Jvm.MethodName)) ∈ TB := tB2 15 (by rfl) (by rfl)
theorem tw_2_17 : (Jvm.Cond.instanceMethod ({ cls := "RateGate$Request", name := "endOfPart", desc := "(I)I" } : Jvm.MethodName)) ∈ TB := tB2 17 (by rfl) (by rfl)
theorem tw_2_18 : (Jvm.Cond.code ({ cls := "RateGate$Request", name := "endOfPart", desc := "(I)I" } : Jvm.MethodName) prog_6_method_9_code (3 : Nat) (Option.some Jvm.ClassFile.FieldType.int)) ∈ TB := tB2 18 (by rfl) (by rfl)
theorem tw_2_19 : (Jvm.Cond.methodLink "RateGate$Request" (77 : Nat) ({ cls := "RateGate$Request", name := "signAt", desc := "(I)C" } : Jvm.MethodName)) ∈ TB := tB2 19 (by rfl) (by rfl)
theorem tw_2_21 : (Jvm.Cond.instanceMethod ({ cls := "RateGate$Request", name := "signAt", desc := "(I)C" } : Jvm.MethodName)) ∈ TB := tB2 21 (by rfl) (by rfl)
theorem tw_2_22 : (Jvm.Cond.code ({ cls := "RateGate$Request", name := "signAt", desc := "(I)C" } : Jvm.MethodName) prog_6_method_18_code (2 : Nat) (Option.some Jvm.ClassFile.FieldType.char)) ∈ TB := tB2 22 (by rfl) (by rfl)
theorem tw_2_23 : (Jvm.Cond.methodLink "RateGate$Request" (70 : Nat) ({ cls := "RateGate$Request", name := "readPart", desc := "(III)V" } : Jvm.MethodName)) ∈ TB := tB2 23 (by rfl) (by rfl)
theorem tw_2_25 : (Jvm.Cond.instanceMethod ({ cls := "RateGate$Request", name := "readPart", desc := "(III)V" } : Jvm.MethodName)) ∈ TB := tB2 25 (by rfl) (by rfl)
theorem tw_2_26 : (Jvm.Cond.code ({ cls := "RateGate$Request", name := "readPart", desc := "(III)V" } : Jvm.MethodName) prog_6_method_10_code (5 : Nat) (Option.none : Option Jvm.ClassFile.FieldType)) ∈ TB := tB2 26 (by rfl) (by rfl)
theorem tw_2_27 : (Jvm.Cond.methodLink "RateGate$Request" (81 : Nat) ({ cls := "RateGate$Request", name := "keyIn", desc := "(II)I" } : Jvm.MethodName)) ∈ TB := tB2 27 (by rfl) (by rfl)
theorem tw_2_29 : (Jvm.Cond.instanceMethod ({ cls := "RateGate$Request", name := "keyIn", desc := "(II)I" } : Jvm.MethodName)) ∈ TB := tB2 29 (by rfl) (by rfl)
theorem tw_2_30 : (Jvm.Cond.code ({ cls := "RateGate$Request", name := "keyIn", desc := "(II)I" } : Jvm.MethodName) prog_6_method_11_code (3 : Nat) (Option.some Jvm.ClassFile.FieldType.int)) ∈ TB := tB2 30 (by rfl) (by rfl)
theorem tw_2_32 : (Jvm.Cond.methodLink "RateGate$Request" (104 : Nat) ({ cls := "java/lang/String", name := "indexOf", desc := "(I)I" } : Jvm.MethodName)) ∈ TB := tB2 32 (by rfl) (by rfl)
theorem tw_2_33 : (Jvm.Cond.instanceMethod ({ cls := "java/lang/String", name := "indexOf", desc := "(I)I" } : Jvm.MethodName)) ∈ TB := tB2 33 (by rfl) (by rfl)
theorem tw_2_34 : (Jvm.Cond.selects "java/lang/String" ({ cls := "java/lang/String", name := "indexOf", desc := "(I)I" } : Jvm.MethodName) ({ cls := "java/lang/String", name := "indexOf", desc := "(I)I" } : Jvm.MethodName)) ∈ TB := tB2 34 (by rfl) (by rfl)
theorem tw_2_35 : (Jvm.Cond.code ({ cls := "java/lang/String", name := "indexOf", desc := "(I)I" } : Jvm.MethodName) prog_27_method_79_code (2 : Nat) (Option.some Jvm.ClassFile.FieldType.int)) ∈ TB := tB2 35 (by rfl) (by rfl)
theorem tw_2_36 : (Jvm.Cond.methodLink "java/lang/String" (633 : Nat) ({ cls := "java/lang/String", name := "indexOf", desc := "(II)I" } : Jvm.MethodName)) ∈ TB := tB2 36 (by rfl) (by rfl)
theorem tw_2_37 : (Jvm.Cond.instanceMethod ({ cls := "java/lang/String", name := "indexOf", desc := "(II)I" } : Jvm.MethodName)) ∈ TB := tB2 37 (by rfl) (by rfl)
theorem tw_2_38 : (Jvm.Cond.selects "java/lang/String" ({ cls := "java/lang/String", name := "indexOf", desc := "(II)I" } : Jvm.MethodName) ({ cls := "java/lang/String", name := "indexOf", desc := "(II)I" } : Jvm.MethodName)) ∈ TB := tB2 38 (by rfl) (by rfl)
theorem tw_2_39 : (Jvm.Cond.code ({ cls := "java/lang/String", name := "indexOf", desc := "(II)I" } : Jvm.MethodName) prog_27_method_80_code (3 : Nat) (Option.some Jvm.ClassFile.FieldType.int)) ∈ TB := tB2 39 (by rfl) (by rfl)
theorem tw_2_40 : (Jvm.Cond.methodLink "java/lang/String" (492 : Nat) ({ cls := "java/lang/String", name := "isLatin1", desc := "()Z" } : Jvm.MethodName)) ∈ TB := tB2 40 (by rfl) (by rfl)
theorem tw_2_41 : (Jvm.Cond.instanceMethod ({ cls := "java/lang/String", name := "isLatin1", desc := "()Z" } : Jvm.MethodName)) ∈ TB := tB2 41 (by rfl) (by rfl)
theorem tw_2_42 : (Jvm.Cond.selects "java/lang/String" ({ cls := "java/lang/String", name := "isLatin1", desc := "()Z" } : Jvm.MethodName) ({ cls := "java/lang/String", name := "isLatin1", desc := "()Z" } : Jvm.MethodName)) ∈ TB := tB2 42 (by rfl) (by rfl)
theorem tw_2_43 : (Jvm.Cond.code ({ cls := "java/lang/String", name := "isLatin1", desc := "()Z" } : Jvm.MethodName) prog_27_method_154_code (1 : Nat) (Option.some Jvm.ClassFile.FieldType.boolean)) ∈ TB := tB2 43 (by rfl) (by rfl)
theorem tw_2_44 : (Jvm.Cond.fieldLink "java/lang/String" (38 : Nat) "java/lang/String" "COMPACT_STRINGS" "Z") ∈ TB := tB2 44 (by rfl) (by rfl)
theorem tw_2_46 : (Jvm.Cond.methodLink "java/lang/String" (505 : Nat) ({ cls := "java/lang/String", name := "length", desc := "()I" } : Jvm.MethodName)) ∈ TB := tB2 46 (by rfl) (by rfl)
theorem tw_2_47 : (Jvm.Cond.instanceMethod ({ cls := "java/lang/String", name := "length", desc := "()I" } : Jvm.MethodName)) ∈ TB := tB2 47 (by rfl) (by rfl)
theorem tw_2_48 : (Jvm.Cond.selects "java/lang/String" ({ cls := "java/lang/String", name := "length", desc := "()I" } : Jvm.MethodName) ({ cls := "java/lang/String", name := "length", desc := "()I" } : Jvm.MethodName)) ∈ TB := tB2 48 (by rfl) (by rfl)
theorem tw_2_49 : (Jvm.Cond.code ({ cls := "java/lang/String", name := "length", desc := "()I" } : Jvm.MethodName) prog_27_method_54_code (1 : Nat) (Option.some Jvm.ClassFile.FieldType.int)) ∈ TB := tB2 49 (by rfl) (by rfl)
theorem tw_2_50 : (Jvm.Cond.methodLink "java/lang/String" (335 : Nat) ({ cls := "java/lang/String", name := "coder", desc := "()B" } : Jvm.MethodName)) ∈ TB := tB2 50 (by rfl) (by rfl)
theorem tw_2_51 : (Jvm.Cond.instanceMethod ({ cls := "java/lang/String", name := "coder", desc := "()B" } : Jvm.MethodName)) ∈ TB := tB2 51 (by rfl) (by rfl)
theorem tw_2_52 : (Jvm.Cond.selects "java/lang/String" ({ cls := "java/lang/String", name := "coder", desc := "()B" } : Jvm.MethodName) ({ cls := "java/lang/String", name := "coder", desc := "()B" } : Jvm.MethodName)) ∈ TB := tB2 52 (by rfl) (by rfl)
theorem tw_2_53 : (Jvm.Cond.code ({ cls := "java/lang/String", name := "coder", desc := "()B" } : Jvm.MethodName) prog_27_method_152_code (1 : Nat) (Option.some Jvm.ClassFile.FieldType.byte)) ∈ TB := tB2 53 (by rfl) (by rfl)
theorem tw_2_54 : (Jvm.Cond.methodLink "java/lang/String" (637 : Nat) ({ cls := "java/lang/StringLatin1", name := "indexOf", desc := "([BIII)I" } : Jvm.MethodName)) ∈ TB := tB2 54 (by rfl) (by rfl)
theorem tw_2_55 : (Jvm.Cond.static ({ cls := "java/lang/StringLatin1", name := "indexOf", desc := "([BIII)I" } : Jvm.MethodName)) ∈ TB := tB2 55 (by rfl) (by rfl)
theorem tw_2_56 : (Jvm.Cond.code ({ cls := "java/lang/StringLatin1", name := "indexOf", desc := "([BIII)I" } : Jvm.MethodName) prog_29_method_22_code (4 : Nat) (Option.some Jvm.ClassFile.FieldType.int)) ∈ TB := tB2 56 (by rfl) (by rfl)
theorem tw_2_57 : (Jvm.Cond.methodLink "java/lang/StringLatin1" (88 : Nat) ({ cls := "java/lang/StringLatin1", name := "canEncode", desc := "(I)Z" } : Jvm.MethodName)) ∈ TB := tB2 57 (by rfl) (by rfl)
theorem tw_2_58 : (Jvm.Cond.static ({ cls := "java/lang/StringLatin1", name := "canEncode", desc := "(I)Z" } : Jvm.MethodName)) ∈ TB := tB2 58 (by rfl) (by rfl)
theorem tw_2_59 : (Jvm.Cond.code ({ cls := "java/lang/StringLatin1", name := "canEncode", desc := "(I)Z" } : Jvm.MethodName) prog_29_method_4_code (1 : Nat) (Option.some Jvm.ClassFile.FieldType.boolean)) ∈ TB := tB2 59 (by rfl) (by rfl)
theorem tw_2_60 : (Jvm.Cond.methodLink "java/lang/StringLatin1" (92 : Nat) ({ cls := "java/lang/Math", name := "max", desc := "(II)I" } : Jvm.MethodName)) ∈ TB := tB2 60 (by rfl) (by rfl)
theorem tw_2_61 : (Jvm.Cond.static ({ cls := "java/lang/Math", name := "max", desc := "(II)I" } : Jvm.MethodName)) ∈ TB := tB2 61 (by rfl) (by rfl)
theorem tw_2_62 : (Jvm.Cond.code ({ cls := "java/lang/Math", name := "max", desc := "(II)I" } : Jvm.MethodName) prog_24_method_65_code (2 : Nat) (Option.some Jvm.ClassFile.FieldType.int)) ∈ TB := tB2 62 (by rfl) (by rfl)
theorem tw_2_63 : (Jvm.Cond.methodLink "java/lang/StringLatin1" (38 : Nat) ({ cls := "java/lang/Math", name := "min", desc := "(II)I" } : Jvm.MethodName)) ∈ TB := tB2 63 (by rfl) (by rfl)
theorem tw_2_64 : (Jvm.Cond.static ({ cls := "java/lang/Math", name := "min", desc := "(II)I" } : Jvm.MethodName)) ∈ TB := tB2 64 (by rfl) (by rfl)
theorem tw_2_65 : (Jvm.Cond.code ({ cls := "java/lang/Math", name := "min", desc := "(II)I" } : Jvm.MethodName) prog_24_method_69_code (2 : Nat) (Option.some Jvm.ClassFile.FieldType.int)) ∈ TB := tB2 65 (by rfl) (by rfl)
theorem tw_2_66 : (Jvm.Cond.methodLink "java/lang/StringLatin1" (95 : Nat) ({ cls := "java/lang/StringLatin1", name := "indexOfChar", desc := "([BIII)I" } : Jvm.MethodName)) ∈ TB := tB2 66 (by rfl) (by rfl)
theorem tw_2_67 : (Jvm.Cond.static ({ cls := "java/lang/StringLatin1", name := "indexOfChar", desc := "([BIII)I" } : Jvm.MethodName)) ∈ TB := tB2 67 (by rfl) (by rfl)
theorem tw_2_68 : (Jvm.Cond.code ({ cls := "java/lang/StringLatin1", name := "indexOfChar", desc := "([BIII)I" } : Jvm.MethodName) prog_29_method_23_code (6 : Nat) (Option.some Jvm.ClassFile.FieldType.int)) ∈ TB := tB2 68 (by rfl) (by rfl)
theorem tw_2_69 : (Jvm.Cond.methodLink "java/lang/String" (640 : Nat) ({ cls := "java/lang/StringUTF16", name := "indexOf", desc := "([BIII)I" } : Jvm.MethodName)) ∈ TB := tB2 69 (by rfl) (by rfl)
theorem tw_2_70 : (Jvm.Cond.static ({ cls := "java/lang/StringUTF16", name := "indexOf", desc := "([BIII)I" } : Jvm.MethodName)) ∈ TB := tB2 70 (by rfl) (by rfl)
theorem tw_2_71 : (Jvm.Cond.code ({ cls := "java/lang/StringUTF16", name := "indexOf", desc := "([BIII)I" } : Jvm.MethodName) prog_30_method_40_code (4 : Nat) (Option.some Jvm.ClassFile.FieldType.int)) ∈ TB := tB2 71 (by rfl) (by rfl)
theorem tw_2_72 : (Jvm.Cond.methodLink "java/lang/StringUTF16" (224 : Nat) ({ cls := "java/lang/Math", name := "max", desc := "(II)I" } : Jvm.MethodName)) ∈ TB := tB2 72 (by rfl) (by rfl)
theorem tw_2_73 : (Jvm.Cond.methodLink "java/lang/StringUTF16" (183 : Nat) ({ cls := "java/lang/Math", name := "min", desc := "(II)I" } : Jvm.MethodName)) ∈ TB := tB2 73 (by rfl) (by rfl)
theorem tw_2_74 : (Jvm.Cond.constant "java/lang/StringUTF16" (227 : Nat) (65536 : Int32)) ∈ TB := tB2 74 (by rfl) (by rfl)
theorem tw_2_75 : (Jvm.Cond.methodLink "java/lang/StringUTF16" (228 : Nat) ({ cls := "java/lang/StringUTF16", name := "indexOfChar", desc := "([BIII)I" } : Jvm.MethodName)) ∈ TB := tB2 75 (by rfl) (by rfl)
theorem tw_2_76 : (Jvm.Cond.static ({ cls := "java/lang/StringUTF16", name := "indexOfChar", desc := "([BIII)I" } : Jvm.MethodName)) ∈ TB := tB2 76 (by rfl) (by rfl)
theorem tw_2_77 : (Jvm.Cond.code ({ cls := "java/lang/StringUTF16", name := "indexOfChar", desc := "([BIII)I" } : Jvm.MethodName) prog_30_method_47_code (4 : Nat) (Option.some Jvm.ClassFile.FieldType.int)) ∈ TB := tB2 77 (by rfl) (by rfl)
theorem tw_2_78 : (Jvm.Cond.methodLink "java/lang/StringUTF16" (96 : Nat) ({ cls := "java/lang/StringUTF16", name := "checkBoundsBeginEnd", desc := "(II[B)V" } : Jvm.MethodName)) ∈ TB := tB2 78 (by rfl) (by rfl)
theorem tw_2_79 : (Jvm.Cond.static ({ cls := "java/lang/StringUTF16", name := "checkBoundsBeginEnd", desc := "(II[B)V" } : Jvm.MethodName)) ∈ TB := tB2 79 (by rfl) (by rfl)
theorem tw_2_80 : (Jvm.Cond.code ({ cls := "java/lang/StringUTF16", name := "checkBoundsBeginEnd", desc := "(II[B)V" } : Jvm.MethodName) prog_30_method_93_code (3 : Nat) (Option.none : Option Jvm.ClassFile.FieldType)) ∈ TB := tB2 80 (by rfl) (by rfl)
theorem tw_2_81 : (Jvm.Cond.methodLink "java/lang/StringUTF16" (48 : Nat) ({ cls := "java/lang/StringUTF16", name := "length", desc := "([B)I" } : Jvm.MethodName)) ∈ TB := tB2 81 (by rfl) (by rfl)
theorem tw_2_82 : (Jvm.Cond.static ({ cls := "java/lang/StringUTF16", name := "length", desc := "([B)I" } : Jvm.MethodName)) ∈ TB := tB2 82 (by rfl) (by rfl)
theorem tw_2_83 : (Jvm.Cond.code ({ cls := "java/lang/StringUTF16", name := "length", desc := "([B)I" } : Jvm.MethodName) prog_30_method_6_code (1 : Nat) (Option.some Jvm.ClassFile.FieldType.int)) ∈ TB := tB2 83 (by rfl) (by rfl)
theorem tw_2_84 : (Jvm.Cond.methodLink "java/lang/StringUTF16" (241 : Nat) ({ cls := "java/lang/String", name := "checkBoundsBeginEnd", desc := "(III)V" } : Jvm.MethodName)) ∈ TB := tB2 84 (by rfl) (by rfl)
theorem tw_2_85 : (Jvm.Cond.static ({ cls := "java/lang/String", name := "checkBoundsBeginEnd", desc := "(III)V" } : Jvm.MethodName)) ∈ TB := tB2 85 (by rfl) (by rfl)
theorem tw_2_86 : (Jvm.Cond.code ({ cls := "java/lang/String", name := "checkBoundsBeginEnd", desc := "(III)V" } : Jvm.MethodName) prog_27_method_158_code (3 : Nat) (Option.none : Option Jvm.ClassFile.FieldType)) ∈ TB := tB2 86 (by rfl) (by rfl)
theorem tw_2_87 : (Jvm.Cond.fieldLink "java/lang/String" (1053 : Nat) "jdk/internal/util/Preconditions" "SIOOBE_FORMATTER" "Ljava/util/function/BiFunction;") ∈ TB := tB2 87 (by rfl) (by rfl)
theorem tw_2_89 : (Jvm.Cond.methodLink "java/lang/String" (1062 : Nat) ({ cls := "jdk/internal/util/Preconditions", name := "checkFromToIndex", desc := "(IIILjava/util/function/BiFunction;)I" } : Jvm.MethodName)) ∈ TB := tB2 89 (by rfl) (by rfl)
theorem tw_2_90 : (Jvm.Cond.static ({ cls := "jdk/internal/util/Preconditions", name := "checkFromToIndex", desc := "(IIILjava/util/function/BiFunction;)I" } : Jvm.MethodName)) ∈ TB := tB2 90 (by rfl) (by rfl)
theorem tw_2_91 : (Jvm.Cond.code ({ cls := "jdk/internal/util/Preconditions", name := "checkFromToIndex", desc := "(IIILjava/util/function/BiFunction;)I" } : Jvm.MethodName) prog_45_method_12_code (4 : Nat) (Option.some Jvm.ClassFile.FieldType.int)) ∈ TB := tB2 91 (by rfl) (by rfl)
theorem tw_2_92 : (Jvm.Cond.methodLink "java/lang/StringUTF16" (244 : Nat) ({ cls := "java/lang/StringUTF16", name := "indexOfCharUnsafe", desc := "([BIII)I" } : Jvm.MethodName)) ∈ TB := tB2 92 (by rfl) (by rfl)
theorem tw_2_93 : (Jvm.Cond.static ({ cls := "java/lang/StringUTF16", name := "indexOfCharUnsafe", desc := "([BIII)I" } : Jvm.MethodName)) ∈ TB := tB2 93 (by rfl) (by rfl)
theorem tw_2_94 : (Jvm.Cond.code ({ cls := "java/lang/StringUTF16", name := "indexOfCharUnsafe", desc := "([BIII)I" } : Jvm.MethodName) prog_30_method_48_code (5 : Nat) (Option.some Jvm.ClassFile.FieldType.int)) ∈ TB := tB2 94 (by rfl) (by rfl)
theorem tw_2_95 : (Jvm.Cond.methodLink "java/lang/StringUTF16" (71 : Nat) ({ cls := "java/lang/StringUTF16", name := "getChar", desc := "([BI)C" } : Jvm.MethodName)) ∈ TB := tB2 95 (by rfl) (by rfl)
theorem tw_2_96 : (Jvm.Cond.static ({ cls := "java/lang/StringUTF16", name := "getChar", desc := "([BI)C" } : Jvm.MethodName)) ∈ TB := tB2 96 (by rfl) (by rfl)
theorem tw_2_97 : (Jvm.Cond.code ({ cls := "java/lang/StringUTF16", name := "getChar", desc := "([BI)C" } : Jvm.MethodName) prog_30_method_5_code (2 : Nat) (Option.some Jvm.ClassFile.FieldType.char)) ∈ TB := tB2 97 (by rfl) (by rfl)
theorem tw_2_98 : (Jvm.Cond.fieldLink "java/lang/StringUTF16" (44 : Nat) "java/lang/StringUTF16" "$assertionsDisabled" "Z") ∈ TB := tB2 98 (by rfl) (by rfl)
theorem tw_2_100 : (Jvm.Cond.fieldLink "java/lang/StringUTF16" (59 : Nat) "java/lang/StringUTF16" "HI_BYTE_SHIFT" "I") ∈ TB := tB2 100 (by rfl) (by rfl)
theorem tw_2_102 : (Jvm.Cond.fieldLink "java/lang/StringUTF16" (63 : Nat) "java/lang/StringUTF16" "LO_BYTE_SHIFT" "I") ∈ TB := tB2 102 (by rfl) (by rfl)
theorem tw_2_104 : (Jvm.Cond.methodLink "java/lang/StringUTF16" (232 : Nat) ({ cls := "java/lang/StringUTF16", name := "indexOfSupplementary", desc := "([BIII)I" } : Jvm.MethodName)) ∈ TB := tB2 104 (by rfl) (by rfl)
theorem tw_2_105 : (Jvm.Cond.static ({ cls := "java/lang/StringUTF16", name := "indexOfSupplementary", desc := "([BIII)I" } : Jvm.MethodName)) ∈ TB := tB2 105 (by rfl) (by rfl)
theorem tw_2_106 : (Jvm.Cond.code ({ cls := "java/lang/StringUTF16", name := "indexOfSupplementary", desc := "([BIII)I" } : Jvm.MethodName) prog_30_method_49_code (7 : Nat) (Option.some Jvm.ClassFile.FieldType.int)) ∈ TB := tB2 106 (by rfl) (by rfl)
theorem tw_2_107 : (Jvm.Cond.methodLink "java/lang/StringUTF16" (164 : Nat) ({ cls := "java/lang/Character", name := "isValidCodePoint", desc := "(I)Z" } : Jvm.MethodName)) ∈ TB := tB2 107 (by rfl) (by rfl)
theorem tw_2_108 : (Jvm.Cond.static ({ cls := "java/lang/Character", name := "isValidCodePoint", desc := "(I)Z" } : Jvm.MethodName)) ∈ TB := tB2 108 (by rfl) (by rfl)
theorem tw_2_109 : (Jvm.Cond.code ({ cls := "java/lang/Character", name := "isValidCodePoint", desc := "(I)Z" } : Jvm.MethodName) prog_15_method_11_code (2 : Nat) (Option.some Jvm.ClassFile.FieldType.boolean)) ∈ TB := tB2 109 (by rfl) (by rfl)
theorem tw_2_110 : (Jvm.Cond.methodLink "java/lang/StringUTF16" (157 : Nat) ({ cls := "java/lang/Character", name := "highSurrogate", desc := "(I)C" } : Jvm.MethodName)) ∈ TB := tB2 110 (by rfl) (by rfl)
theorem tw_2_111 : (Jvm.Cond.static ({ cls := "java/lang/Character", name := "highSurrogate", desc := "(I)C" } : Jvm.MethodName)) ∈ TB := tB2 111 (by rfl) (by rfl)
theorem tw_2_112 : (Jvm.Cond.code ({ cls := "java/lang/Character", name := "highSurrogate", desc := "(I)C" } : Jvm.MethodName) prog_15_method_28_code (1 : Nat) (Option.some Jvm.ClassFile.FieldType.char)) ∈ TB := tB2 112 (by rfl) (by rfl)
theorem tw_2_113 : (Jvm.Cond.constant "java/lang/Character" (110 : Nat) (55232 : Int32)) ∈ TB := tB2 113 (by rfl) (by rfl)
theorem tw_2_114 : (Jvm.Cond.methodLink "java/lang/StringUTF16" (161 : Nat) ({ cls := "java/lang/Character", name := "lowSurrogate", desc := "(I)C" } : Jvm.MethodName)) ∈ TB := tB2 114 (by rfl) (by rfl)
theorem tw_2_115 : (Jvm.Cond.static ({ cls := "java/lang/Character", name := "lowSurrogate", desc := "(I)C" } : Jvm.MethodName)) ∈ TB := tB2 115 (by rfl) (by rfl)
theorem tw_2_116 : (Jvm.Cond.code ({ cls := "java/lang/Character", name := "lowSurrogate", desc := "(I)C" } : Jvm.MethodName) prog_15_method_29_code (1 : Nat) (Option.some Jvm.ClassFile.FieldType.char)) ∈ TB := tB2 116 (by rfl) (by rfl)
theorem tw_2_117 : (Jvm.Cond.constant "java/lang/Character" (76 : Nat) (56320 : Int32)) ∈ TB := tB2 117 (by rfl) (by rfl)
theorem tw_2_119 : (Jvm.Cond.methodLink "RateGate$Request" (87 : Nat) ({ cls := "RateGate$Request", name := "setFault", desc := "(Ljava/lang/String;C)V" } : Jvm.MethodName)) ∈ TB := tB2 119 (by rfl) (by rfl)
theorem tw_2_121 : (Jvm.Cond.instanceMethod ({ cls := "RateGate$Request", name := "setFault", desc := "(Ljava/lang/String;C)V" } : Jvm.MethodName)) ∈ TB := tB2 121 (by rfl) (by rfl)
theorem tw_2_122 : (Jvm.Cond.code ({ cls := "RateGate$Request", name := "setFault", desc := "(Ljava/lang/String;C)V" } : Jvm.MethodName) prog_6_method_17_code (3 : Nat) (Option.none : Option Jvm.ClassFile.FieldType)) ∈ TB := tB2 122 (by rfl) (by rfl)
theorem tw_2_124 : (Jvm.Cond.methodLink "RateGate$Request" (95 : Nat) ({ cls := "java/lang/String", name := "charAt", desc := "(I)C" } : Jvm.MethodName)) ∈ TB := tB2 124 (by rfl) (by rfl)
theorem tw_2_125 : (Jvm.Cond.instanceMethod ({ cls := "java/lang/String", name := "charAt", desc := "(I)C" } : Jvm.MethodName)) ∈ TB := tB2 125 (by rfl) (by rfl)
theorem tw_2_126 : (Jvm.Cond.selects "java/lang/String" ({ cls := "java/lang/String", name := "charAt", desc := "(I)C" } : Jvm.MethodName) ({ cls := "java/lang/String", name := "charAt", desc := "(I)C" } : Jvm.MethodName)) ∈ TB := tB2 126 (by rfl) (by rfl)
theorem tw_2_127 : (Jvm.Cond.code ({ cls := "java/lang/String", name := "charAt", desc := "(I)C" } : Jvm.MethodName) prog_27_method_56_code (2 : Nat) (Option.some Jvm.ClassFile.FieldType.char)) ∈ TB := tB2 127 (by rfl) (by rfl)
theorem tw_2_128 : (Jvm.Cond.methodLink "java/lang/String" (495 : Nat) ({ cls := "java/lang/StringLatin1", name := "charAt", desc := "([BI)C" } : Jvm.MethodName)) ∈ TB := tB2 128 (by rfl) (by rfl)
theorem tw_2_129 : (Jvm.Cond.static ({ cls := "java/lang/StringLatin1", name := "charAt", desc := "([BI)C" } : Jvm.MethodName)) ∈ TB := tB2 129 (by rfl) (by rfl)
theorem tw_2_130 : (Jvm.Cond.code ({ cls := "java/lang/StringLatin1", name := "charAt", desc := "([BI)C" } : Jvm.MethodName) prog_29_method_2_code (2 : Nat) (Option.some Jvm.ClassFile.FieldType.char)) ∈ TB := tB2 130 (by rfl) (by rfl)
theorem tw_2_131 : (Jvm.Cond.methodLink "java/lang/StringLatin1" (9 : Nat) ({ cls := "java/lang/String", name := "checkIndex", desc := "(II)V" } : Jvm.MethodName)) ∈ TB := tB2 131 (by rfl) (by rfl)
theorem tw_2_132 : (Jvm.Cond.static ({ cls := "java/lang/String", name := "checkIndex", desc := "(II)V" } : Jvm.MethodName)) ∈ TB := tB2 132 (by rfl) (by rfl)
theorem tw_2_133 : (Jvm.Cond.code ({ cls := "java/lang/String", name := "checkIndex", desc := "(II)V" } : Jvm.MethodName) prog_27_method_155_code (2 : Nat) (Option.none : Option Jvm.ClassFile.FieldType)) ∈ TB := tB2 133 (by rfl) (by rfl)
theorem tw_2_134 : (Jvm.Cond.methodLink "java/lang/String" (1059 : Nat) ({ cls := "jdk/internal/util/Preconditions", name := "checkIndex", desc := "(IILjava/util/function/BiFunction;)I" } : Jvm.MethodName)) ∈ TB := tB2 134 (by rfl) (by rfl)
theorem tw_2_135 : (Jvm.Cond.static ({ cls := "jdk/internal/util/Preconditions", name := "checkIndex", desc := "(IILjava/util/function/BiFunction;)I" } : Jvm.MethodName)) ∈ TB := tB2 135 (by rfl) (by rfl)
theorem tw_2_136 : (Jvm.Cond.code ({ cls := "jdk/internal/util/Preconditions", name := "checkIndex", desc := "(IILjava/util/function/BiFunction;)I" } : Jvm.MethodName) prog_45_method_11_code (3 : Nat) (Option.some Jvm.ClassFile.FieldType.int)) ∈ TB := tB2 136 (by rfl) (by rfl)
theorem tw_2_137 : (Jvm.Cond.methodLink "java/lang/String" (498 : Nat) ({ cls := "java/lang/StringUTF16", name := "charAt", desc := "([BI)C" } : Jvm.MethodName)) ∈ TB := tB2 137 (by rfl) (by rfl)
theorem tw_2_138 : (Jvm.Cond.static ({ cls := "java/lang/StringUTF16", name := "charAt", desc := "([BI)C" } : Jvm.MethodName)) ∈ TB := tB2 138 (by rfl) (by rfl)
theorem tw_2_139 : (Jvm.Cond.code ({ cls := "java/lang/StringUTF16", name := "charAt", desc := "([BI)C" } : Jvm.MethodName) prog_30_method_83_code (2 : Nat) (Option.some Jvm.ClassFile.FieldType.char)) ∈ TB := tB2 139 (by rfl) (by rfl)
theorem tw_2_140 : (Jvm.Cond.methodLink "java/lang/StringUTF16" (67 : Nat) ({ cls := "java/lang/StringUTF16", name := "checkIndex", desc := "(I[B)V" } : Jvm.MethodName)) ∈ TB := tB2 140 (by rfl) (by rfl)
theorem tw_2_141 : (Jvm.Cond.static ({ cls := "java/lang/StringUTF16", name := "checkIndex", desc := "(I[B)V" } : Jvm.MethodName)) ∈ TB := tB2 141 (by rfl) (by rfl)
theorem tw_2_142 : (Jvm.Cond.code ({ cls := "java/lang/StringUTF16", name := "checkIndex", desc := "(I[B)V" } : Jvm.MethodName) prog_30_method_91_code (2 : Nat) (Option.none : Option Jvm.ClassFile.FieldType)) ∈ TB := tB2 142 (by rfl) (by rfl)
theorem tw_2_143 : (Jvm.Cond.methodLink "java/lang/StringUTF16" (414 : Nat) ({ cls := "java/lang/String", name := "checkIndex", desc := "(II)V" } : Jvm.MethodName)) ∈ TB := tB2 143 (by rfl) (by rfl)
theorem tw_2_144 : (Jvm.Cond.methodLink "RateGate$Request" (98 : Nat) ({ cls := "RateGate$Request", name := "readValue", desc := "(III)I" } : Jvm.MethodName)) ∈ TB := tB2 144 (by rfl) (by rfl)
theorem tw_2_146 : (Jvm.Cond.instanceMethod ({ cls := "RateGate$Request", name := "readValue", desc := "(III)I" } : Jvm.MethodName)) ∈ TB := tB2 146 (by rfl) (by rfl)
theorem tw_2_147 : (Jvm.Cond.code ({ cls := "RateGate$Request", name := "readValue", desc := "(III)I" } : Jvm.MethodName) prog_6_method_12_code (4 : Nat) (Option.some Jvm.ClassFile.FieldType.int)) ∈ TB := tB2 147 (by rfl) (by rfl)
theorem tw_2_148 : (Jvm.Cond.methodLink "RateGate$Request" (107 : Nat) ({ cls := "RateGate$Request", name := "readDigit", desc := "(III)I" } : Jvm.MethodName)) ∈ TB := tB2 148 (by rfl) (by rfl)
theorem tw_2_150 : (Jvm.Cond.instanceMethod ({ cls := "RateGate$Request", name := "readDigit", desc := "(III)I" } : Jvm.MethodName)) ∈ TB := tB2 150 (by rfl) (by rfl)
theorem tw_2_151 : (Jvm.Cond.code ({ cls := "RateGate$Request", name := "readDigit", desc := "(III)I" } : Jvm.MethodName) prog_6_method_13_code (6 : Nat) (Option.some Jvm.ClassFile.FieldType.int)) ∈ TB := tB2 151 (by rfl) (by rfl)
theorem tw_2_152 : (Jvm.Cond.methodLink "RateGate$Request" (33 : Nat) ({ cls := "RateGate$Request", name := "isDigit", desc := "(C)Z" } : Jvm.MethodName)) ∈ TB := tB2 152 (by rfl) (by rfl)
theorem tw_2_153 : (Jvm.Cond.static ({ cls := "RateGate$Request", name := "isDigit", desc := "(C)Z" } : Jvm.MethodName)) ∈ TB := tB2 153 (by rfl) (by rfl)
theorem tw_2_154 : (Jvm.Cond.code ({ cls := "RateGate$Request", name := "isDigit", desc := "(C)Z" } : Jvm.MethodName) prog_6_method_19_code (1 : Nat) (Option.some Jvm.ClassFile.FieldType.boolean)) ∈ TB := tB2 154 (by rfl) (by rfl)
theorem tw_2_155 : (Jvm.Cond.methodLink "RateGate$Request" (110 : Nat) ({ cls := "RateGate$Request", name := "readWeight", desc := "(II)I" } : Jvm.MethodName)) ∈ TB := tB2 155 (by rfl) (by rfl)
theorem tw_2_157 : (Jvm.Cond.instanceMethod ({ cls := "RateGate$Request", name := "readWeight", desc := "(II)I" } : Jvm.MethodName)) ∈ TB := tB2 157 (by rfl) (by rfl)
theorem tw_2_158 : (Jvm.Cond.code ({ cls := "RateGate$Request", name := "readWeight", desc := "(II)I" } : Jvm.MethodName) prog_6_method_14_code (6 : Nat) (Option.some Jvm.ClassFile.FieldType.int)) ∈ TB := tB2 158 (by rfl) (by rfl)
theorem tw_2_160 : (Jvm.Cond.static ({ cls := "RateGate", name := "isWithin", desc := "(III)Z" } : Jvm.MethodName)) ∈ TB := tB2 160 (by rfl) (by rfl)
theorem tw_2_161 : (Jvm.Cond.code ({ cls := "RateGate", name := "isWithin", desc := "(III)Z" } : Jvm.MethodName) prog_1_method_27_code (3 : Nat) (Option.some Jvm.ClassFile.FieldType.boolean)) ∈ TB := tB2 161 (by rfl) (by rfl)
theorem tw_2_162 : (Jvm.Cond.methodLink "RateGate$Request" (113 : Nat) ({ cls := "RateGate$Request", name := "readExpress", desc := "(II)I" } : Jvm.MethodName)) ∈ TB := tB2 162 (by rfl) (by rfl)
theorem tw_2_164 : (Jvm.Cond.instanceMethod ({ cls := "RateGate$Request", name := "readExpress", desc := "(II)I" } : Jvm.MethodName)) ∈ TB := tB2 164 (by rfl) (by rfl)
theorem tw_2_165 : (Jvm.Cond.code ({ cls := "RateGate$Request", name := "readExpress", desc := "(II)I" } : Jvm.MethodName) prog_6_method_15_code (4 : Nat) (Option.some Jvm.ClassFile.FieldType.int)) ∈ TB := tB2 165 (by rfl) (by rfl)
theorem tw_2_167 : (Jvm.Cond.methodLink "RateGate$Request" (74 : Nat) ({ cls := "RateGate$Request", name := "findMissingKey", desc := "()V" } : Jvm.MethodName)) ∈ TB := tB2 167 (by rfl) (by rfl)
theorem tw_2_169 : (Jvm.Cond.instanceMethod ({ cls := "RateGate$Request", name := "findMissingKey", desc := "()V" } : Jvm.MethodName)) ∈ TB := tB2 169 (by rfl) (by rfl)
theorem tw_2_170 : (Jvm.Cond.code ({ cls := "RateGate$Request", name := "findMissingKey", desc := "()V" } : Jvm.MethodName) prog_6_method_16_code (2 : Nat) (Option.none : Option Jvm.ClassFile.FieldType)) ∈ TB := tB2 170 (by rfl) (by rfl)
theorem tw_2_171 : (Jvm.Cond.methodLink "RateGate$Request" (120 : Nat) ({ cls := "RateGate$Request", name := "valueOf", desc := "(I)I" } : Jvm.MethodName)) ∈ TB := tB2 171 (by rfl) (by rfl)
theorem tw_2_172 : (Jvm.Cond.instanceMethod ({ cls := "RateGate$Request", name := "valueOf", desc := "(I)I" } : Jvm.MethodName)) ∈ TB := tB2 172 (by rfl) (by rfl)
theorem tw_2_173 : (Jvm.Cond.selects "RateGate$Request" ({ cls := "RateGate$Request", name := "valueOf", desc := "(I)I" } : Jvm.MethodName) ({ cls := "RateGate$Request", name := "valueOf", desc := "(I)I" } : Jvm.MethodName)) ∈ TB := tB2 173 (by rfl) (by rfl)
theorem tw_2_174 : (Jvm.Cond.code ({ cls := "RateGate$Request", name := "valueOf", desc := "(I)I" } : Jvm.MethodName) prog_6_method_7_code (2 : Nat) (Option.some Jvm.ClassFile.FieldType.int)) ∈ TB := tB2 174 (by rfl) (by rfl)
theorem tw_2_176 : (Jvm.Cond.classLink "RateGate$Request" (46 : Nat) "java/lang/StringBuilder") ∈ TB := tB2 176 (by rfl) (by rfl)
theorem tw_2_177 : (Jvm.Cond.instantiable "java/lang/StringBuilder" (4 : Nat)) ∈ TB := tB2 177 (by rfl) (by rfl)
theorem tw_2_178 : (Jvm.Cond.methodLink "RateGate$Request" (48 : Nat) ({ cls := "java/lang/StringBuilder", name := "<init>", desc := "()V" } : Jvm.MethodName)) ∈ TB := tB2 178 (by rfl) (by rfl)
theorem tw_2_179 : (Jvm.Cond.instanceMethod ({ cls := "java/lang/StringBuilder", name := "<init>", desc := "()V" } : Jvm.MethodName)) ∈ TB := tB2 179 (by rfl) (by rfl)
theorem tw_2_180 : (Jvm.Cond.code ({ cls := "java/lang/StringBuilder", name := "<init>", desc := "()V" } : Jvm.MethodName) prog_28_method_1_code (1 : Nat) (Option.none : Option Jvm.ClassFile.FieldType)) ∈ TB := tB2 180 (by rfl) (by rfl)
theorem tw_2_181 : (Jvm.Cond.methodLink "java/lang/StringBuilder" (1 : Nat) ({ cls := "java/lang/AbstractStringBuilder", name := "<init>", desc := "(I)V" } : Jvm.MethodName)) ∈ TB := tB2 181 (by rfl) (by rfl)
theorem tw_2_182 : (Jvm.Cond.instanceMethod ({ cls := "java/lang/AbstractStringBuilder", name := "<init>", desc := "(I)V" } : Jvm.MethodName)) ∈ TB := tB2 182 (by rfl) (by rfl)
theorem tw_2_183 : (Jvm.Cond.code ({ cls := "java/lang/AbstractStringBuilder", name := "<init>", desc := "(I)V" } : Jvm.MethodName) prog_12_method_2_code (2 : Nat) (Option.none : Option Jvm.ClassFile.FieldType)) ∈ TB := tB2 183 (by rfl) (by rfl)
theorem tw_2_184 : (Jvm.Cond.methodLink "java/lang/AbstractStringBuilder" (3 : Nat) ({ cls := "java/lang/Object", name := "<init>", desc := "()V" } : Jvm.MethodName)) ∈ TB := tB2 184 (by rfl) (by rfl)
theorem tw_2_185 : (Jvm.Cond.fieldLink "java/lang/AbstractStringBuilder" (18 : Nat) "java/lang/String" "COMPACT_STRINGS" "Z") ∈ TB := tB2 185 (by rfl) (by rfl)
theorem tw_2_186 : (Jvm.Cond.methodLink "java/lang/AbstractStringBuilder" (26 : Nat) ({ cls := "java/lang/StringUTF16", name := "newBytesFor", desc := "(I)[B" } : Jvm.MethodName)) ∈ TB := tB2 186 (by rfl) (by rfl)
theorem tw_2_187 : (Jvm.Cond.static ({ cls := "java/lang/StringUTF16", name := "newBytesFor", desc := "(I)[B" } : Jvm.MethodName)) ∈ TB := tB2 187 (by rfl) (by rfl)
theorem tw_2_188 : (Jvm.Cond.code ({ cls := "java/lang/StringUTF16", name := "newBytesFor", desc := "(I)[B" } : Jvm.MethodName) prog_30_method_2_code (1 : Nat) (Option.some (Jvm.ClassFile.FieldType.array Jvm.ClassFile.FieldType.byte))) ∈ TB := tB2 188 (by rfl) (by rfl)
theorem tw_2_189 : (Jvm.Cond.methodLink "java/lang/StringUTF16" (11 : Nat) ({ cls := "java/lang/StringUTF16", name := "newBytesLength", desc := "(I)I" } : Jvm.MethodName)) ∈ TB := tB2 189 (by rfl) (by rfl)
theorem tw_2_190 : (Jvm.Cond.static ({ cls := "java/lang/StringUTF16", name := "newBytesLength", desc := "(I)I" } : Jvm.MethodName)) ∈ TB := tB2 190 (by rfl) (by rfl)
theorem tw_2_191 : (Jvm.Cond.code ({ cls := "java/lang/StringUTF16", name := "newBytesLength", desc := "(I)I" } : Jvm.MethodName) prog_30_method_3_code (1 : Nat) (Option.some Jvm.ClassFile.FieldType.int)) ∈ TB := tB2 191 (by rfl) (by rfl)
theorem tw_2_192 : (Jvm.Cond.constant "java/lang/StringUTF16" (20 : Nat) (1073741823 : Int32)) ∈ TB := tB2 192 (by rfl) (by rfl)
theorem tw_2_193 : (Jvm.Cond.fieldLink "java/lang/AbstractStringBuilder" (15 : Nat) "java/lang/AbstractStringBuilder" "value" "[B") ∈ TB := tB2 193 (by rfl) (by rfl)
theorem tw_2_194 : (Jvm.Cond.fieldLink "java/lang/AbstractStringBuilder" (22 : Nat) "java/lang/AbstractStringBuilder" "coder" "B") ∈ TB := tB2 194 (by rfl) (by rfl)
theorem tw_2_195 : (Jvm.Cond.fieldLink "java/lang/String" (1048 : Nat) "java/lang/AbstractStringBuilder" "maybeLatin1" "Z") ∈ TB := tB2 195 (by rfl) (by rfl)
theorem tw_2_196 : (Jvm.Cond.fieldLink "java/lang/AbstractStringBuilder" (79 : Nat) "java/lang/AbstractStringBuilder" "count" "I") ∈ TB := tB2 196 (by rfl) (by rfl)
theorem tw_2_197 : (Jvm.Cond.lays "java/lang/StringBuilder" "java/lang/AbstractStringBuilder" "value" "[B") ∈ TB := tB2 197 (by rfl) (by rfl)
theorem tw_2_199 : (Jvm.Cond.lays "java/lang/StringBuilder" "java/lang/AbstractStringBuilder" "coder" "B") ∈ TB := tB2 199 (by rfl) (by rfl)
theorem tw_2_201 : (Jvm.Cond.lays "java/lang/StringBuilder" "java/lang/AbstractStringBuilder" "maybeLatin1" "Z") ∈ TB := tB2 201 (by rfl) (by rfl)
theorem tw_2_203 : (Jvm.Cond.lays "java/lang/StringBuilder" "java/lang/AbstractStringBuilder" "count" "I") ∈ TB := tB2 203 (by rfl) (by rfl)
theorem tw_2_205 : (Jvm.Cond.superclass "java/lang/StringBuilder" "java/lang/AbstractStringBuilder") ∈ TB := tB2 205 (by rfl) (by rfl)
theorem tw_2_206 : (Jvm.Cond.methodLink "RateGate$Request" (49 : Nat) ({ cls := "java/lang/StringBuilder", name := "append", desc := "(Ljava/lang/String;)Ljava/lang/StringBuilder;" } : Jvm.MethodName)) ∈ TB := tB2 206 (by rfl) (by rfl)
theorem tw_2_207 : (Jvm.Cond.instanceMethod ({ cls := "java/lang/StringBuilder", name := "append", desc := "(Ljava/lang/String;)Ljava/lang/StringBuilder;" } : Jvm.MethodName)) ∈ TB := tB2 207 (by rfl) (by rfl)
theorem tw_2_208 : (Jvm.Cond.selects "java/lang/StringBuilder" ({ cls := "java/lang/StringBuilder", name := "append", desc := "(Ljava/lang/String;)Ljava/lang/StringBuilder;" } : Jvm.MethodName) ({ cls := "java/lang/StringBuilder", name := "append", desc := "(Ljava/lang/String;)Ljava/lang/StringBuilder;" } : Jvm.MethodName)) ∈ TB := tB2 208 (by rfl) (by rfl)
theorem tw_2_209 : (Jvm.Cond.code ({ cls := "java/lang/StringBuilder", name := "append", desc := "(Ljava/lang/String;)Ljava/lang/StringBuilder;" } : Jvm.MethodName) prog_28_method_7_code (2 : Nat) (Option.some (Jvm.ClassFile.FieldType.object "java/lang/StringBuilder"))) ∈ TB := tB2 209 (by rfl) (by rfl)
theorem tw_2_210 : (Jvm.Cond.methodLink "java/lang/StringBuilder" (29 : Nat) ({ cls := "java/lang/AbstractStringBuilder", name := "append", desc := "(Ljava/lang/String;)Ljava/lang/AbstractStringBuilder;" } : Jvm.MethodName)) ∈ TB := tB2 210 (by rfl) (by rfl)
theorem tw_2_211 : (Jvm.Cond.instanceMethod ({ cls := "java/lang/AbstractStringBuilder", name := "append", desc := "(Ljava/lang/String;)Ljava/lang/AbstractStringBuilder;" } : Jvm.MethodName)) ∈ TB := tB2 211 (by rfl) (by rfl)
theorem tw_2_212 : (Jvm.Cond.code ({ cls := "java/lang/AbstractStringBuilder", name := "append", desc := "(Ljava/lang/String;)Ljava/lang/AbstractStringBuilder;" } : Jvm.MethodName) prog_12_method_22_code (3 : Nat) (Option.some (Jvm.ClassFile.FieldType.object "java/lang/AbstractStringBuilder"))) ∈ TB := tB2 212 (by rfl) (by rfl)
theorem tw_2_213 : (Jvm.Cond.methodLink "java/lang/AbstractStringBuilder" (204 : Nat) ({ cls := "java/lang/AbstractStringBuilder", name := "appendNull", desc := "()Ljava/lang/AbstractStringBuilder;" } : Jvm.MethodName)) ∈ TB := tB2 213 (by rfl) (by rfl)
theorem tw_2_215 : (Jvm.Cond.instanceMethod ({ cls := "java/lang/AbstractStringBuilder", name := "appendNull", desc := "()Ljava/lang/AbstractStringBuilder;" } : Jvm.MethodName)) ∈ TB := tB2 215 (by rfl) (by rfl)
theorem tw_2_216 : (Jvm.Cond.code ({ cls := "java/lang/AbstractStringBuilder", name := "appendNull", desc := "()Ljava/lang/AbstractStringBuilder;" } : Jvm.MethodName) prog_12_method_26_code (3 : Nat) (Option.some (Jvm.ClassFile.FieldType.object "java/lang/AbstractStringBuilder"))) ∈ TB := tB2 216 (by rfl) (by rfl)
theorem tw_2_217 : (Jvm.Cond.methodLink "java/lang/AbstractStringBuilder" (100 : Nat) ({ cls := "java/lang/AbstractStringBuilder", name := "ensureCapacityInternal", desc := "(I)V" } : Jvm.MethodName)) ∈ TB := tB2 217 (by rfl) (by rfl)
theorem tw_2_219 : (Jvm.Cond.instanceMethod ({ cls := "java/lang/AbstractStringBuilder", name := "ensureCapacityInternal", desc := "(I)V" } : Jvm.MethodName)) ∈ TB := tB2 219 (by rfl) (by rfl)
theorem tw_2_220 : (Jvm.Cond.code ({ cls := "java/lang/AbstractStringBuilder", name := "ensureCapacityInternal", desc := "(I)V" } : Jvm.MethodName) prog_12_method_9_code (3 : Nat) (Option.none : Option Jvm.ClassFile.FieldType)) ∈ TB := tB2 220 (by rfl) (by rfl)
theorem tw_2_221 : (Jvm.Cond.methodLink "java/lang/AbstractStringBuilder" (104 : Nat) ({ cls := "java/lang/AbstractStringBuilder", name := "newCapacity", desc := "(I)I" } : Jvm.MethodName)) ∈ TB := tB2 221 (by rfl) (by rfl)
theorem tw_2_223 : (Jvm.Cond.instanceMethod ({ cls := "java/lang/AbstractStringBuilder", name := "newCapacity", desc := "(I)I" } : Jvm.MethodName)) ∈ TB := tB2 223 (by rfl) (by rfl)
theorem tw_2_224 : (Jvm.Cond.code ({ cls := "java/lang/AbstractStringBuilder", name := "newCapacity", desc := "(I)I" } : Jvm.MethodName) prog_12_method_10_code (6 : Nat) (Option.some Jvm.ClassFile.FieldType.int)) ∈ TB := tB2 224 (by rfl) (by rfl)
theorem tw_2_225 : (Jvm.Cond.methodLink "java/lang/AbstractStringBuilder" (114 : Nat) ({ cls := "jdk/internal/util/ArraysSupport", name := "newLength", desc := "(III)I" } : Jvm.MethodName)) ∈ TB := tB2 225 (by rfl) (by rfl)
theorem tw_2_226 : (Jvm.Cond.static ({ cls := "jdk/internal/util/ArraysSupport", name := "newLength", desc := "(III)I" } : Jvm.MethodName)) ∈ TB := tB2 226 (by rfl) (by rfl)
theorem tw_2_227 : (Jvm.Cond.code ({ cls := "jdk/internal/util/ArraysSupport", name := "newLength", desc := "(III)I" } : Jvm.MethodName) prog_44_method_27_code (4 : Nat) (Option.some Jvm.ClassFile.FieldType.int)) ∈ TB := tB2 227 (by rfl) (by rfl)
theorem tw_2_228 : (Jvm.Cond.methodLink "jdk/internal/util/ArraysSupport" (194 : Nat) ({ cls := "java/lang/Math", name := "max", desc := "(II)I" } : Jvm.MethodName)) ∈ TB := tB2 228 (by rfl) (by rfl)
theorem tw_2_229 : (Jvm.Cond.constant "jdk/internal/util/ArraysSupport" (200 : Nat) (2147483639 : Int32)) ∈ TB := tB2 229 (by rfl) (by rfl)
theorem tw_2_230 : (Jvm.Cond.methodLink "jdk/internal/util/ArraysSupport" (201 : Nat) ({ cls := "jdk/internal/util/ArraysSupport", name := "hugeLength", desc := "(II)I" } : Jvm.MethodName)) ∈ TB := tB2 230 (by rfl) (by rfl)
theorem tw_2_231 : (Jvm.Cond.static ({ cls := "jdk/internal/util/ArraysSupport", name := "hugeLength", desc := "(II)I" } : Jvm.MethodName)) ∈ TB := tB2 231 (by rfl) (by rfl)
theorem tw_2_232 : (Jvm.Cond.code ({ cls := "jdk/internal/util/ArraysSupport", name := "hugeLength", desc := "(II)I" } : Jvm.MethodName) prog_44_method_28_code (3 : Nat) (Option.some Jvm.ClassFile.FieldType.int)) ∈ TB := tB2 232 (by rfl) (by rfl)
theorem tw_2_233 : (Jvm.Cond.constant "java/lang/AbstractStringBuilder" (39 : Nat) (2147483647 : Int32)) ∈ TB := tB2 233 (by rfl) (by rfl)
theorem tw_2_234 : (Jvm.Cond.methodLink "java/lang/AbstractStringBuilder" (108 : Nat) ({ cls := "java/util/Arrays", name := "copyOf", desc := "([BI)[B" } : Jvm.MethodName)) ∈ TB := tB2 234 (by rfl) (by rfl)
theorem tw_2_235 : (Jvm.Cond.static ({ cls := "java/util/Arrays", name := "copyOf", desc := "([BI)[B" } : Jvm.MethodName)) ∈ TB := tB2 235 (by rfl) (by rfl)
theorem tw_2_236 : (Jvm.Cond.code ({ cls := "java/util/Arrays", name := "copyOf", desc := "([BI)[B" } : Jvm.MethodName) prog_38_method_121_code (3 : Nat) (Option.some (Jvm.ClassFile.FieldType.array Jvm.ClassFile.FieldType.byte))) ∈ TB := tB2 236 (by rfl) (by rfl)
theorem tw_2_237 : (Jvm.Cond.methodLink "java/util/Arrays" (310 : Nat) ({ cls := "[B", name := "clone", desc := "()Ljava/lang/Object;" } : Jvm.MethodName)) ∈ TB := tB2 237 (by rfl) (by rfl)
theorem tw_2_238 : (Jvm.Cond.sameMethod "[B" "java/lang/Object" "clone" "()Ljava/lang/Object;") ∈ TB := tB2 238 (by rfl) (by rfl)
theorem tw_2_239 : (Jvm.Cond.native ({ cls := "java/lang/Object", name := "clone", desc := "()Ljava/lang/Object;" } : Jvm.MethodName)) ∈ TB := tB2 239 (by rfl) (by rfl)
theorem tw_3_0 : (Jvm.Cond.instanceMethod ({ cls := "java/lang/Object", name := "clone", desc := "()Ljava/lang/Object;" } : Jvm.MethodName)) ∈ TB := tB3 0 (by rfl) (by rfl)
theorem tw_3_1 : (Jvm.Cond.selects "[B" ({ cls := "[B", name := "clone", desc := "()Ljava/lang/Object;" } : Jvm.MethodName) ({ cls := "java/lang/Object", name := "clone", desc := "()Ljava/lang/Object;" } : Jvm.MethodName)) ∈ TB := tB3 1 (by rfl) (by rfl)
theorem tw_3_3 : (Jvm.Cond.classLink "java/util/Arrays" (311 : Nat) "[B") ∈ TB := tB3 3 (by rfl) (by rfl)
theorem tw_3_4 : (Jvm.Cond.methodLink "java/util/Arrays" (304 : Nat) ({ cls := "java/lang/Math", name := "min", desc := "(II)I" } : Jvm.MethodName)) ∈ TB := tB3 4 (by rfl) (by rfl)
theorem tw_3_5 : (Jvm.Cond.methodLink "java/util/Arrays" (150 : Nat) ({ cls := "java/lang/System", name := "arraycopy", desc := "(Ljava/lang/Object;ILjava/lang/Object;II)V" } : Jvm.MethodName)) ∈ TB := tB3 5 (by rfl) (by rfl)
theorem tw_3_6 : (Jvm.Cond.static ({ cls := "java/lang/System", name := "arraycopy", desc := "(Ljava/lang/Object;ILjava/lang/Object;II)V" } : Jvm.MethodName)) ∈ TB := tB3 6 (by rfl) (by rfl)
theorem tw_3_7 : (Jvm.Cond.native ({ cls := "java/lang/System", name := "arraycopy", desc := "(Ljava/lang/Object;ILjava/lang/Object;II)V" } : Jvm.MethodName)) ∈ TB := tB3 7 (by rfl) (by rfl)
theorem tw_3_8 : (Jvm.Cond.methodLink "java/lang/AbstractStringBuilder" (83 : Nat) ({ cls := "java/lang/AbstractStringBuilder", name := "isLatin1", desc := "()Z" } : Jvm.MethodName)) ∈ TB := tB3 8 (by rfl) (by rfl)
theorem tw_3_9 : (Jvm.Cond.instanceMethod ({ cls := "java/lang/AbstractStringBuilder", name := "isLatin1", desc := "()Z" } : Jvm.MethodName)) ∈ TB := tB3 9 (by rfl) (by rfl)
theorem tw_3_10 : (Jvm.Cond.sameMethod "java/lang/AbstractStringBuilder" "java/lang/AbstractStringBuilder" "isLatin1" "()Z") ∈ TB := tB3 10 (by rfl) (by rfl)
theorem tw_3_11 : (Jvm.Cond.selects "java/lang/StringBuilder" ({ cls := "java/lang/AbstractStringBuilder", name := "isLatin1", desc := "()Z" } : Jvm.MethodName) ({ cls := "java/lang/AbstractStringBuilder", name := "isLatin1", desc := "()Z" } : Jvm.MethodName)) ∈ TB := tB3 11 (by rfl) (by rfl)
theorem tw_3_12 : (Jvm.Cond.code ({ cls := "java/lang/AbstractStringBuilder", name := "isLatin1", desc := "()Z" } : Jvm.MethodName) prog_12_method_68_code (1 : Nat) (Option.some Jvm.ClassFile.FieldType.boolean)) ∈ TB := tB3 12 (by rfl) (by rfl)
theorem tw_3_13 : (Jvm.Cond.methodLink "java/lang/AbstractStringBuilder" (226 : Nat) ({ cls := "java/lang/StringUTF16", name := "putCharsAt", desc := "([BICCCC)I" } : Jvm.MethodName)) ∈ TB := tB3 13 (by rfl) (by rfl)
theorem tw_3_14 : (Jvm.Cond.static ({ cls := "java/lang/StringUTF16", name := "putCharsAt", desc := "([BICCCC)I" } : Jvm.MethodName)) ∈ TB := tB3 14 (by rfl) (by rfl)
theorem tw_3_15 : (Jvm.Cond.code ({ cls := "java/lang/StringUTF16", name := "putCharsAt", desc := "([BICCCC)I" } : Jvm.MethodName) prog_30_method_81_code (7 : Nat) (Option.some Jvm.ClassFile.FieldType.int)) ∈ TB := tB3 15 (by rfl) (by rfl)
theorem tw_3_16 : (Jvm.Cond.methodLink "java/lang/StringUTF16" (111 : Nat) ({ cls := "java/lang/StringUTF16", name := "putChar", desc := "([BII)V" } : Jvm.MethodName)) ∈ TB := tB3 16 (by rfl) (by rfl)
theorem tw_3_17 : (Jvm.Cond.static ({ cls := "java/lang/StringUTF16", name := "putChar", desc := "([BII)V" } : Jvm.MethodName)) ∈ TB := tB3 17 (by rfl) (by rfl)
theorem tw_3_18 : (Jvm.Cond.code ({ cls := "java/lang/StringUTF16", name := "putChar", desc := "([BII)V" } : Jvm.MethodName) prog_30_method_4_code (3 : Nat) (Option.none : Option Jvm.ClassFile.FieldType)) ∈ TB := tB3 18 (by rfl) (by rfl)
theorem tw_3_19 : (Jvm.Cond.methodLink "java/lang/AbstractStringBuilder" (32 : Nat) ({ cls := "java/lang/String", name := "length", desc := "()I" } : Jvm.MethodName)) ∈ TB := tB3 19 (by rfl) (by rfl)
theorem tw_3_20 : (Jvm.Cond.methodLink "java/lang/AbstractStringBuilder" (208 : Nat) ({ cls := "java/lang/AbstractStringBuilder", name := "putStringAt", desc := "(ILjava/lang/String;)V" } : Jvm.MethodName)) ∈ TB := tB3 20 (by rfl) (by rfl)
theorem tw_3_22 : (Jvm.Cond.instanceMethod ({ cls := "java/lang/AbstractStringBuilder", name := "putStringAt", desc := "(ILjava/lang/String;)V" } : Jvm.MethodName)) ∈ TB := tB3 22 (by rfl) (by rfl)
theorem tw_3_23 : (Jvm.Cond.code ({ cls := "java/lang/AbstractStringBuilder", name := "putStringAt", desc := "(ILjava/lang/String;)V" } : Jvm.MethodName) prog_12_method_73_code (3 : Nat) (Option.none : Option Jvm.ClassFile.FieldType)) ∈ TB := tB3 23 (by rfl) (by rfl)
theorem tw_3_24 : (Jvm.Cond.methodLink "java/lang/AbstractStringBuilder" (397 : Nat) ({ cls := "java/lang/AbstractStringBuilder", name := "inflateIfNeededFor", desc := "(Ljava/lang/String;)V" } : Jvm.MethodName)) ∈ TB := tB3 24 (by rfl) (by rfl)
theorem tw_3_26 : (Jvm.Cond.instanceMethod ({ cls := "java/lang/AbstractStringBuilder", name := "inflateIfNeededFor", desc := "(Ljava/lang/String;)V" } : Jvm.MethodName)) ∈ TB := tB3 26 (by rfl) (by rfl)
theorem tw_3_27 : (Jvm.Cond.code ({ cls := "java/lang/AbstractStringBuilder", name := "inflateIfNeededFor", desc := "(Ljava/lang/String;)V" } : Jvm.MethodName) prog_12_method_71_code (2 : Nat) (Option.none : Option Jvm.ClassFile.FieldType)) ∈ TB := tB3 27 (by rfl) (by rfl)
theorem tw_3_28 : (Jvm.Cond.methodLink "java/lang/AbstractStringBuilder" (40 : Nat) ({ cls := "java/lang/String", name := "coder", desc := "()B" } : Jvm.MethodName)) ∈ TB := tB3 28 (by rfl) (by rfl)
theorem tw_3_29 : (Jvm.Cond.methodLink "java/lang/AbstractStringBuilder" (195 : Nat) ({ cls := "java/lang/AbstractStringBuilder", name := "inflate", desc := "()V" } : Jvm.MethodName)) ∈ TB := tB3 29 (by rfl) (by rfl)
theorem tw_3_31 : (Jvm.Cond.instanceMethod ({ cls := "java/lang/AbstractStringBuilder", name := "inflate", desc := "()V" } : Jvm.MethodName)) ∈ TB := tB3 31 (by rfl) (by rfl)
theorem tw_3_32 : (Jvm.Cond.code ({ cls := "java/lang/AbstractStringBuilder", name := "inflate", desc := "()V" } : Jvm.MethodName) prog_12_method_11_code (2 : Nat) (Option.none : Option Jvm.ClassFile.FieldType)) ∈ TB := tB3 32 (by rfl) (by rfl)
theorem tw_3_33 : (Jvm.Cond.methodLink "java/lang/AbstractStringBuilder" (125 : Nat) ({ cls := "java/lang/StringLatin1", name := "inflate", desc := "([BI[BII)V" } : Jvm.MethodName)) ∈ TB := tB3 33 (by rfl) (by rfl)
theorem tw_3_34 : (Jvm.Cond.static ({ cls := "java/lang/StringLatin1", name := "inflate", desc := "([BI[BII)V" } : Jvm.MethodName)) ∈ TB := tB3 34 (by rfl) (by rfl)
theorem tw_3_35 : (Jvm.Cond.code ({ cls := "java/lang/StringLatin1", name := "inflate", desc := "([BI[BII)V" } : Jvm.MethodName) prog_29_method_50_code (5 : Nat) (Option.none : Option Jvm.ClassFile.FieldType)) ∈ TB := tB3 35 (by rfl) (by rfl)
theorem tw_3_36 : (Jvm.Cond.methodLink "java/lang/StringLatin1" (240 : Nat) ({ cls := "java/lang/StringUTF16", name := "inflate", desc := "([BI[BII)V" } : Jvm.MethodName)) ∈ TB := tB3 36 (by rfl) (by rfl)
theorem tw_3_37 : (Jvm.Cond.static ({ cls := "java/lang/StringUTF16", name := "inflate", desc := "([BI[BII)V" } : Jvm.MethodName)) ∈ TB := tB3 37 (by rfl) (by rfl)
theorem tw_3_38 : (Jvm.Cond.code ({ cls := "java/lang/StringUTF16", name := "inflate", desc := "([BI[BII)V" } : Jvm.MethodName) prog_30_method_86_code (6 : Nat) (Option.none : Option Jvm.ClassFile.FieldType)) ∈ TB := tB3 38 (by rfl) (by rfl)
theorem tw_3_39 : (Jvm.Cond.methodLink "java/lang/StringUTF16" (173 : Nat) ({ cls := "java/lang/StringUTF16", name := "checkBoundsOffCount", desc := "(II[B)V" } : Jvm.MethodName)) ∈ TB := tB3 39 (by rfl) (by rfl)
theorem tw_3_40 : (Jvm.Cond.static ({ cls := "java/lang/StringUTF16", name := "checkBoundsOffCount", desc := "(II[B)V" } : Jvm.MethodName)) ∈ TB := tB3 40 (by rfl) (by rfl)
theorem tw_3_41 : (Jvm.Cond.code ({ cls := "java/lang/StringUTF16", name := "checkBoundsOffCount", desc := "(II[B)V" } : Jvm.MethodName) prog_30_method_94_code (3 : Nat) (Option.none : Option Jvm.ClassFile.FieldType)) ∈ TB := tB3 41 (by rfl) (by rfl)
theorem tw_3_42 : (Jvm.Cond.methodLink "java/lang/StringUTF16" (419 : Nat) ({ cls := "java/lang/String", name := "checkBoundsOffCount", desc := "(III)I" } : Jvm.MethodName)) ∈ TB := tB3 42 (by rfl) (by rfl)
theorem tw_3_43 : (Jvm.Cond.static ({ cls := "java/lang/String", name := "checkBoundsOffCount", desc := "(III)I" } : Jvm.MethodName)) ∈ TB := tB3 43 (by rfl) (by rfl)
theorem tw_3_44 : (Jvm.Cond.code ({ cls := "java/lang/String", name := "checkBoundsOffCount", desc := "(III)I" } : Jvm.MethodName) prog_27_method_157_code (3 : Nat) (Option.some Jvm.ClassFile.FieldType.int)) ∈ TB := tB3 44 (by rfl) (by rfl)
theorem tw_3_45 : (Jvm.Cond.methodLink "java/lang/String" (1065 : Nat) ({ cls := "jdk/internal/util/Preconditions", name := "checkFromIndexSize", desc := "(IIILjava/util/function/BiFunction;)I" } : Jvm.MethodName)) ∈ TB := tB3 45 (by rfl) (by rfl)
theorem tw_3_46 : (Jvm.Cond.static ({ cls := "jdk/internal/util/Preconditions", name := "checkFromIndexSize", desc := "(IIILjava/util/function/BiFunction;)I" } : Jvm.MethodName)) ∈ TB := tB3 46 (by rfl) (by rfl)
theorem tw_3_47 : (Jvm.Cond.code ({ cls := "jdk/internal/util/Preconditions", name := "checkFromIndexSize", desc := "(IIILjava/util/function/BiFunction;)I" } : Jvm.MethodName) prog_45_method_13_code (4 : Nat) (Option.some Jvm.ClassFile.FieldType.int)) ∈ TB := tB3 47 (by rfl) (by rfl)
theorem tw_3_48 : (Jvm.Cond.methodLink "java/lang/AbstractStringBuilder" (399 : Nat) ({ cls := "java/lang/String", name := "getBytes", desc := "([BIB)V" } : Jvm.MethodName)) ∈ TB := tB3 48 (by rfl) (by rfl)
theorem tw_3_49 : (Jvm.Cond.instanceMethod ({ cls := "java/lang/String", name := "getBytes", desc := "([BIB)V" } : Jvm.MethodName)) ∈ TB := tB3 49 (by rfl) (by rfl)
theorem tw_3_50 : (Jvm.Cond.selects "java/lang/String" ({ cls := "java/lang/String", name := "getBytes", desc := "([BIB)V" } : Jvm.MethodName) ({ cls := "java/lang/String", name := "getBytes", desc := "([BIB)V" } : Jvm.MethodName)) ∈ TB := tB3 50 (by rfl) (by rfl)
theorem tw_3_51 : (Jvm.Cond.code ({ cls := "java/lang/String", name := "getBytes", desc := "([BIB)V" } : Jvm.MethodName) prog_27_method_147_code (4 : Nat) (Option.none : Option Jvm.ClassFile.FieldType)) ∈ TB := tB3 51 (by rfl) (by rfl)
theorem tw_3_52 : (Jvm.Cond.methodLink "java/lang/String" (212 : Nat) ({ cls := "java/lang/System", name := "arraycopy", desc := "(Ljava/lang/Object;ILjava/lang/Object;II)V" } : Jvm.MethodName)) ∈ TB := tB3 52 (by rfl) (by rfl)
theorem tw_3_53 : (Jvm.Cond.methodLink "java/lang/String" (106 : Nat) ({ cls := "java/lang/StringLatin1", name := "inflate", desc := "([BI[BII)V" } : Jvm.MethodName)) ∈ TB := tB3 53 (by rfl) (by rfl)
theorem tw_3_54 : (Jvm.Cond.methodLink "RateGate$Request" (53 : Nat) ({ cls := "java/lang/StringBuilder", name := "append", desc := "(C)Ljava/lang/StringBuilder;" } : Jvm.MethodName)) ∈ TB := tB3 54 (by rfl) (by rfl)
theorem tw_3_55 : (Jvm.Cond.instanceMethod ({ cls := "java/lang/StringBuilder", name := "append", desc := "(C)Ljava/lang/StringBuilder;" } : Jvm.MethodName)) ∈ TB := tB3 55 (by rfl) (by rfl)
theorem tw_3_56 : (Jvm.Cond.selects "java/lang/StringBuilder" ({ cls := "java/lang/StringBuilder", name := "append", desc := "(C)Ljava/lang/StringBuilder;" } : Jvm.MethodName) ({ cls := "java/lang/StringBuilder", name := "append", desc := "(C)Ljava/lang/StringBuilder;" } : Jvm.MethodName)) ∈ TB := tB3 56 (by rfl) (by rfl)
theorem tw_3_57 : (Jvm.Cond.code ({ cls := "java/lang/StringBuilder", name := "append", desc := "(C)Ljava/lang/StringBuilder;" } : Jvm.MethodName) prog_28_method_14_code (2 : Nat) (Option.some (Jvm.ClassFile.FieldType.object "java/lang/StringBuilder"))) ∈ TB := tB3 57 (by rfl) (by rfl)
theorem tw_3_58 : (Jvm.Cond.methodLink "java/lang/StringBuilder" (50 : Nat) ({ cls := "java/lang/AbstractStringBuilder", name := "append", desc := "(C)Ljava/lang/AbstractStringBuilder;" } : Jvm.MethodName)) ∈ TB := tB3 58 (by rfl) (by rfl)
theorem tw_3_59 : (Jvm.Cond.instanceMethod ({ cls := "java/lang/AbstractStringBuilder", name := "append", desc := "(C)Ljava/lang/AbstractStringBuilder;" } : Jvm.MethodName)) ∈ TB := tB3 59 (by rfl) (by rfl)
theorem tw_3_60 : (Jvm.Cond.code ({ cls := "java/lang/AbstractStringBuilder", name := "append", desc := "(C)Ljava/lang/AbstractStringBuilder;" } : Jvm.MethodName) prog_12_method_31_code (2 : Nat) (Option.some (Jvm.ClassFile.FieldType.object "java/lang/AbstractStringBuilder"))) ∈ TB := tB3 60 (by rfl) (by rfl)
theorem tw_3_61 : (Jvm.Cond.methodLink "java/lang/AbstractStringBuilder" (191 : Nat) ({ cls := "java/lang/StringLatin1", name := "canEncode", desc := "(C)Z" } : Jvm.MethodName)) ∈ TB := tB3 61 (by rfl) (by rfl)
theorem tw_3_62 : (Jvm.Cond.static ({ cls := "java/lang/StringLatin1", name := "canEncode", desc := "(C)Z" } : Jvm.MethodName)) ∈ TB := tB3 62 (by rfl) (by rfl)
theorem tw_3_63 : (Jvm.Cond.code ({ cls := "java/lang/StringLatin1", name := "canEncode", desc := "(C)Z" } : Jvm.MethodName) prog_29_method_3_code (1 : Nat) (Option.some Jvm.ClassFile.FieldType.boolean)) ∈ TB := tB3 63 (by rfl) (by rfl)
theorem tw_3_64 : (Jvm.Cond.methodLink "java/lang/AbstractStringBuilder" (197 : Nat) ({ cls := "java/lang/StringUTF16", name := "putCharSB", desc := "([BII)V" } : Jvm.MethodName)) ∈ TB := tB3 64 (by rfl) (by rfl)
theorem tw_3_65 : (Jvm.Cond.static ({ cls := "java/lang/StringUTF16", name := "putCharSB", desc := "([BII)V" } : Jvm.MethodName)) ∈ TB := tB3 65 (by rfl) (by rfl)
theorem tw_3_66 : (Jvm.Cond.code ({ cls := "java/lang/StringUTF16", name := "putCharSB", desc := "([BII)V" } : Jvm.MethodName) prog_30_method_71_code (3 : Nat) (Option.none : Option Jvm.ClassFile.FieldType)) ∈ TB := tB3 66 (by rfl) (by rfl)
theorem tw_3_67 : (Jvm.Cond.methodLink "RateGate$Request" (56 : Nat) ({ cls := "java/lang/StringBuilder", name := "toString", desc := "()Ljava/lang/String;" } : Jvm.MethodName)) ∈ TB := tB3 67 (by rfl) (by rfl)
theorem tw_3_68 : (Jvm.Cond.instanceMethod ({ cls := "java/lang/StringBuilder", name := "toString", desc := "()Ljava/lang/String;" } : Jvm.MethodName)) ∈ TB := tB3 68 (by rfl) (by rfl)
theorem tw_3_69 : (Jvm.Cond.selects "java/lang/StringBuilder" ({ cls := "java/lang/StringBuilder", name := "toString", desc := "()Ljava/lang/String;" } : Jvm.MethodName) ({ cls := "java/lang/StringBuilder", name := "toString", desc := "()Ljava/lang/String;" } : Jvm.MethodName)) ∈ TB := tB3 69 (by rfl) (by rfl)
theorem tw_3_70 : (Jvm.Cond.code ({ cls := "java/lang/StringBuilder", name := "toString", desc := "()Ljava/lang/String;" } : Jvm.MethodName) prog_28_method_42_code (1 : Nat) (Option.some (Jvm.ClassFile.FieldType.object "java/lang/String"))) ∈ TB := tB3 70 (by rfl) (by rfl)
theorem tw_3_71 : (Jvm.Cond.classLink "java/lang/StringBuilder" (18 : Nat) "java/lang/String") ∈ TB := tB3 71 (by rfl) (by rfl)
theorem tw_3_72 : (Jvm.Cond.instantiable "java/lang/String" (4 : Nat)) ∈ TB := tB3 72 (by rfl) (by rfl)
theorem tw_3_73 : (Jvm.Cond.methodLink "java/lang/StringBuilder" (137 : Nat) ({ cls := "java/lang/String", name := "<init>", desc := "(Ljava/lang/StringBuilder;)V" } : Jvm.MethodName)) ∈ TB := tB3 73 (by rfl) (by rfl)
theorem tw_3_74 : (Jvm.Cond.instanceMethod ({ cls := "java/lang/String", name := "<init>", desc := "(Ljava/lang/StringBuilder;)V" } : Jvm.MethodName)) ∈ TB := tB3 74 (by rfl) (by rfl)
theorem tw_3_75 : (Jvm.Cond.code ({ cls := "java/lang/String", name := "<init>", desc := "(Ljava/lang/StringBuilder;)V" } : Jvm.MethodName) prog_27_method_53_code (2 : Nat) (Option.none : Option Jvm.ClassFile.FieldType)) ∈ TB := tB3 75 (by rfl) (by rfl)
theorem tw_3_76 : (Jvm.Cond.methodLink "java/lang/String" (489 : Nat) ({ cls := "java/lang/String", name := "<init>", desc := "(Ljava/lang/AbstractStringBuilder;Ljava/lang/Void;)V" } : Jvm.MethodName)) ∈ TB := tB3 76 (by rfl) (by rfl)
theorem tw_3_77 : (Jvm.Cond.instanceMethod ({ cls := "java/lang/String", name := "<init>", desc := "(Ljava/lang/AbstractStringBuilder;Ljava/lang/Void;)V" } : Jvm.MethodName)) ∈ TB := tB3 77 (by rfl) (by rfl)
theorem tw_3_78 : (Jvm.Cond.code ({ cls := "java/lang/String", name := "<init>", desc := "(Ljava/lang/AbstractStringBuilder;Ljava/lang/Void;)V" } : Jvm.MethodName) prog_27_method_150_code (5 : Nat) (Option.none : Option Jvm.ClassFile.FieldType)) ∈ TB := tB3 78 (by rfl) (by rfl)
theorem tw_3_79 : (Jvm.Cond.methodLink "java/lang/String" (1 : Nat) ({ cls := "java/lang/Object", name := "<init>", desc := "()V" } : Jvm.MethodName)) ∈ TB := tB3 79 (by rfl) (by rfl)
theorem tw_3_80 : (Jvm.Cond.methodLink "java/lang/String" (552 : Nat) ({ cls := "java/lang/AbstractStringBuilder", name := "getValue", desc := "()[B" } : Jvm.MethodName)) ∈ TB := tB3 80 (by rfl) (by rfl)
theorem tw_3_81 : (Jvm.Cond.instanceMethod ({ cls := "java/lang/AbstractStringBuilder", name := "getValue", desc := "()[B" } : Jvm.MethodName)) ∈ TB := tB3 81 (by rfl) (by rfl)
theorem tw_3_82 : (Jvm.Cond.sameMethod "java/lang/AbstractStringBuilder" "java/lang/AbstractStringBuilder" "getValue" "()[B") ∈ TB := tB3 82 (by rfl) (by rfl)
theorem tw_3_83 : (Jvm.Cond.selects "java/lang/StringBuilder" ({ cls := "java/lang/AbstractStringBuilder", name := "getValue", desc := "()[B" } : Jvm.MethodName) ({ cls := "java/lang/AbstractStringBuilder", name := "getValue", desc := "()[B" } : Jvm.MethodName)) ∈ TB := tB3 83 (by rfl) (by rfl)
theorem tw_3_84 : (Jvm.Cond.code ({ cls := "java/lang/AbstractStringBuilder", name := "getValue", desc := "()[B" } : Jvm.MethodName) prog_12_method_64_code (1 : Nat) (Option.some (Jvm.ClassFile.FieldType.array Jvm.ClassFile.FieldType.byte))) ∈ TB := tB3 84 (by rfl) (by rfl)
theorem tw_3_85 : (Jvm.Cond.methodLink "java/lang/String" (549 : Nat) ({ cls := "java/lang/AbstractStringBuilder", name := "length", desc := "()I" } : Jvm.MethodName)) ∈ TB := tB3 85 (by rfl) (by rfl)
theorem tw_3_86 : (Jvm.Cond.instanceMethod ({ cls := "java/lang/AbstractStringBuilder", name := "length", desc := "()I" } : Jvm.MethodName)) ∈ TB := tB3 86 (by rfl) (by rfl)
theorem tw_3_87 : (Jvm.Cond.sameMethod "java/lang/AbstractStringBuilder" "java/lang/AbstractStringBuilder" "length" "()I") ∈ TB := tB3 87 (by rfl) (by rfl)
theorem tw_3_88 : (Jvm.Cond.selects "java/lang/StringBuilder" ({ cls := "java/lang/AbstractStringBuilder", name := "length", desc := "()I" } : Jvm.MethodName) ({ cls := "java/lang/StringBuilder", name := "length", desc := "()I" } : Jvm.MethodName)) ∈ TB := tB3 88 (by rfl) (by rfl)
theorem tw_3_89 : (Jvm.Cond.instanceMethod ({ cls := "java/lang/StringBuilder", name := "length", desc := "()I" } : Jvm.MethodName)) ∈ TB := tB3 89 (by rfl) (by rfl)
theorem tw_3_90 : (Jvm.Cond.code ({ cls := "java/lang/StringBuilder", name := "length", desc := "()I" } : Jvm.MethodName) prog_28_method_93_code (1 : Nat) (Option.some Jvm.ClassFile.FieldType.int)) ∈ TB := tB3 90 (by rfl) (by rfl)
theorem tw_3_91 : (Jvm.Cond.methodLink "java/lang/StringBuilder" (343 : Nat) ({ cls := "java/lang/AbstractStringBuilder", name := "length", desc := "()I" } : Jvm.MethodName)) ∈ TB := tB3 91 (by rfl) (by rfl)
theorem tw_3_92 : (Jvm.Cond.code ({ cls := "java/lang/AbstractStringBuilder", name := "length", desc := "()I" } : Jvm.MethodName) prog_12_method_6_code (1 : Nat) (Option.some Jvm.ClassFile.FieldType.int)) ∈ TB := tB3 92 (by rfl) (by rfl)
theorem tw_3_93 : (Jvm.Cond.methodLink "java/lang/String" (1047 : Nat) ({ cls := "java/lang/AbstractStringBuilder", name := "isLatin1", desc := "()Z" } : Jvm.MethodName)) ∈ TB := tB3 93 (by rfl) (by rfl)
theorem tw_3_94 : (Jvm.Cond.methodLink "java/lang/String" (54 : Nat) ({ cls := "java/util/Arrays", name := "copyOfRange", desc := "([BII)[B" } : Jvm.MethodName)) ∈ TB := tB3 94 (by rfl) (by rfl)
theorem tw_3_95 : (Jvm.Cond.static ({ cls := "java/util/Arrays", name := "copyOfRange", desc := "([BII)[B" } : Jvm.MethodName)) ∈ TB := tB3 95 (by rfl) (by rfl)
theorem tw_3_96 : (Jvm.Cond.code ({ cls := "java/util/Arrays", name := "copyOfRange", desc := "([BII)[B" } : Jvm.MethodName) prog_38_method_132_code (3 : Nat) (Option.some (Jvm.ClassFile.FieldType.array Jvm.ClassFile.FieldType.byte))) ∈ TB := tB3 96 (by rfl) (by rfl)
theorem tw_3_97 : (Jvm.Cond.methodLink "java/util/Arrays" (339 : Nat) ({ cls := "java/util/Arrays", name := "copyOfRangeByte", desc := "([BII)[B" } : Jvm.MethodName)) ∈ TB := tB3 97 (by rfl) (by rfl)
theorem tw_3_98 : (Jvm.Cond.static ({ cls := "java/util/Arrays", name := "copyOfRangeByte", desc := "([BII)[B" } : Jvm.MethodName)) ∈ TB := tB3 98 (by rfl) (by rfl)
theorem tw_3_99 : (Jvm.Cond.code ({ cls := "java/util/Arrays", name := "copyOfRangeByte", desc := "([BII)[B" } : Jvm.MethodName) prog_38_method_133_code (5 : Nat) (Option.some (Jvm.ClassFile.FieldType.array Jvm.ClassFile.FieldType.byte))) ∈ TB := tB3 99 (by rfl) (by rfl)
theorem tw_3_100 : (Jvm.Cond.methodLink "java/util/Arrays" (343 : Nat) ({ cls := "java/util/Arrays", name := "checkLength", desc := "(II)V" } : Jvm.MethodName)) ∈ TB := tB3 100 (by rfl) (by rfl)
theorem tw_3_101 : (Jvm.Cond.static ({ cls := "java/util/Arrays", name := "checkLength", desc := "(II)V" } : Jvm.MethodName)) ∈ TB := tB3 101 (by rfl) (by rfl)
theorem tw_3_102 : (Jvm.Cond.code ({ cls := "java/util/Arrays", name := "checkLength", desc := "(II)V" } : Jvm.MethodName) prog_38_method_131_code (2 : Nat) (Option.none : Option Jvm.ClassFile.FieldType)) ∈ TB := tB3 102 (by rfl) (by rfl)
theorem tw_3_103 : (Jvm.Cond.classLink "java/util/Arrays" (43 : Nat) "java/lang/IllegalArgumentException") ∈ TB := tB3 103 (by rfl) (by rfl)
theorem tw_3_104 : (Jvm.Cond.instantiable "java/lang/IllegalArgumentException" (6 : Nat)) ∈ TB := tB3 104 (by rfl) (by rfl)
theorem tw_3_112 : (Jvm.Cond.selects "java/lang/IllegalArgumentException" ({ cls := "java/lang/Throwable", name := "fillInStackTrace", desc := "(I)Ljava/lang/Throwable;" } : Jvm.MethodName) ({ cls := "java/lang/Throwable", name := "fillInStackTrace", desc := "(I)Ljava/lang/Throwable;" } : Jvm.MethodName)) ∈ TB := tB3 112 (by rfl) (by rfl)
theorem tw_3_113 : (Jvm.Cond.selects "java/lang/IllegalArgumentException" ({ cls := "java/lang/Throwable", name := "fillInStackTrace", desc := "()Ljava/lang/Throwable;" } : Jvm.MethodName) ({ cls := "java/lang/Throwable", name := "fillInStackTrace", desc := "()Ljava/lang/Throwable;" } : Jvm.MethodName)) ∈ TB := tB3 113 (by rfl) (by rfl)
theorem tw_3_114 : (Jvm.Cond.lays "java/lang/IllegalArgumentException" "java/lang/Throwable" "cause" "Ljava/lang/Throwable;") ∈ TB := tB3 114 (by rfl) (by rfl)
theorem tw_3_115 : (Jvm.Cond.lays "java/lang/Throwable" "java/lang/Throwable" "cause" "Ljava/lang/Throwable;") ∈ TB := tB3 115 (by rfl) (by rfl)
theorem tw_3_116 : (Jvm.Cond.lays "java/lang/IllegalArgumentException" "java/lang/Throwable" "stackTrace" "[Ljava/lang/StackTraceElement;") ∈ TB := tB3 116 (by rfl) (by rfl)
theorem tw_3_117 : (Jvm.Cond.lays "java/lang/Throwable" "java/lang/Throwable" "stackTrace" "[Ljava/lang/StackTraceElement;") ∈ TB := tB3 117 (by rfl) (by rfl)
theorem tw_3_118 : (Jvm.Cond.lays "java/lang/IllegalArgumentException" "java/lang/Throwable" "suppressedExceptions" "Ljava/util/List;") ∈ TB := tB3 118 (by rfl) (by rfl)
theorem tw_3_119 : (Jvm.Cond.lays "java/lang/Throwable" "java/lang/Throwable" "suppressedExceptions" "Ljava/util/List;") ∈ TB := tB3 119 (by rfl) (by rfl)
theorem tw_3_120 : (Jvm.Cond.lays "java/lang/IllegalArgumentException" "java/lang/Throwable" "detailMessage" "Ljava/lang/String;") ∈ TB := tB3 120 (by rfl) (by rfl)
theorem tw_3_121 : (Jvm.Cond.lays "java/lang/Throwable" "java/lang/Throwable" "detailMessage" "Ljava/lang/String;") ∈ TB := tB3 121 (by rfl) (by rfl)
theorem tw_3_122 : (Jvm.Cond.lays "java/lang/IllegalArgumentException" "java/lang/Throwable" "backtrace" "Ljava/lang/Object;") ∈ TB := tB3 122 (by rfl) (by rfl)
theorem tw_3_123 : (Jvm.Cond.lays "java/lang/Throwable" "java/lang/Throwable" "backtrace" "Ljava/lang/Object;") ∈ TB := tB3 123 (by rfl) (by rfl)
theorem tw_3_124 : (Jvm.Cond.fieldLink "java/lang/Throwable" (198 : Nat) "java/lang/Throwable" "backtrace" "Ljava/lang/Object;") ∈ TB := tB3 124 (by rfl) (by rfl)
theorem tw_3_125 : (Jvm.Cond.superclass "java/lang/Throwable" "java/lang/Object") ∈ TB := tB3 125 (by rfl) (by rfl)
theorem tw_3_126 : (Jvm.Cond.instanceMethod ({ cls := "java/lang/Throwable", name := "<init>", desc := "()V" } : Jvm.MethodName)) ∈ TB := tB3 126 (by rfl) (by rfl)
theorem tw_3_127 : (Jvm.Cond.code ({ cls := "java/lang/Throwable", name := "<init>", desc := "()V" } : Jvm.MethodName) prog_32_method_1_code (1 : Nat) (Option.none : Option Jvm.ClassFile.FieldType)) ∈ TB := tB3 127 (by rfl) (by rfl)
theorem tw_3_128 : (Jvm.Cond.methodLink "java/lang/Throwable" (1 : Nat) ({ cls := "java/lang/Object", name := "<init>", desc := "()V" } : Jvm.MethodName)) ∈ TB := tB3 128 (by rfl) (by rfl)
theorem tw_3_129 : (Jvm.Cond.fieldLink "java/lang/Throwable" (13 : Nat) "java/lang/Throwable" "UNASSIGNED_STACK" "[Ljava/lang/StackTraceElement;") ∈ TB := tB3 129 (by rfl) (by rfl)
theorem tw_3_131 : (Jvm.Cond.fieldLink "java/lang/Throwable" (20 : Nat) "java/lang/Throwable" "SUPPRESSED_SENTINEL" "Ljava/util/List;") ∈ TB := tB3 131 (by rfl) (by rfl)
theorem tw_3_133 : (Jvm.Cond.methodLink "java/lang/Throwable" (27 : Nat) ({ cls := "java/lang/Throwable", name := "fillInStackTrace", desc := "()Ljava/lang/Throwable;" } : Jvm.MethodName)) ∈ TB := tB3 133 (by rfl) (by rfl)
theorem tw_3_134 : (Jvm.Cond.instanceMethod ({ cls := "java/lang/Throwable", name := "fillInStackTrace", desc := "()Ljava/lang/Throwable;" } : Jvm.MethodName)) ∈ TB := tB3 134 (by rfl) (by rfl)
theorem tw_3_135 : (Jvm.Cond.sameMethod "java/lang/Throwable" "java/lang/Throwable" "fillInStackTrace" "()Ljava/lang/Throwable;") ∈ TB := tB3 135 (by rfl) (by rfl)
theorem tw_3_136 : (Jvm.Cond.selects "java/lang/IllegalStateException" ({ cls := "java/lang/Throwable", name := "fillInStackTrace", desc := "()Ljava/lang/Throwable;" } : Jvm.MethodName) ({ cls := "java/lang/Throwable", name := "fillInStackTrace", desc := "()Ljava/lang/Throwable;" } : Jvm.MethodName)) ∈ TB := tB3 136 (by rfl) (by rfl)
theorem tw_3_137 : (Jvm.Cond.selects "java/lang/IndexOutOfBoundsException" ({ cls := "java/lang/Throwable", name := "fillInStackTrace", desc := "()Ljava/lang/Throwable;" } : Jvm.MethodName) ({ cls := "java/lang/Throwable", name := "fillInStackTrace", desc := "()Ljava/lang/Throwable;" } : Jvm.MethodName)) ∈ TB := tB3 137 (by rfl) (by rfl)
theorem tw_3_139 : (Jvm.Cond.methodLink "java/lang/Throwable" (202 : Nat) ({ cls := "java/lang/Throwable", name := "fillInStackTrace", desc := "(I)Ljava/lang/Throwable;" } : Jvm.MethodName)) ∈ TB := tB3 139 (by rfl) (by rfl)
theorem tw_3_141 : (Jvm.Cond.instanceMethod ({ cls := "java/lang/Throwable", name := "fillInStackTrace", desc := "(I)Ljava/lang/Throwable;" } : Jvm.MethodName)) ∈ TB := tB3 141 (by rfl) (by rfl)
theorem tw_3_142 : (Jvm.Cond.instantiable "java/lang/Throwable" (6 : Nat)) ∈ TB := tB3 142 (by rfl) (by rfl)
theorem tw_3_143 : (Jvm.Cond.native ({ cls := "java/lang/Throwable", name := "fillInStackTrace", desc := "(I)Ljava/lang/Throwable;" } : Jvm.MethodName)) ∈ TB := tB3 143 (by rfl) (by rfl)
theorem tw_3_144 : (Jvm.Cond.classLink "java/util/Arrays" (45 : Nat) "java/lang/StringBuilder") ∈ TB := tB3 144 (by rfl) (by rfl)
theorem tw_3_145 : (Jvm.Cond.methodLink "java/util/Arrays" (47 : Nat) ({ cls := "java/lang/StringBuilder", name := "<init>", desc := "()V" } : Jvm.MethodName)) ∈ TB := tB3 145 (by rfl) (by rfl)
theorem tw_3_146 : (Jvm.Cond.methodLink "java/util/Arrays" (54 : Nat) ({ cls := "java/lang/StringBuilder", name := "append", desc := "(I)Ljava/lang/StringBuilder;" } : Jvm.MethodName)) ∈ TB := tB3 146 (by rfl) (by rfl)
theorem tw_3_147 : (Jvm.Cond.instanceMethod ({ cls := "java/lang/StringBuilder", name := "append", desc := "(I)Ljava/lang/StringBuilder;" } : Jvm.MethodName)) ∈ TB := tB3 147 (by rfl) (by rfl)
theorem tw_3_148 : (Jvm.Cond.selects "java/lang/StringBuilder" ({ cls := "java/lang/StringBuilder", name := "append", desc := "(I)Ljava/lang/StringBuilder;" } : Jvm.MethodName) ({ cls := "java/lang/StringBuilder", name := "append", desc := "(I)Ljava/lang/StringBuilder;" } : Jvm.MethodName)) ∈ TB := tB3 148 (by rfl) (by rfl)
theorem tw_3_149 : (Jvm.Cond.code ({ cls := "java/lang/StringBuilder", name := "append", desc := "(I)Ljava/lang/StringBuilder;" } : Jvm.MethodName) prog_28_method_15_code (2 : Nat) (Option.some (Jvm.ClassFile.FieldType.object "java/lang/StringBuilder"))) ∈ TB := tB3 149 (by rfl) (by rfl)
theorem tw_3_150 : (Jvm.Cond.methodLink "java/lang/StringBuilder" (53 : Nat) ({ cls := "java/lang/AbstractStringBuilder", name := "append", desc := "(I)Ljava/lang/AbstractStringBuilder;" } : Jvm.MethodName)) ∈ TB := tB3 150 (by rfl) (by rfl)
theorem tw_3_151 : (Jvm.Cond.instanceMethod ({ cls := "java/lang/AbstractStringBuilder", name := "append", desc := "(I)Ljava/lang/AbstractStringBuilder;" } : Jvm.MethodName)) ∈ TB := tB3 151 (by rfl) (by rfl)
theorem tw_3_152 : (Jvm.Cond.code ({ cls := "java/lang/AbstractStringBuilder", name := "append", desc := "(I)Ljava/lang/AbstractStringBuilder;" } : Jvm.MethodName) prog_12_method_32_code (4 : Nat) (Option.some (Jvm.ClassFile.FieldType.object "java/lang/AbstractStringBuilder"))) ∈ TB := tB3 152 (by rfl) (by rfl)
theorem tw_3_153 : (Jvm.Cond.methodLink "java/lang/AbstractStringBuilder" (245 : Nat) ({ cls := "java/lang/Integer", name := "stringSize", desc := "(I)I" } : Jvm.MethodName)) ∈ TB := tB3 153 (by rfl) (by rfl)
theorem tw_3_154 : (Jvm.Cond.static ({ cls := "java/lang/Integer", name := "stringSize", desc := "(I)I" } : Jvm.MethodName)) ∈ TB := tB3 154 (by rfl) (by rfl)
theorem tw_3_155 : (Jvm.Cond.code ({ cls := "java/lang/Integer", name := "stringSize", desc := "(I)I" } : Jvm.MethodName) prog_22_method_13_code (4 : Nat) (Option.some Jvm.ClassFile.FieldType.int)) ∈ TB := tB3 155 (by rfl) (by rfl)
theorem tw_3_156 : (Jvm.Cond.methodLink "java/lang/AbstractStringBuilder" (248 : Nat) ({ cls := "java/lang/Integer", name := "getChars", desc := "(II[B)I" } : Jvm.MethodName)) ∈ TB := tB3 156 (by rfl) (by rfl)
theorem tw_3_157 : (Jvm.Cond.static ({ cls := "java/lang/Integer", name := "getChars", desc := "(II[B)I" } : Jvm.MethodName)) ∈ TB := tB3 157 (by rfl) (by rfl)
theorem tw_3_158 : (Jvm.Cond.code ({ cls := "java/lang/Integer", name := "getChars", desc := "(II[B)I" } : Jvm.MethodName) prog_22_method_12_code (7 : Nat) (Option.some Jvm.ClassFile.FieldType.int)) ∈ TB := tB3 158 (by rfl) (by rfl)
theorem tw_3_159 : (Jvm.Cond.fieldLink "java/lang/Integer" (83 : Nat) "java/lang/Integer" "DigitOnes" "[B") ∈ TB := tB3 159 (by rfl) (by rfl)
theorem tw_3_161 : (Jvm.Cond.fieldLink "java/lang/Integer" (87 : Nat) "java/lang/Integer" "DigitTens" "[B") ∈ TB := tB3 161 (by rfl) (by rfl)
theorem tw_3_163 : (Jvm.Cond.methodLink "java/lang/AbstractStringBuilder" (251 : Nat) ({ cls := "java/lang/StringUTF16", name := "getChars", desc := "(III[B)I" } : Jvm.MethodName)) ∈ TB := tB3 163 (by rfl) (by rfl)
theorem tw_3_164 : (Jvm.Cond.static ({ cls := "java/lang/StringUTF16", name := "getChars", desc := "(III[B)I" } : Jvm.MethodName)) ∈ TB := tB3 164 (by rfl) (by rfl)
theorem tw_3_165 : (Jvm.Cond.code ({ cls := "java/lang/StringUTF16", name := "getChars", desc := "(III[B)I" } : Jvm.MethodName) prog_30_method_77_code (5 : Nat) (Option.some Jvm.ClassFile.FieldType.int)) ∈ TB := tB3 165 (by rfl) (by rfl)
theorem tw_3_166 : (Jvm.Cond.methodLink "java/lang/StringUTF16" (393 : Nat) ({ cls := "java/lang/StringUTF16", name := "getChars", desc := "(II[B)I" } : Jvm.MethodName)) ∈ TB := tB3 166 (by rfl) (by rfl)
theorem tw_3_167 : (Jvm.Cond.static ({ cls := "java/lang/StringUTF16", name := "getChars", desc := "(II[B)I" } : Jvm.MethodName)) ∈ TB := tB3 167 (by rfl) (by rfl)
theorem tw_3_168 : (Jvm.Cond.code ({ cls := "java/lang/StringUTF16", name := "getChars", desc := "(II[B)I" } : Jvm.MethodName) prog_30_method_89_code (7 : Nat) (Option.some Jvm.ClassFile.FieldType.int)) ∈ TB := tB3 168 (by rfl) (by rfl)
theorem tw_3_169 : (Jvm.Cond.fieldLink "java/lang/StringUTF16" (403 : Nat) "java/lang/Integer" "DigitOnes" "[B") ∈ TB := tB3 169 (by rfl) (by rfl)
theorem tw_3_170 : (Jvm.Cond.fieldLink "java/lang/StringUTF16" (407 : Nat) "java/lang/Integer" "DigitTens" "[B") ∈ TB := tB3 170 (by rfl) (by rfl)
theorem tw_3_172 : (Jvm.Cond.methodLink "java/util/Arrays" (50 : Nat) ({ cls := "java/lang/StringBuilder", name := "append", desc := "(Ljava/lang/String;)Ljava/lang/StringBuilder;" } : Jvm.MethodName)) ∈ TB := tB3 172 (by rfl) (by rfl)
theorem tw_3_173 : (Jvm.Cond.methodLink "java/util/Arrays" (61 : Nat) ({ cls := "java/lang/StringBuilder", name := "toString", desc := "()Ljava/lang/String;" } : Jvm.MethodName)) ∈ TB := tB3 173 (by rfl) (by rfl)
theorem tw_3_174 : (Jvm.Cond.methodLink "java/util/Arrays" (65 : Nat) ({ cls := "java/lang/IllegalArgumentException", name := "<init>", desc := "(Ljava/lang/String;)V" } : Jvm.MethodName)) ∈ TB := tB3 174 (by rfl) (by rfl)
theorem tw_3_175 : (Jvm.Cond.instanceMethod ({ cls := "java/lang/IllegalArgumentException", name := "<init>", desc := "(Ljava/lang/String;)V" } : Jvm.MethodName)) ∈ TB := tB3 175 (by rfl) (by rfl)
theorem tw_3_176 : (Jvm.Cond.code ({ cls := "java/lang/IllegalArgumentException", name := "<init>", desc := "(Ljava/lang/String;)V" } : Jvm.MethodName) prog_19_method_2_code (2 : Nat) (Option.none : Option Jvm.ClassFile.FieldType)) ∈ TB := tB3 176 (by rfl) (by rfl)
theorem tw_3_177 : (Jvm.Cond.methodLink "java/lang/IllegalArgumentException" (7 : Nat) ({ cls := "java/lang/RuntimeException", name := "<init>", desc := "(Ljava/lang/String;)V" } : Jvm.MethodName)) ∈ TB := tB3 177 (by rfl) (by rfl)
theorem tw_3_178 : (Jvm.Cond.instanceMethod ({ cls := "java/lang/RuntimeException", name := "<init>", desc := "(Ljava/lang/String;)V" } : Jvm.MethodName)) ∈ TB := tB3 178 (by rfl) (by rfl)
theorem tw_3_179 : (Jvm.Cond.code ({ cls := "java/lang/RuntimeException", name := "<init>", desc := "(Ljava/lang/String;)V" } : Jvm.MethodName) prog_26_method_2_code (2 : Nat) (Option.none : Option Jvm.ClassFile.FieldType)) ∈ TB := tB3 179 (by rfl) (by rfl)
theorem tw_3_180 : (Jvm.Cond.methodLink "java/lang/RuntimeException" (7 : Nat) ({ cls := "java/lang/Exception", name := "<init>", desc := "(Ljava/lang/String;)V" } : Jvm.MethodName)) ∈ TB := tB3 180 (by rfl) (by rfl)
theorem tw_3_181 : (Jvm.Cond.instanceMethod ({ cls := "java/lang/Exception", name := "<init>", desc := "(Ljava/lang/String;)V" } : Jvm.MethodName)) ∈ TB := tB3 181 (by rfl) (by rfl)
theorem tw_3_182 : (Jvm.Cond.code ({ cls := "java/lang/Exception", name := "<init>", desc := "(Ljava/lang/String;)V" } : Jvm.MethodName) prog_18_method_2_code (2 : Nat) (Option.none : Option Jvm.ClassFile.FieldType)) ∈ TB := tB3 182 (by rfl) (by rfl)
theorem tw_3_183 : (Jvm.Cond.methodLink "java/lang/Exception" (7 : Nat) ({ cls := "java/lang/Throwable", name := "<init>", desc := "(Ljava/lang/String;)V" } : Jvm.MethodName)) ∈ TB := tB3 183 (by rfl) (by rfl)
theorem tw_3_184 : (Jvm.Cond.instanceMethod ({ cls := "java/lang/Throwable", name := "<init>", desc := "(Ljava/lang/String;)V" } : Jvm.MethodName)) ∈ TB := tB3 184 (by rfl) (by rfl)
theorem tw_3_185 : (Jvm.Cond.code ({ cls := "java/lang/Throwable", name := "<init>", desc := "(Ljava/lang/String;)V" } : Jvm.MethodName) prog_32_method_2_code (2 : Nat) (Option.none : Option Jvm.ClassFile.FieldType)) ∈ TB := tB3 185 (by rfl) (by rfl)
theorem tw_3_186 : (Jvm.Cond.fieldLink "java/lang/Throwable" (198 : Nat) "java/lang/Throwable" "backtrace" "Ljava/lang/Object;") ∈ TB := tB3 186 (by rfl) (by rfl)
theorem tw_3_187 : (Jvm.Cond.fieldLink "java/lang/Throwable" (31 : Nat) "java/lang/Throwable" "detailMessage" "Ljava/lang/String;") ∈ TB := tB3 187 (by rfl) (by rfl)
theorem tw_3_188 : (Jvm.Cond.fieldLink "java/lang/Throwable" (7 : Nat) "java/lang/Throwable" "cause" "Ljava/lang/Throwable;") ∈ TB := tB3 188 (by rfl) (by rfl)
theorem tw_3_189 : (Jvm.Cond.fieldLink "java/lang/Throwable" (17 : Nat) "java/lang/Throwable" "stackTrace" "[Ljava/lang/StackTraceElement;") ∈ TB := tB3 189 (by rfl) (by rfl)
theorem tw_3_190 : (Jvm.Cond.fieldLink "java/lang/Throwable" (24 : Nat) "java/lang/Throwable" "suppressedExceptions" "Ljava/util/List;") ∈ TB := tB3 190 (by rfl) (by rfl)
theorem tw_3_195 : (Jvm.Cond.lays "java/lang/IllegalArgumentException" "java/lang/Throwable" "depth" "I") ∈ TB := tB3 195 (by rfl) (by rfl)
theorem tw_3_198 : (Jvm.Cond.superclass "java/lang/IllegalArgumentException" "java/lang/RuntimeException") ∈ TB := tB3 198 (by rfl) (by rfl)
theorem tw_3_199 : (Jvm.Cond.methodLink "java/lang/String" (1051 : Nat) ({ cls := "java/lang/StringUTF16", name := "compress", desc := "([BII)[B" } : Jvm.MethodName)) ∈ TB := tB3 199 (by rfl) (by rfl)
theorem tw_3_200 : (Jvm.Cond.static ({ cls := "java/lang/StringUTF16", name := "compress", desc := "([BII)[B" } : Jvm.MethodName)) ∈ TB := tB3 200 (by rfl) (by rfl)
theorem tw_3_201 : (Jvm.Cond.code ({ cls := "java/lang/StringUTF16", name := "compress", desc := "([BII)[B" } : Jvm.MethodName) prog_30_method_17_code (6 : Nat) (Option.some (Jvm.ClassFile.FieldType.array Jvm.ClassFile.FieldType.byte))) ∈ TB := tB3 201 (by rfl) (by rfl)
theorem tw_3_202 : (Jvm.Cond.methodLink "java/lang/StringUTF16" (123 : Nat) ({ cls := "java/lang/StringUTF16", name := "compress", desc := "([BI[BII)I" } : Jvm.MethodName)) ∈ TB := tB3 202 (by rfl) (by rfl)
theorem tw_3_203 : (Jvm.Cond.static ({ cls := "java/lang/StringUTF16", name := "compress", desc := "([BI[BII)I" } : Jvm.MethodName)) ∈ TB := tB3 203 (by rfl) (by rfl)
theorem tw_3_204 : (Jvm.Cond.code ({ cls := "java/lang/StringUTF16", name := "compress", desc := "([BI[BII)I" } : Jvm.MethodName) prog_30_method_22_code (7 : Nat) (Option.some Jvm.ClassFile.FieldType.int)) ∈ TB := tB3 204 (by rfl) (by rfl)
theorem tw_3_205 : (Jvm.Cond.methodLink "java/lang/StringUTF16" (126 : Nat) ({ cls := "java/util/Arrays", name := "copyOfRange", desc := "([BII)[B" } : Jvm.MethodName)) ∈ TB := tB3 205 (by rfl) (by rfl)
theorem tw_3_206 : (Jvm.Cond.methodLink "java/lang/String" (47 : Nat) ({ cls := "java/lang/StringUTF16", name := "coderFromArrayLen", desc := "([BI)B" } : Jvm.MethodName)) ∈ TB := tB3 206 (by rfl) (by rfl)
theorem tw_3_207 : (Jvm.Cond.static ({ cls := "java/lang/StringUTF16", name := "coderFromArrayLen", desc := "([BI)B" } : Jvm.MethodName)) ∈ TB := tB3 207 (by rfl) (by rfl)
theorem tw_3_208 : (Jvm.Cond.code ({ cls := "java/lang/StringUTF16", name := "coderFromArrayLen", desc := "([BI)B" } : Jvm.MethodName) prog_30_method_15_code (2 : Nat) (Option.some Jvm.ClassFile.FieldType.byte)) ∈ TB := tB3 208 (by rfl) (by rfl)
theorem tw_3_209 : (Jvm.Cond.fieldLink "java/lang/String" (9 : Nat) "java/lang/String" "value" "[B") ∈ TB := tB3 209 (by rfl) (by rfl)
theorem tw_3_210 : (Jvm.Cond.fieldLink "java/lang/String" (15 : Nat) "java/lang/String" "coder" "B") ∈ TB := tB3 210 (by rfl) (by rfl)
theorem tw_3_211 : (Jvm.Cond.laysFinal "java/lang/String" "java/lang/String" "value" "[B") ∈ TB := tB3 211 (by rfl) (by rfl)
theorem tw_3_213 : (Jvm.Cond.laysFinal "java/lang/String" "java/lang/String" "coder" "B") ∈ TB := tB3 213 (by rfl) (by rfl)
theorem tw_3_215 : (Jvm.Cond.lays "java/lang/String" "java/lang/String" "hash" "I") ∈ TB := tB3 215 (by rfl) (by rfl)
theorem tw_3_217 : (Jvm.Cond.lays "java/lang/String" "java/lang/String" "hashIsZero" "Z") ∈ TB := tB3 217 (by rfl) (by rfl)
theorem tw_3_219 : (Jvm.Cond.superclass "java/lang/String" "java/lang/Object") ∈ TB := tB3 219 (by rfl) (by rfl)
theorem tw_3_220 : (Jvm.Cond.methodLink "RateGate" (83 : Nat) ({ cls := "java/lang/String", name := "isEmpty", desc := "()Z" } : Jvm.MethodName)) ∈ TB := tB3 220 (by rfl) (by rfl)
theorem tw_3_221 : (Jvm.Cond.methodLink "RateGateLaw" (108 : Nat) ({ cls := "RateGate", name := "faultLength", desc := "()I" } : Jvm.MethodName)) ∈ TB := tB3 221 (by rfl) (by rfl)
theorem tw_3_222 : (Jvm.Cond.instanceMethod ({ cls := "RateGate", name := "faultLength", desc := "()I" } : Jvm.MethodName)) ∈ TB := tB3 222 (by rfl) (by rfl)
theorem tw_3_223 : (Jvm.Cond.selects "RateGate" ({ cls := "RateGate", name := "faultLength", desc := "()I" } : Jvm.MethodName) ({ cls := "RateGate", name := "faultLength", desc := "()I" } : Jvm.MethodName)) ∈ TB := tB3 223 (by rfl) (by rfl)
theorem tw_3_224 : (Jvm.Cond.code ({ cls := "RateGate", name := "faultLength", desc := "()I" } : Jvm.MethodName) prog_1_method_5_code (1 : Nat) (Option.some Jvm.ClassFile.FieldType.int)) ∈ TB := tB3 224 (by rfl) (by rfl)
theorem tw_3_225 : (Jvm.Cond.methodLink "RateGate" (88 : Nat) ({ cls := "java/lang/String", name := "length", desc := "()I" } : Jvm.MethodName)) ∈ TB := tB3 225 (by rfl) (by rfl)
theorem tw_3_226 : (Jvm.Cond.methodLink "RateGateLaw" (153 : Nat) ({ cls := "RateGate", name := "calls", desc := "()I" } : Jvm.MethodName)) ∈ TB := tB3 226 (by rfl) (by rfl)
theorem tw_3_227 : (Jvm.Cond.instanceMethod ({ cls := "RateGate", name := "calls", desc := "()I" } : Jvm.MethodName)) ∈ TB := tB3 227 (by rfl) (by rfl)
theorem tw_3_228 : (Jvm.Cond.selects "RateGate" ({ cls := "RateGate", name := "calls", desc := "()I" } : Jvm.MethodName) ({ cls := "RateGate", name := "calls", desc := "()I" } : Jvm.MethodName)) ∈ TB := tB3 228 (by rfl) (by rfl)
theorem tw_3_229 : (Jvm.Cond.code ({ cls := "RateGate", name := "calls", desc := "()I" } : Jvm.MethodName) prog_1_method_18_code (1 : Nat) (Option.some Jvm.ClassFile.FieldType.int)) ∈ TB := tB3 229 (by rfl) (by rfl)
theorem tw_3_230 : (Jvm.Cond.methodLink "RateGateLaw" (90 : Nat) ({ cls := "RateGateLaw", name := "type", desc := "(LRateGate;C[J)I" } : Jvm.MethodName)) ∈ TB := tB3 230 (by rfl) (by rfl)
theorem tw_3_231 : (Jvm.Cond.static ({ cls := "RateGateLaw", name := "type", desc := "(LRateGate;C[J)I" } : Jvm.MethodName)) ∈ TB := tB3 231 (by rfl) (by rfl)
theorem tw_3_233 : (Jvm.Cond.classLink "RateGateLaw" (13 : Nat) "java/lang/IllegalArgumentException") ∈ TB := tB3 233 (by rfl) (by rfl)
theorem tw_3_234 : (Jvm.Cond.classLink "RateGateLaw" (15 : Nat) "java/lang/IllegalStateException") ∈ TB := tB3 234 (by rfl) (by rfl)
theorem tw_3_235 : (Jvm.Cond.methodLink "RateGateLaw" (7 : Nat) ({ cls := "RateGate", name := "type", desc := "(C)I" } : Jvm.MethodName)) ∈ TB := tB3 235 (by rfl) (by rfl)
theorem tw_3_236 : (Jvm.Cond.instanceMethod ({ cls := "RateGate", name := "type", desc := "(C)I" } : Jvm.MethodName)) ∈ TB := tB3 236 (by rfl) (by rfl)
theorem tw_3_237 : (Jvm.Cond.selects "RateGate" ({ cls := "RateGate", name := "type", desc := "(C)I" } : Jvm.MethodName) ({ cls := "RateGate", name := "type", desc := "(C)I" } : Jvm.MethodName)) ∈ TB := tB3 237 (by rfl) (by rfl)
theorem tw_3_238 : (Jvm.Cond.code ({ cls := "RateGate", name := "type", desc := "(C)I" } : Jvm.MethodName) prog_1_method_2_code (2 : Nat) (Option.some Jvm.ClassFile.FieldType.int)) ∈ TB := tB3 238 (by rfl) (by rfl)
theorem tw_3_239 : (Jvm.Cond.methodLink "RateGate" (51 : Nat) ({ cls := "RateGate$Request", name := "isTypable", desc := "(C)Z" } : Jvm.MethodName)) ∈ TB := tB3 239 (by rfl) (by rfl)
theorem tw_4_0 : (Jvm.Cond.static ({ cls := "RateGate$Request", name := "isTypable", desc := "(C)Z" } : Jvm.MethodName)) ∈ TB := tB4 0 (by rfl) (by rfl)
theorem tw_4_1 : (Jvm.Cond.code ({ cls := "RateGate$Request", name := "isTypable", desc := "(C)Z" } : Jvm.MethodName) prog_6_method_2_code (1 : Nat) (Option.some Jvm.ClassFile.FieldType.boolean)) ∈ TB := tB4 1 (by rfl) (by rfl)
theorem tw_4_2 : (Jvm.Cond.classLink "RateGate" (55 : Nat) "java/lang/IllegalArgumentException") ∈ TB := tB4 2 (by rfl) (by rfl)
theorem tw_4_4 : (Jvm.Cond.methodLink "RateGate" (59 : Nat) ({ cls := "java/lang/IllegalArgumentException", name := "<init>", desc := "(Ljava/lang/String;)V" } : Jvm.MethodName)) ∈ TB := tB4 4 (by rfl) (by rfl)
theorem tw_4_5 : (Jvm.Cond.methodLink "RateGate" (62 : Nat) ({ cls := "RateGate$Request", name := "isFull", desc := "()Z" } : Jvm.MethodName)) ∈ TB := tB4 5 (by rfl) (by rfl)
theorem tw_4_6 : (Jvm.Cond.instanceMethod ({ cls := "RateGate$Request", name := "isFull", desc := "()Z" } : Jvm.MethodName)) ∈ TB := tB4 6 (by rfl) (by rfl)
theorem tw_4_7 : (Jvm.Cond.selects "RateGate$Request" ({ cls := "RateGate$Request", name := "isFull", desc := "()Z" } : Jvm.MethodName) ({ cls := "RateGate$Request", name := "isFull", desc := "()Z" } : Jvm.MethodName)) ∈ TB := tB4 7 (by rfl) (by rfl)
theorem tw_4_8 : (Jvm.Cond.code ({ cls := "RateGate$Request", name := "isFull", desc := "()Z" } : Jvm.MethodName) prog_6_method_3_code (1 : Nat) (Option.some Jvm.ClassFile.FieldType.boolean)) ∈ TB := tB4 8 (by rfl) (by rfl)
theorem tw_4_9 : (Jvm.Cond.classLink "RateGate" (66 : Nat) "java/lang/IllegalStateException") ∈ TB := tB4 9 (by rfl) (by rfl)
theorem tw_4_10 : (Jvm.Cond.instantiable "java/lang/IllegalStateException" (6 : Nat)) ∈ TB := tB4 10 (by rfl) (by rfl)
theorem tw_4_12 : (Jvm.Cond.selects "java/lang/IllegalStateException" ({ cls := "java/lang/Throwable", name := "fillInStackTrace", desc := "(I)Ljava/lang/Throwable;" } : Jvm.MethodName) ({ cls := "java/lang/Throwable", name := "fillInStackTrace", desc := "(I)Ljava/lang/Throwable;" } : Jvm.MethodName)) ∈ TB := tB4 12 (by rfl) (by rfl)
theorem tw_4_13 : (Jvm.Cond.lays "java/lang/IllegalStateException" "java/lang/Throwable" "cause" "Ljava/lang/Throwable;") ∈ TB := tB4 13 (by rfl) (by rfl)
theorem tw_4_14 : (Jvm.Cond.lays "java/lang/IllegalStateException" "java/lang/Throwable" "stackTrace" "[Ljava/lang/StackTraceElement;") ∈ TB := tB4 14 (by rfl) (by rfl)
theorem tw_4_15 : (Jvm.Cond.lays "java/lang/IllegalStateException" "java/lang/Throwable" "suppressedExceptions" "Ljava/util/List;") ∈ TB := tB4 15 (by rfl) (by rfl)
theorem tw_4_16 : (Jvm.Cond.lays "java/lang/IllegalStateException" "java/lang/Throwable" "detailMessage" "Ljava/lang/String;") ∈ TB := tB4 16 (by rfl) (by rfl)
theorem tw_4_17 : (Jvm.Cond.lays "java/lang/IllegalStateException" "java/lang/Throwable" "backtrace" "Ljava/lang/Object;") ∈ TB := tB4 17 (by rfl) (by rfl)
theorem tw_4_19 : (Jvm.Cond.methodLink "RateGate" (70 : Nat) ({ cls := "java/lang/IllegalStateException", name := "<init>", desc := "(Ljava/lang/String;)V" } : Jvm.MethodName)) ∈ TB := tB4 19 (by rfl) (by rfl)
theorem tw_4_20 : (Jvm.Cond.instanceMethod ({ cls := "java/lang/IllegalStateException", name := "<init>", desc := "(Ljava/lang/String;)V" } : Jvm.MethodName)) ∈ TB := tB4 20 (by rfl) (by rfl)
theorem tw_4_21 : (Jvm.Cond.code ({ cls := "java/lang/IllegalStateException", name := "<init>", desc := "(Ljava/lang/String;)V" } : Jvm.MethodName) prog_20_method_2_code (2 : Nat) (Option.none : Option Jvm.ClassFile.FieldType)) ∈ TB := tB4 21 (by rfl) (by rfl)
theorem tw_4_22 : (Jvm.Cond.methodLink "java/lang/IllegalStateException" (7 : Nat) ({ cls := "java/lang/RuntimeException", name := "<init>", desc := "(Ljava/lang/String;)V" } : Jvm.MethodName)) ∈ TB := tB4 22 (by rfl) (by rfl)
theorem tw_4_23 : (Jvm.Cond.lays "java/lang/IllegalStateException" "java/lang/Throwable" "depth" "I") ∈ TB := tB4 23 (by rfl) (by rfl)
theorem tw_4_24 : (Jvm.Cond.superclass "java/lang/IllegalStateException" "java/lang/RuntimeException") ∈ TB := tB4 24 (by rfl) (by rfl)
theorem tw_4_25 : (Jvm.Cond.methodLink "RateGate" (71 : Nat) ({ cls := "RateGate$Request", name := "append", desc := "(C)I" } : Jvm.MethodName)) ∈ TB := tB4 25 (by rfl) (by rfl)
theorem tw_4_26 : (Jvm.Cond.instanceMethod ({ cls := "RateGate$Request", name := "append", desc := "(C)I" } : Jvm.MethodName)) ∈ TB := tB4 26 (by rfl) (by rfl)
theorem tw_4_27 : (Jvm.Cond.selects "RateGate$Request" ({ cls := "RateGate$Request", name := "append", desc := "(C)I" } : Jvm.MethodName) ({ cls := "RateGate$Request", name := "append", desc := "(C)I" } : Jvm.MethodName)) ∈ TB := tB4 27 (by rfl) (by rfl)
theorem tw_4_28 : (Jvm.Cond.code ({ cls := "RateGate$Request", name := "append", desc := "(C)I" } : Jvm.MethodName) prog_6_method_4_code (2 : Nat) (Option.some Jvm.ClassFile.FieldType.int)) ∈ TB := tB4 28 (by rfl) (by rfl)
theorem tw_4_29 : (Jvm.Cond.methodLink "RateGateLaw" (112 : Nat) ({ cls := "RateGateLaw", name := "fault", desc := "(LRateGate;I[J)I" } : Jvm.MethodName)) ∈ TB := tB4 29 (by rfl) (by rfl)
theorem tw_4_30 : (Jvm.Cond.static ({ cls := "RateGateLaw", name := "fault", desc := "(LRateGate;I[J)I" } : Jvm.MethodName)) ∈ TB := tB4 30 (by rfl) (by rfl)
theorem tw_4_32 : (Jvm.Cond.classLink "RateGateLaw" (21 : Nat) "java/lang/IndexOutOfBoundsException") ∈ TB := tB4 32 (by rfl) (by rfl)
theorem tw_4_33 : (Jvm.Cond.methodLink "RateGateLaw" (17 : Nat) ({ cls := "RateGate", name := "fault", desc := "(I)C" } : Jvm.MethodName)) ∈ TB := tB4 33 (by rfl) (by rfl)
theorem tw_4_34 : (Jvm.Cond.instanceMethod ({ cls := "RateGate", name := "fault", desc := "(I)C" } : Jvm.MethodName)) ∈ TB := tB4 34 (by rfl) (by rfl)
theorem tw_4_35 : (Jvm.Cond.selects "RateGate" ({ cls := "RateGate", name := "fault", desc := "(I)C" } : Jvm.MethodName) ({ cls := "RateGate", name := "fault", desc := "(I)C" } : Jvm.MethodName)) ∈ TB := tB4 35 (by rfl) (by rfl)
theorem tw_4_36 : (Jvm.Cond.code ({ cls := "RateGate", name := "fault", desc := "(I)C" } : Jvm.MethodName) prog_1_method_6_code (3 : Nat) (Option.some Jvm.ClassFile.FieldType.char)) ∈ TB := tB4 36 (by rfl) (by rfl)
theorem tw_4_37 : (Jvm.Cond.classLink "RateGate" (91 : Nat) "java/lang/IndexOutOfBoundsException") ∈ TB := tB4 37 (by rfl) (by rfl)
theorem tw_4_38 : (Jvm.Cond.instantiable "java/lang/IndexOutOfBoundsException" (6 : Nat)) ∈ TB := tB4 38 (by rfl) (by rfl)
theorem tw_4_40 : (Jvm.Cond.selects "java/lang/IndexOutOfBoundsException" ({ cls := "java/lang/Throwable", name := "fillInStackTrace", desc := "(I)Ljava/lang/Throwable;" } : Jvm.MethodName) ({ cls := "java/lang/Throwable", name := "fillInStackTrace", desc := "(I)Ljava/lang/Throwable;" } : Jvm.MethodName)) ∈ TB := tB4 40 (by rfl) (by rfl)
theorem tw_4_41 : (Jvm.Cond.lays "java/lang/IndexOutOfBoundsException" "java/lang/Throwable" "cause" "Ljava/lang/Throwable;") ∈ TB := tB4 41 (by rfl) (by rfl)
theorem tw_4_42 : (Jvm.Cond.lays "java/lang/IndexOutOfBoundsException" "java/lang/Throwable" "stackTrace" "[Ljava/lang/StackTraceElement;") ∈ TB := tB4 42 (by rfl) (by rfl)
theorem tw_4_43 : (Jvm.Cond.lays "java/lang/IndexOutOfBoundsException" "java/lang/Throwable" "suppressedExceptions" "Ljava/util/List;") ∈ TB := tB4 43 (by rfl) (by rfl)
theorem tw_4_44 : (Jvm.Cond.lays "java/lang/IndexOutOfBoundsException" "java/lang/Throwable" "detailMessage" "Ljava/lang/String;") ∈ TB := tB4 44 (by rfl) (by rfl)
theorem tw_4_45 : (Jvm.Cond.lays "java/lang/IndexOutOfBoundsException" "java/lang/Throwable" "backtrace" "Ljava/lang/Object;") ∈ TB := tB4 45 (by rfl) (by rfl)
theorem tw_4_47 : (Jvm.Cond.methodLink "RateGate" (95 : Nat) ({ cls := "java/lang/IndexOutOfBoundsException", name := "<init>", desc := "(Ljava/lang/String;)V" } : Jvm.MethodName)) ∈ TB := tB4 47 (by rfl) (by rfl)
theorem tw_4_48 : (Jvm.Cond.instanceMethod ({ cls := "java/lang/IndexOutOfBoundsException", name := "<init>", desc := "(Ljava/lang/String;)V" } : Jvm.MethodName)) ∈ TB := tB4 48 (by rfl) (by rfl)
theorem tw_4_49 : (Jvm.Cond.code ({ cls := "java/lang/IndexOutOfBoundsException", name := "<init>", desc := "(Ljava/lang/String;)V" } : Jvm.MethodName) prog_21_method_2_code (2 : Nat) (Option.none : Option Jvm.ClassFile.FieldType)) ∈ TB := tB4 49 (by rfl) (by rfl)
theorem tw_4_50 : (Jvm.Cond.methodLink "java/lang/IndexOutOfBoundsException" (7 : Nat) ({ cls := "java/lang/RuntimeException", name := "<init>", desc := "(Ljava/lang/String;)V" } : Jvm.MethodName)) ∈ TB := tB4 50 (by rfl) (by rfl)
theorem tw_4_51 : (Jvm.Cond.lays "java/lang/IndexOutOfBoundsException" "java/lang/Throwable" "depth" "I") ∈ TB := tB4 51 (by rfl) (by rfl)
theorem tw_4_52 : (Jvm.Cond.superclass "java/lang/IndexOutOfBoundsException" "java/lang/RuntimeException") ∈ TB := tB4 52 (by rfl) (by rfl)
theorem tw_4_53 : (Jvm.Cond.methodLink "RateGate" (96 : Nat) ({ cls := "java/lang/String", name := "charAt", desc := "(I)C" } : Jvm.MethodName)) ∈ TB := tB4 53 (by rfl) (by rfl)
theorem tw_4_54 : (Jvm.Cond.methodLink "RateGateLaw" (116 : Nat) ({ cls := "RateGateLaw", name := "pass", desc := "(LRateGate;I[J)I" } : Jvm.MethodName)) ∈ TB := tB4 54 (by rfl) (by rfl)
theorem tw_4_55 : (Jvm.Cond.static ({ cls := "RateGateLaw", name := "pass", desc := "(LRateGate;I[J)I" } : Jvm.MethodName)) ∈ TB := tB4 55 (by rfl) (by rfl)
theorem tw_4_57 : (Jvm.Cond.methodLink "RateGateLaw" (23 : Nat) ({ cls := "RateGate", name := "pass", desc := "(I)I" } : Jvm.MethodName)) ∈ TB := tB4 57 (by rfl) (by rfl)
theorem tw_4_58 : (Jvm.Cond.instanceMethod ({ cls := "RateGate", name := "pass", desc := "(I)I" } : Jvm.MethodName)) ∈ TB := tB4 58 (by rfl) (by rfl)
theorem tw_4_59 : (Jvm.Cond.selects "RateGate" ({ cls := "RateGate", name := "pass", desc := "(I)I" } : Jvm.MethodName) ({ cls := "RateGate", name := "pass", desc := "(I)I" } : Jvm.MethodName)) ∈ TB := tB4 59 (by rfl) (by rfl)
theorem tw_4_60 : (Jvm.Cond.code ({ cls := "RateGate", name := "pass", desc := "(I)I" } : Jvm.MethodName) prog_1_method_7_code (2 : Nat) (Option.some Jvm.ClassFile.FieldType.int)) ∈ TB := tB4 60 (by rfl) (by rfl)
theorem tw_4_61 : (Jvm.Cond.methodLink "RateGate" (100 : Nat) ({ cls := "RateGate", name := "isWithin", desc := "(III)Z" } : Jvm.MethodName)) ∈ TB := tB4 61 (by rfl) (by rfl)
theorem tw_4_64 : (Jvm.Cond.methodLink "RateGateLaw" (119 : Nat) ({ cls := "RateGateLaw", name := "quota", desc := "(LRateGate;III[J)I" } : Jvm.MethodName)) ∈ TB := tB4 64 (by rfl) (by rfl)
theorem tw_4_65 : (Jvm.Cond.static ({ cls := "RateGateLaw", name := "quota", desc := "(LRateGate;III[J)I" } : Jvm.MethodName)) ∈ TB := tB4 65 (by rfl) (by rfl)
theorem tw_4_67 : (Jvm.Cond.methodLink "RateGateLaw" (27 : Nat) ({ cls := "RateGate", name := "quota", desc := "(III)I" } : Jvm.MethodName)) ∈ TB := tB4 67 (by rfl) (by rfl)
theorem tw_4_68 : (Jvm.Cond.instanceMethod ({ cls := "RateGate", name := "quota", desc := "(III)I" } : Jvm.MethodName)) ∈ TB := tB4 68 (by rfl) (by rfl)
theorem tw_4_69 : (Jvm.Cond.selects "RateGate" ({ cls := "RateGate", name := "quota", desc := "(III)I" } : Jvm.MethodName) ({ cls := "RateGate", name := "quota", desc := "(III)I" } : Jvm.MethodName)) ∈ TB := tB4 69 (by rfl) (by rfl)
theorem tw_4_70 : (Jvm.Cond.code ({ cls := "RateGate", name := "quota", desc := "(III)I" } : Jvm.MethodName) prog_1_method_8_code (6 : Nat) (Option.some Jvm.ClassFile.FieldType.int)) ∈ TB := tB4 70 (by rfl) (by rfl)
theorem tw_4_71 : (Jvm.Cond.methodLink "RateGate" (108 : Nat) ({ cls := "RateGate", name := "shipperAt", desc := "(I)LRateGate$Shipper;" } : Jvm.MethodName)) ∈ TB := tB4 71 (by rfl) (by rfl)
theorem tw_4_73 : (Jvm.Cond.instanceMethod ({ cls := "RateGate", name := "shipperAt", desc := "(I)LRateGate$Shipper;" } : Jvm.MethodName)) ∈ TB := tB4 73 (by rfl) (by rfl)
theorem tw_4_74 : (Jvm.Cond.code ({ cls := "RateGate", name := "shipperAt", desc := "(I)LRateGate$Shipper;" } : Jvm.MethodName) prog_1_method_28_code (2 : Nat) (Option.some (Jvm.ClassFile.FieldType.object "RateGate$Shipper"))) ∈ TB := tB4 74 (by rfl) (by rfl)
theorem tw_4_77 : (Jvm.Cond.methodLink "RateGateLaw" (123 : Nat) ({ cls := "RateGateLaw", name := "carrier", desc := "(LRateGate;IZI[J)I" } : Jvm.MethodName)) ∈ TB := tB4 77 (by rfl) (by rfl)
theorem tw_4_78 : (Jvm.Cond.static ({ cls := "RateGateLaw", name := "carrier", desc := "(LRateGate;IZI[J)I" } : Jvm.MethodName)) ∈ TB := tB4 78 (by rfl) (by rfl)
theorem tw_4_80 : (Jvm.Cond.methodLink "RateGateLaw" (31 : Nat) ({ cls := "RateGate", name := "carrier", desc := "(IZI)I" } : Jvm.MethodName)) ∈ TB := tB4 80 (by rfl) (by rfl)
theorem tw_4_81 : (Jvm.Cond.instanceMethod ({ cls := "RateGate", name := "carrier", desc := "(IZI)I" } : Jvm.MethodName)) ∈ TB := tB4 81 (by rfl) (by rfl)
theorem tw_4_82 : (Jvm.Cond.selects "RateGate" ({ cls := "RateGate", name := "carrier", desc := "(IZI)I" } : Jvm.MethodName) ({ cls := "RateGate", name := "carrier", desc := "(IZI)I" } : Jvm.MethodName)) ∈ TB := tB4 82 (by rfl) (by rfl)
theorem tw_4_83 : (Jvm.Cond.code ({ cls := "RateGate", name := "carrier", desc := "(IZI)I" } : Jvm.MethodName) prog_1_method_9_code (6 : Nat) (Option.some Jvm.ClassFile.FieldType.int)) ∈ TB := tB4 83 (by rfl) (by rfl)
theorem tw_4_84 : (Jvm.Cond.methodLink "RateGate" (120 : Nat) ({ cls := "RateGate", name := "carrierAt", desc := "(I)LRateGate$Carrier;" } : Jvm.MethodName)) ∈ TB := tB4 84 (by rfl) (by rfl)
theorem tw_4_86 : (Jvm.Cond.instanceMethod ({ cls := "RateGate", name := "carrierAt", desc := "(I)LRateGate$Carrier;" } : Jvm.MethodName)) ∈ TB := tB4 86 (by rfl) (by rfl)
theorem tw_4_87 : (Jvm.Cond.code ({ cls := "RateGate", name := "carrierAt", desc := "(I)LRateGate$Carrier;" } : Jvm.MethodName) prog_1_method_29_code (2 : Nat) (Option.some (Jvm.ClassFile.FieldType.object "RateGate$Carrier"))) ∈ TB := tB4 87 (by rfl) (by rfl)
theorem tw_4_90 : (Jvm.Cond.methodLink "RateGateLaw" (127 : Nat) ({ cls := "RateGateLaw", name := "tariff", desc := "(LRateGate;IIII[J)I" } : Jvm.MethodName)) ∈ TB := tB4 90 (by rfl) (by rfl)
theorem tw_4_91 : (Jvm.Cond.static ({ cls := "RateGateLaw", name := "tariff", desc := "(LRateGate;IIII[J)I" } : Jvm.MethodName)) ∈ TB := tB4 91 (by rfl) (by rfl)
theorem tw_4_93 : (Jvm.Cond.methodLink "RateGateLaw" (35 : Nat) ({ cls := "RateGate", name := "tariff", desc := "(IIII)I" } : Jvm.MethodName)) ∈ TB := tB4 93 (by rfl) (by rfl)
theorem tw_4_94 : (Jvm.Cond.instanceMethod ({ cls := "RateGate", name := "tariff", desc := "(IIII)I" } : Jvm.MethodName)) ∈ TB := tB4 94 (by rfl) (by rfl)
theorem tw_4_95 : (Jvm.Cond.selects "RateGate" ({ cls := "RateGate", name := "tariff", desc := "(IIII)I" } : Jvm.MethodName) ({ cls := "RateGate", name := "tariff", desc := "(IIII)I" } : Jvm.MethodName)) ∈ TB := tB4 95 (by rfl) (by rfl)
theorem tw_4_96 : (Jvm.Cond.code ({ cls := "RateGate", name := "tariff", desc := "(IIII)I" } : Jvm.MethodName) prog_1_method_10_code (7 : Nat) (Option.some Jvm.ClassFile.FieldType.int)) ∈ TB := tB4 96 (by rfl) (by rfl)
theorem tw_4_98 : (Jvm.Cond.classLink "RateGate" (140 : Nat) "RateGate$Tariff") ∈ TB := tB4 98 (by rfl) (by rfl)
theorem tw_4_99 : (Jvm.Cond.methodLink "RateGate" (144 : Nat) ({ cls := "RateGate$Tariff", name := "<init>", desc := "(III)V" } : Jvm.MethodName)) ∈ TB := tB4 99 (by rfl) (by rfl)
theorem tw_4_100 : (Jvm.Cond.methodLink "RateGateLaw" (131 : Nat) ({ cls := "RateGateLaw", name := "call", desc := "(LRateGate;[J)I" } : Jvm.MethodName)) ∈ TB := tB4 100 (by rfl) (by rfl)
theorem tw_4_101 : (Jvm.Cond.static ({ cls := "RateGateLaw", name := "call", desc := "(LRateGate;[J)I" } : Jvm.MethodName)) ∈ TB := tB4 101 (by rfl) (by rfl)
theorem tw_4_103 : (Jvm.Cond.methodLink "RateGateLaw" (39 : Nat) ({ cls := "RateGate", name := "call", desc := "()I" } : Jvm.MethodName)) ∈ TB := tB4 103 (by rfl) (by rfl)
theorem tw_4_104 : (Jvm.Cond.instanceMethod ({ cls := "RateGate", name := "call", desc := "()I" } : Jvm.MethodName)) ∈ TB := tB4 104 (by rfl) (by rfl)
theorem tw_4_105 : (Jvm.Cond.selects "RateGate" ({ cls := "RateGate", name := "call", desc := "()I" } : Jvm.MethodName) ({ cls := "RateGate", name := "call", desc := "()I" } : Jvm.MethodName)) ∈ TB := tB4 105 (by rfl) (by rfl)
theorem tw_4_106 : (Jvm.Cond.code ({ cls := "RateGate", name := "call", desc := "()I" } : Jvm.MethodName) prog_1_method_11_code (3 : Nat) (Option.some Jvm.ClassFile.FieldType.int)) ∈ TB := tB4 106 (by rfl) (by rfl)
theorem tw_4_109 : (Jvm.Cond.methodLink "RateGate" (149 : Nat) ({ cls := "java/util/List", name := "size", desc := "()I" } : Jvm.MethodName)) ∈ TB := tB4 109 (by rfl) (by rfl)
theorem tw_4_113 : (Jvm.Cond.selects "java/util/ArrayList" ({ cls := "java/util/List", name := "size", desc := "()I" } : Jvm.MethodName) ({ cls := "java/util/ArrayList", name := "size", desc := "()I" } : Jvm.MethodName)) ∈ TB := tB4 113 (by rfl) (by rfl)
theorem tw_4_115 : (Jvm.Cond.instanceMethod ({ cls := "java/util/ArrayList", name := "size", desc := "()I" } : Jvm.MethodName)) ∈ TB := tB4 115 (by rfl) (by rfl)
theorem tw_4_117 : (Jvm.Cond.code ({ cls := "java/util/ArrayList", name := "size", desc := "()I" } : Jvm.MethodName) prog_37_method_8_code (1 : Nat) (Option.some Jvm.ClassFile.FieldType.int)) ∈ TB := tB4 117 (by rfl) (by rfl)
theorem tw_4_119 : (Jvm.Cond.methodLink "RateGate" (156 : Nat) ({ cls := "RateGate$Request", name := "valueOf", desc := "(I)I" } : Jvm.MethodName)) ∈ TB := tB4 119 (by rfl) (by rfl)
theorem tw_4_120 : (Jvm.Cond.methodLink "RateGate" (160 : Nat) ({ cls := "RateGate", name := "answerTo", desc := "(LRateGate$Shipper;LRateGate$Carrier;)I" } : Jvm.MethodName)) ∈ TB := tB4 120 (by rfl) (by rfl)
theorem tw_4_122 : (Jvm.Cond.instanceMethod ({ cls := "RateGate", name := "answerTo", desc := "(LRateGate$Shipper;LRateGate$Carrier;)I" } : Jvm.MethodName)) ∈ TB := tB4 122 (by rfl) (by rfl)
theorem tw_4_123 : (Jvm.Cond.code ({ cls := "RateGate", name := "answerTo", desc := "(LRateGate$Shipper;LRateGate$Carrier;)I" } : Jvm.MethodName) prog_1_method_32_code (4 : Nat) (Option.some Jvm.ClassFile.FieldType.int)) ∈ TB := tB4 123 (by rfl) (by rfl)
theorem tw_4_124 : (Jvm.Cond.methodLink "RateGate" (191 : Nat) ({ cls := "RateGate$Shipper", name := "callsLeft", desc := "(I)I" } : Jvm.MethodName)) ∈ TB := tB4 124 (by rfl) (by rfl)
theorem tw_4_125 : (Jvm.Cond.instanceMethod ({ cls := "RateGate$Shipper", name := "callsLeft", desc := "(I)I" } : Jvm.MethodName)) ∈ TB := tB4 125 (by rfl) (by rfl)
theorem tw_4_126 : (Jvm.Cond.selects "RateGate$Shipper" ({ cls := "RateGate$Shipper", name := "callsLeft", desc := "(I)I" } : Jvm.MethodName) ({ cls := "RateGate$Shipper", name := "callsLeft", desc := "(I)I" } : Jvm.MethodName)) ∈ TB := tB4 126 (by rfl) (by rfl)
theorem tw_4_127 : (Jvm.Cond.code ({ cls := "RateGate$Shipper", name := "callsLeft", desc := "(I)I" } : Jvm.MethodName) prog_7_method_2_code (4 : Nat) (Option.some Jvm.ClassFile.FieldType.int)) ∈ TB := tB4 127 (by rfl) (by rfl)
theorem tw_4_128 : (Jvm.Cond.methodLink "RateGate$Shipper" (34 : Nat) ({ cls := "java/lang/Math", name := "max", desc := "(II)I" } : Jvm.MethodName)) ∈ TB := tB4 128 (by rfl) (by rfl)
theorem tw_4_129 : (Jvm.Cond.methodLink "RateGate" (273 : Nat) ({ cls := "RateGate$Shipper", name := "keepCall", desc := "(I)V" } : Jvm.MethodName)) ∈ TB := tB4 129 (by rfl) (by rfl)
theorem tw_4_130 : (Jvm.Cond.instanceMethod ({ cls := "RateGate$Shipper", name := "keepCall", desc := "(I)V" } : Jvm.MethodName)) ∈ TB := tB4 130 (by rfl) (by rfl)
theorem tw_4_131 : (Jvm.Cond.selects "RateGate$Shipper" ({ cls := "RateGate$Shipper", name := "keepCall", desc := "(I)V" } : Jvm.MethodName) ({ cls := "RateGate$Shipper", name := "keepCall", desc := "(I)V" } : Jvm.MethodName)) ∈ TB := tB4 131 (by rfl) (by rfl)
theorem tw_4_132 : (Jvm.Cond.code ({ cls := "RateGate$Shipper", name := "keepCall", desc := "(I)V" } : Jvm.MethodName) prog_7_method_3_code (2 : Nat) (Option.none : Option Jvm.ClassFile.FieldType)) ∈ TB := tB4 132 (by rfl) (by rfl)
theorem tw_4_133 : (Jvm.Cond.methodLink "RateGate" (276 : Nat) ({ cls := "RateGate", name := "quoteFixingRequest", desc := "()LRateGate$Quote;" } : Jvm.MethodName)) ∈ TB := tB4 133 (by rfl) (by rfl)
theorem tw_4_135 : (Jvm.Cond.instanceMethod ({ cls := "RateGate", name := "quoteFixingRequest", desc := "()LRateGate$Quote;" } : Jvm.MethodName)) ∈ TB := tB4 135 (by rfl) (by rfl)
theorem tw_4_136 : (Jvm.Cond.code ({ cls := "RateGate", name := "quoteFixingRequest", desc := "()LRateGate$Quote;" } : Jvm.MethodName) prog_1_method_33_code (3 : Nat) (Option.some (Jvm.ClassFile.FieldType.object "RateGate$Quote"))) ∈ TB := tB4 136 (by rfl) (by rfl)
theorem tw_4_138 : (Jvm.Cond.methodLink "RateGate" (267 : Nat) ({ cls := "java/util/List", name := "get", desc := "(I)Ljava/lang/Object;" } : Jvm.MethodName)) ∈ TB := tB4 138 (by rfl) (by rfl)
theorem tw_4_141 : (Jvm.Cond.selects "java/util/ArrayList" ({ cls := "java/util/List", name := "get", desc := "(I)Ljava/lang/Object;" } : Jvm.MethodName) ({ cls := "java/util/ArrayList", name := "get", desc := "(I)Ljava/lang/Object;" } : Jvm.MethodName)) ∈ TB := tB4 141 (by rfl) (by rfl)
theorem tw_4_143 : (Jvm.Cond.instanceMethod ({ cls := "java/util/ArrayList", name := "get", desc := "(I)Ljava/lang/Object;" } : Jvm.MethodName)) ∈ TB := tB4 143 (by rfl) (by rfl)
theorem tw_4_145 : (Jvm.Cond.code ({ cls := "java/util/ArrayList", name := "get", desc := "(I)Ljava/lang/Object;" } : Jvm.MethodName) prog_37_method_20_code (2 : Nat) (Option.some (Jvm.ClassFile.FieldType.object "java/lang/Object"))) ∈ TB := tB4 145 (by rfl) (by rfl)
theorem tw_4_146 : (Jvm.Cond.methodLink "java/util/ArrayList" (118 : Nat) ({ cls := "java/util/Objects", name := "checkIndex", desc := "(II)I" } : Jvm.MethodName)) ∈ TB := tB4 146 (by rfl) (by rfl)
theorem tw_4_147 : (Jvm.Cond.static ({ cls := "java/util/Objects", name := "checkIndex", desc := "(II)I" } : Jvm.MethodName)) ∈ TB := tB4 147 (by rfl) (by rfl)
theorem tw_4_148 : (Jvm.Cond.code ({ cls := "java/util/Objects", name := "checkIndex", desc := "(II)I" } : Jvm.MethodName) prog_41_method_17_code (2 : Nat) (Option.some Jvm.ClassFile.FieldType.int)) ∈ TB := tB4 148 (by rfl) (by rfl)
theorem tw_4_149 : (Jvm.Cond.methodLink "java/util/Objects" (105 : Nat) ({ cls := "jdk/internal/util/Preconditions", name := "checkIndex", desc := "(IILjava/util/function/BiFunction;)I" } : Jvm.MethodName)) ∈ TB := tB4 149 (by rfl) (by rfl)
theorem tw_4_150 : (Jvm.Cond.methodLink "java/util/ArrayList" (123 : Nat) ({ cls := "java/util/ArrayList", name := "elementData", desc := "(I)Ljava/lang/Object;" } : Jvm.MethodName)) ∈ TB := tB4 150 (by rfl) (by rfl)
theorem tw_4_151 : (Jvm.Cond.instanceMethod ({ cls := "java/util/ArrayList", name := "elementData", desc := "(I)Ljava/lang/Object;" } : Jvm.MethodName)) ∈ TB := tB4 151 (by rfl) (by rfl)
theorem tw_4_152 : (Jvm.Cond.selects "java/util/ArrayList" ({ cls := "java/util/ArrayList", name := "elementData", desc := "(I)Ljava/lang/Object;" } : Jvm.MethodName) ({ cls := "java/util/ArrayList", name := "elementData", desc := "(I)Ljava/lang/Object;" } : Jvm.MethodName)) ∈ TB := tB4 152 (by rfl) (by rfl)
theorem tw_4_153 : (Jvm.Cond.code ({ cls := "java/util/ArrayList", name := "elementData", desc := "(I)Ljava/lang/Object;" } : Jvm.MethodName) prog_37_method_18_code (2 : Nat) (Option.some (Jvm.ClassFile.FieldType.object "java/lang/Object"))) ∈ TB := tB4 153 (by rfl) (by rfl)
theorem tw_4_154 : (Jvm.Cond.classLink "RateGate" (173 : Nat) "RateGate$Quote") ∈ TB := tB4 154 (by rfl) (by rfl)
theorem tw_4_155 : (Jvm.Cond.methodLink "RateGate" (209 : Nat) ({ cls := "RateGate$Quote", name := "isFixedAt", desc := "(I)Z" } : Jvm.MethodName)) ∈ TB := tB4 155 (by rfl) (by rfl)
theorem tw_4_156 : (Jvm.Cond.instanceMethod ({ cls := "RateGate$Quote", name := "isFixedAt", desc := "(I)Z" } : Jvm.MethodName)) ∈ TB := tB4 156 (by rfl) (by rfl)
theorem tw_4_157 : (Jvm.Cond.selects "RateGate$Quote" ({ cls := "RateGate$Quote", name := "isFixedAt", desc := "(I)Z" } : Jvm.MethodName) ({ cls := "RateGate$Quote", name := "isFixedAt", desc := "(I)Z" } : Jvm.MethodName)) ∈ TB := tB4 157 (by rfl) (by rfl)
theorem tw_4_158 : (Jvm.Cond.code ({ cls := "RateGate$Quote", name := "isFixedAt", desc := "(I)Z" } : Jvm.MethodName) prog_5_method_2_code (2 : Nat) (Option.some Jvm.ClassFile.FieldType.boolean)) ∈ TB := tB4 158 (by rfl) (by rfl)
theorem tw_4_159 : (Jvm.Cond.methodLink "RateGate" (286 : Nat) ({ cls := "RateGate$Quote", name := "isOnLaneOf", desc := "(LRateGate$Request;)Z" } : Jvm.MethodName)) ∈ TB := tB4 159 (by rfl) (by rfl)
theorem tw_4_160 : (Jvm.Cond.instanceMethod ({ cls := "RateGate$Quote", name := "isOnLaneOf", desc := "(LRateGate$Request;)Z" } : Jvm.MethodName)) ∈ TB := tB4 160 (by rfl) (by rfl)
theorem tw_4_161 : (Jvm.Cond.selects "RateGate$Quote" ({ cls := "RateGate$Quote", name := "isOnLaneOf", desc := "(LRateGate$Request;)Z" } : Jvm.MethodName) ({ cls := "RateGate$Quote", name := "isOnLaneOf", desc := "(LRateGate$Request;)Z" } : Jvm.MethodName)) ∈ TB := tB4 161 (by rfl) (by rfl)
theorem tw_4_162 : (Jvm.Cond.code ({ cls := "RateGate$Quote", name := "isOnLaneOf", desc := "(LRateGate$Request;)Z" } : Jvm.MethodName) prog_5_method_3_code (2 : Nat) (Option.some Jvm.ClassFile.FieldType.boolean)) ∈ TB := tB4 162 (by rfl) (by rfl)
theorem tw_4_163 : (Jvm.Cond.methodLink "RateGate$Quote" (9 : Nat) ({ cls := "RateGate$Request", name := "valueOf", desc := "(I)I" } : Jvm.MethodName)) ∈ TB := tB4 163 (by rfl) (by rfl)
theorem tw_4_164 : (Jvm.Cond.methodLink "RateGate" (280 : Nat) ({ cls := "RateGate", name := "addQuote", desc := "(LRateGate$Tariff;I)I" } : Jvm.MethodName)) ∈ TB := tB4 164 (by rfl) (by rfl)
theorem tw_4_166 : (Jvm.Cond.instanceMethod ({ cls := "RateGate", name := "addQuote", desc := "(LRateGate$Tariff;I)I" } : Jvm.MethodName)) ∈ TB := tB4 166 (by rfl) (by rfl)
theorem tw_4_167 : (Jvm.Cond.code ({ cls := "RateGate", name := "addQuote", desc := "(LRateGate$Tariff;I)I" } : Jvm.MethodName) prog_1_method_34_code (3 : Nat) (Option.some Jvm.ClassFile.FieldType.int)) ∈ TB := tB4 167 (by rfl) (by rfl)
theorem tw_4_168 : (Jvm.Cond.instantiable "RateGate$Quote" (8 : Nat)) ∈ TB := tB4 168 (by rfl) (by rfl)
theorem tw_4_169 : (Jvm.Cond.methodLink "RateGate" (290 : Nat) ({ cls := "RateGate$Quote", name := "<init>", desc := "(LRateGate$Request;LRateGate$Tariff;I)V" } : Jvm.MethodName)) ∈ TB := tB4 169 (by rfl) (by rfl)
theorem tw_4_170 : (Jvm.Cond.instanceMethod ({ cls := "RateGate$Quote", name := "<init>", desc := "(LRateGate$Request;LRateGate$Tariff;I)V" } : Jvm.MethodName)) ∈ TB := tB4 170 (by rfl) (by rfl)
theorem tw_4_171 : (Jvm.Cond.code ({ cls := "RateGate$Quote", name := "<init>", desc := "(LRateGate$Request;LRateGate$Tariff;I)V" } : Jvm.MethodName) prog_5_method_1_code (4 : Nat) (Option.none : Option Jvm.ClassFile.FieldType)) ∈ TB := tB4 171 (by rfl) (by rfl)
theorem tw_4_172 : (Jvm.Cond.methodLink "RateGate$Quote" (1 : Nat) ({ cls := "java/lang/Object", name := "<init>", desc := "()V" } : Jvm.MethodName)) ∈ TB := tB4 172 (by rfl) (by rfl)
theorem tw_4_173 : (Jvm.Cond.fieldLink "RateGate$Quote" (13 : Nat) "RateGate$Quote" "shipper" "I") ∈ TB := tB4 173 (by rfl) (by rfl)
theorem tw_4_174 : (Jvm.Cond.fieldLink "RateGate$Parcel" (25 : Nat) "RateGate$Quote" "shipper" "I") ∈ TB := tB4 174 (by rfl) (by rfl)
theorem tw_4_175 : (Jvm.Cond.fieldLink "RateGate$Quote" (19 : Nat) "RateGate$Quote" "carrier" "I") ∈ TB := tB4 175 (by rfl) (by rfl)
theorem tw_4_176 : (Jvm.Cond.fieldLink "RateGate" (206 : Nat) "RateGate$Quote" "carrier" "I") ∈ TB := tB4 176 (by rfl) (by rfl)
theorem tw_4_177 : (Jvm.Cond.fieldLink "RateGate$Quote" (22 : Nat) "RateGate$Quote" "from" "I") ∈ TB := tB4 177 (by rfl) (by rfl)
theorem tw_4_178 : (Jvm.Cond.fieldLink "RateGate$Quote" (25 : Nat) "RateGate$Quote" "to" "I") ∈ TB := tB4 178 (by rfl) (by rfl)
theorem tw_4_179 : (Jvm.Cond.fieldLink "RateGate$Quote" (28 : Nat) "RateGate$Quote" "grams" "I") ∈ TB := tB4 179 (by rfl) (by rfl)
theorem tw_4_180 : (Jvm.Cond.fieldLink "RateGate" (175 : Nat) "RateGate$Quote" "grams" "I") ∈ TB := tB4 180 (by rfl) (by rfl)
theorem tw_4_181 : (Jvm.Cond.fieldLink "RateGate$Quote" (31 : Nat) "RateGate$Quote" "isExpress" "Z") ∈ TB := tB4 181 (by rfl) (by rfl)
theorem tw_4_182 : (Jvm.Cond.fieldLink "RateGate$Quote" (35 : Nat) "RateGate$Quote" "rates" "LRateGate$Tariff;") ∈ TB := tB4 182 (by rfl) (by rfl)
theorem tw_4_183 : (Jvm.Cond.fieldLink "RateGate" (172 : Nat) "RateGate$Quote" "rates" "LRateGate$Tariff;") ∈ TB := tB4 183 (by rfl) (by rfl)
theorem tw_4_184 : (Jvm.Cond.fieldLink "RateGate$Quote" (39 : Nat) "RateGate$Quote" "end" "I") ∈ TB := tB4 184 (by rfl) (by rfl)
theorem tw_4_185 : (Jvm.Cond.fieldLink "RateGate" (182 : Nat) "RateGate$Quote" "end" "I") ∈ TB := tB4 185 (by rfl) (by rfl)
theorem tw_4_186 : (Jvm.Cond.laysFinal "RateGate$Quote" "RateGate$Quote" "shipper" "I") ∈ TB := tB4 186 (by rfl) (by rfl)
theorem tw_4_188 : (Jvm.Cond.laysFinal "RateGate$Quote" "RateGate$Quote" "carrier" "I") ∈ TB := tB4 188 (by rfl) (by rfl)
theorem tw_4_190 : (Jvm.Cond.laysFinal "RateGate$Quote" "RateGate$Quote" "from" "I") ∈ TB := tB4 190 (by rfl) (by rfl)
theorem tw_4_192 : (Jvm.Cond.laysFinal "RateGate$Quote" "RateGate$Quote" "to" "I") ∈ TB := tB4 192 (by rfl) (by rfl)
theorem tw_4_194 : (Jvm.Cond.laysFinal "RateGate$Quote" "RateGate$Quote" "grams" "I") ∈ TB := tB4 194 (by rfl) (by rfl)
theorem tw_4_196 : (Jvm.Cond.laysFinal "RateGate$Quote" "RateGate$Quote" "isExpress" "Z") ∈ TB := tB4 196 (by rfl) (by rfl)
theorem tw_4_198 : (Jvm.Cond.laysFinal "RateGate$Quote" "RateGate$Quote" "rates" "LRateGate$Tariff;") ∈ TB := tB4 198 (by rfl) (by rfl)
theorem tw_4_200 : (Jvm.Cond.laysFinal "RateGate$Quote" "RateGate$Quote" "end" "I") ∈ TB := tB4 200 (by rfl) (by rfl)
theorem tw_4_202 : (Jvm.Cond.superclass "RateGate$Quote" "java/lang/Object") ∈ TB := tB4 202 (by rfl) (by rfl)
theorem tw_4_204 : (Jvm.Cond.methodLink "RateGate" (222 : Nat) ({ cls := "java/util/List", name := "add", desc := "(Ljava/lang/Object;)Z" } : Jvm.MethodName)) ∈ TB := tB4 204 (by rfl) (by rfl)
theorem tw_4_207 : (Jvm.Cond.selects "java/util/ArrayList" ({ cls := "java/util/List", name := "add", desc := "(Ljava/lang/Object;)Z" } : Jvm.MethodName) ({ cls := "java/util/ArrayList", name := "add", desc := "(Ljava/lang/Object;)Z" } : Jvm.MethodName)) ∈ TB := tB4 207 (by rfl) (by rfl)
theorem tw_4_209 : (Jvm.Cond.instanceMethod ({ cls := "java/util/ArrayList", name := "add", desc := "(Ljava/lang/Object;)Z" } : Jvm.MethodName)) ∈ TB := tB4 209 (by rfl) (by rfl)
theorem tw_4_211 : (Jvm.Cond.code ({ cls := "java/util/ArrayList", name := "add", desc := "(Ljava/lang/Object;)Z" } : Jvm.MethodName) prog_37_method_25_code (2 : Nat) (Option.some Jvm.ClassFile.FieldType.boolean)) ∈ TB := tB4 211 (by rfl) (by rfl)
theorem tw_4_212 : (Jvm.Cond.methodLink "java/util/ArrayList" (131 : Nat) ({ cls := "java/util/ArrayList", name := "add", desc := "(Ljava/lang/Object;[Ljava/lang/Object;I)V" } : Jvm.MethodName)) ∈ TB := tB4 212 (by rfl) (by rfl)
theorem tw_4_214 : (Jvm.Cond.instanceMethod ({ cls := "java/util/ArrayList", name := "add", desc := "(Ljava/lang/Object;[Ljava/lang/Object;I)V" } : Jvm.MethodName)) ∈ TB := tB4 214 (by rfl) (by rfl)
theorem tw_4_215 : (Jvm.Cond.code ({ cls := "java/util/ArrayList", name := "add", desc := "(Ljava/lang/Object;[Ljava/lang/Object;I)V" } : Jvm.MethodName) prog_37_method_24_code (4 : Nat) (Option.none : Option Jvm.ClassFile.FieldType)) ∈ TB := tB4 215 (by rfl) (by rfl)
theorem tw_4_216 : (Jvm.Cond.methodLink "java/util/ArrayList" (129 : Nat) ({ cls := "java/util/ArrayList", name := "grow", desc := "()[Ljava/lang/Object;" } : Jvm.MethodName)) ∈ TB := tB4 216 (by rfl) (by rfl)
theorem tw_4_218 : (Jvm.Cond.instanceMethod ({ cls := "java/util/ArrayList", name := "grow", desc := "()[Ljava/lang/Object;" } : Jvm.MethodName)) ∈ TB := tB4 218 (by rfl) (by rfl)
theorem tw_4_219 : (Jvm.Cond.code ({ cls := "java/util/ArrayList", name := "grow", desc := "()[Ljava/lang/Object;" } : Jvm.MethodName) prog_37_method_7_code (1 : Nat) (Option.some (Jvm.ClassFile.FieldType.array (Jvm.ClassFile.FieldType.object "java/lang/Object")))) ∈ TB := tB4 219 (by rfl) (by rfl)
theorem tw_4_220 : (Jvm.Cond.methodLink "java/util/ArrayList" (69 : Nat) ({ cls := "java/util/ArrayList", name := "grow", desc := "(I)[Ljava/lang/Object;" } : Jvm.MethodName)) ∈ TB := tB4 220 (by rfl) (by rfl)
theorem tw_4_222 : (Jvm.Cond.instanceMethod ({ cls := "java/util/ArrayList", name := "grow", desc := "(I)[Ljava/lang/Object;" } : Jvm.MethodName)) ∈ TB := tB4 222 (by rfl) (by rfl)
theorem tw_4_223 : (Jvm.Cond.code ({ cls := "java/util/ArrayList", name := "grow", desc := "(I)[Ljava/lang/Object;" } : Jvm.MethodName) prog_37_method_6_code (4 : Nat) (Option.some (Jvm.ClassFile.FieldType.array (Jvm.ClassFile.FieldType.object "java/lang/Object")))) ∈ TB := tB4 223 (by rfl) (by rfl)
theorem tw_4_224 : (Jvm.Cond.methodLink "java/util/ArrayList" (73 : Nat) ({ cls := "jdk/internal/util/ArraysSupport", name := "newLength", desc := "(III)I" } : Jvm.MethodName)) ∈ TB := tB4 224 (by rfl) (by rfl)
theorem tw_4_225 : (Jvm.Cond.methodLink "java/util/ArrayList" (66 : Nat) ({ cls := "java/util/Arrays", name := "copyOf", desc := "([Ljava/lang/Object;I)[Ljava/lang/Object;" } : Jvm.MethodName)) ∈ TB := tB4 225 (by rfl) (by rfl)
theorem tw_4_226 : (Jvm.Cond.static ({ cls := "java/util/Arrays", name := "copyOf", desc := "([Ljava/lang/Object;I)[Ljava/lang/Object;" } : Jvm.MethodName)) ∈ TB := tB4 226 (by rfl) (by rfl)
theorem tw_4_227 : (Jvm.Cond.code ({ cls := "java/util/Arrays", name := "copyOf", desc := "([Ljava/lang/Object;I)[Ljava/lang/Object;" } : Jvm.MethodName) prog_38_method_119_code (2 : Nat) (Option.some (Jvm.ClassFile.FieldType.array (Jvm.ClassFile.FieldType.object "java/lang/Object")))) ∈ TB := tB4 227 (by rfl) (by rfl)
theorem tw_4_228 : (Jvm.Cond.methodLink "java/util/Arrays" (86 : Nat) ({ cls := "java/lang/Object", name := "getClass", desc := "()Ljava/lang/Class;" } : Jvm.MethodName)) ∈ TB := tB4 228 (by rfl) (by rfl)
theorem tw_4_229 : (Jvm.Cond.instanceMethod ({ cls := "java/lang/Object", name := "getClass", desc := "()Ljava/lang/Class;" } : Jvm.MethodName)) ∈ TB := tB4 229 (by rfl) (by rfl)
theorem tw_4_230 : (Jvm.Cond.sameMethod "java/lang/Object" "java/lang/Object" "getClass" "()Ljava/lang/Class;") ∈ TB := tB4 230 (by rfl) (by rfl)
theorem tw_4_231 : (Jvm.Cond.selects "RateGate" ({ cls := "java/lang/Object", name := "getClass", desc := "()Ljava/lang/Class;" } : Jvm.MethodName) ({ cls := "java/lang/Object", name := "getClass", desc := "()Ljava/lang/Class;" } : Jvm.MethodName)) ∈ TB := tB4 231 (by rfl) (by rfl)
theorem tw_4_232 : (Jvm.Cond.selects "RateGate$CallLog" ({ cls := "java/lang/Object", name := "getClass", desc := "()Ljava/lang/Class;" } : Jvm.MethodName) ({ cls := "java/lang/Object", name := "getClass", desc := "()Ljava/lang/Class;" } : Jvm.MethodName)) ∈ TB := tB4 232 (by rfl) (by rfl)
theorem tw_4_233 : (Jvm.Cond.selects "RateGate$Carrier" ({ cls := "java/lang/Object", name := "getClass", desc := "()Ljava/lang/Class;" } : Jvm.MethodName) ({ cls := "java/lang/Object", name := "getClass", desc := "()Ljava/lang/Class;" } : Jvm.MethodName)) ∈ TB := tB4 233 (by rfl) (by rfl)
theorem tw_4_234 : (Jvm.Cond.selects "RateGate$Parcel" ({ cls := "java/lang/Object", name := "getClass", desc := "()Ljava/lang/Class;" } : Jvm.MethodName) ({ cls := "java/lang/Object", name := "getClass", desc := "()Ljava/lang/Class;" } : Jvm.MethodName)) ∈ TB := tB4 234 (by rfl) (by rfl)
theorem tw_4_235 : (Jvm.Cond.selects "RateGate$Quote" ({ cls := "java/lang/Object", name := "getClass", desc := "()Ljava/lang/Class;" } : Jvm.MethodName) ({ cls := "java/lang/Object", name := "getClass", desc := "()Ljava/lang/Class;" } : Jvm.MethodName)) ∈ TB := tB4 235 (by rfl) (by rfl)
theorem tw_4_236 : (Jvm.Cond.selects "RateGate$Request" ({ cls := "java/lang/Object", name := "getClass", desc := "()Ljava/lang/Class;" } : Jvm.MethodName) ({ cls := "java/lang/Object", name := "getClass", desc := "()Ljava/lang/Class;" } : Jvm.MethodName)) ∈ TB := tB4 236 (by rfl) (by rfl)
theorem tw_4_237 : (Jvm.Cond.selects "RateGate$Shipper" ({ cls := "java/lang/Object", name := "getClass", desc := "()Ljava/lang/Class;" } : Jvm.MethodName) ({ cls := "java/lang/Object", name := "getClass", desc := "()Ljava/lang/Class;" } : Jvm.MethodName)) ∈ TB := tB4 237 (by rfl) (by rfl)
theorem tw_4_238 : (Jvm.Cond.selects "RateGate$Tariff" ({ cls := "java/lang/Object", name := "getClass", desc := "()Ljava/lang/Class;" } : Jvm.MethodName) ({ cls := "java/lang/Object", name := "getClass", desc := "()Ljava/lang/Class;" } : Jvm.MethodName)) ∈ TB := tB4 238 (by rfl) (by rfl)
theorem tw_4_239 : (Jvm.Cond.selects "RateGateModel" ({ cls := "java/lang/Object", name := "getClass", desc := "()Ljava/lang/Class;" } : Jvm.MethodName) ({ cls := "java/lang/Object", name := "getClass", desc := "()Ljava/lang/Class;" } : Jvm.MethodName)) ∈ TB := tB4 239 (by rfl) (by rfl)
theorem tw_5_0 : (Jvm.Cond.selects "java/lang/IllegalArgumentException" ({ cls := "java/lang/Object", name := "getClass", desc := "()Ljava/lang/Class;" } : Jvm.MethodName) ({ cls := "java/lang/Object", name := "getClass", desc := "()Ljava/lang/Class;" } : Jvm.MethodName)) ∈ TB := tB5 0 (by rfl) (by rfl)
theorem tw_5_1 : (Jvm.Cond.selects "java/lang/IllegalStateException" ({ cls := "java/lang/Object", name := "getClass", desc := "()Ljava/lang/Class;" } : Jvm.MethodName) ({ cls := "java/lang/Object", name := "getClass", desc := "()Ljava/lang/Class;" } : Jvm.MethodName)) ∈ TB := tB5 1 (by rfl) (by rfl)
theorem tw_5_2 : (Jvm.Cond.selects "java/lang/IndexOutOfBoundsException" ({ cls := "java/lang/Object", name := "getClass", desc := "()Ljava/lang/Class;" } : Jvm.MethodName) ({ cls := "java/lang/Object", name := "getClass", desc := "()Ljava/lang/Class;" } : Jvm.MethodName)) ∈ TB := tB5 2 (by rfl) (by rfl)
theorem tw_5_3 : (Jvm.Cond.selects "java/lang/String" ({ cls := "java/lang/Object", name := "getClass", desc := "()Ljava/lang/Class;" } : Jvm.MethodName) ({ cls := "java/lang/Object", name := "getClass", desc := "()Ljava/lang/Class;" } : Jvm.MethodName)) ∈ TB := tB5 3 (by rfl) (by rfl)
theorem tw_5_4 : (Jvm.Cond.selects "java/lang/StringBuilder" ({ cls := "java/lang/Object", name := "getClass", desc := "()Ljava/lang/Class;" } : Jvm.MethodName) ({ cls := "java/lang/Object", name := "getClass", desc := "()Ljava/lang/Class;" } : Jvm.MethodName)) ∈ TB := tB5 4 (by rfl) (by rfl)
theorem tw_5_5 : (Jvm.Cond.selects "java/util/ArrayList" ({ cls := "java/lang/Object", name := "getClass", desc := "()Ljava/lang/Class;" } : Jvm.MethodName) ({ cls := "java/lang/Object", name := "getClass", desc := "()Ljava/lang/Class;" } : Jvm.MethodName)) ∈ TB := tB5 5 (by rfl) (by rfl)
theorem tw_5_6 : (Jvm.Cond.native ({ cls := "java/lang/Object", name := "getClass", desc := "()Ljava/lang/Class;" } : Jvm.MethodName)) ∈ TB := tB5 6 (by rfl) (by rfl)
theorem tw_5_7 : (Jvm.Cond.methodLink "java/util/Arrays" (300 : Nat) ({ cls := "java/util/Arrays", name := "copyOf", desc := "([Ljava/lang/Object;ILjava/lang/Class;)[Ljava/lang/Object;" } : Jvm.MethodName)) ∈ TB := tB5 7 (by rfl) (by rfl)
theorem tw_5_8 : (Jvm.Cond.static ({ cls := "java/util/Arrays", name := "copyOf", desc := "([Ljava/lang/Object;ILjava/lang/Class;)[Ljava/lang/Object;" } : Jvm.MethodName)) ∈ TB := tB5 8 (by rfl) (by rfl)
theorem tw_5_9 : (Jvm.Cond.code ({ cls := "java/util/Arrays", name := "copyOf", desc := "([Ljava/lang/Object;ILjava/lang/Class;)[Ljava/lang/Object;" } : Jvm.MethodName) prog_38_method_120_code (4 : Nat) (Option.some (Jvm.ClassFile.FieldType.array (Jvm.ClassFile.FieldType.object "java/lang/Object")))) ∈ TB := tB5 9 (by rfl) (by rfl)
theorem tw_5_10 : (Jvm.Cond.classLink "java/util/Arrays" (110 : Nat) "[Ljava/lang/Object;") ∈ TB := tB5 10 (by rfl) (by rfl)
theorem tw_5_12 : (Jvm.Cond.classLink "java/util/Arrays" (2 : Nat) "java/lang/Object") ∈ TB := tB5 12 (by rfl) (by rfl)
theorem tw_5_13 : (Jvm.Cond.methodLink "java/util/ArrayList" (79 : Nat) ({ cls := "java/lang/Math", name := "max", desc := "(II)I" } : Jvm.MethodName)) ∈ TB := tB5 13 (by rfl) (by rfl)
theorem tw_5_14 : (Jvm.Cond.classLink "java/util/ArrayList" (7 : Nat) "java/lang/Object") ∈ TB := tB5 14 (by rfl) (by rfl)
theorem tw_5_15 : (Jvm.Cond.methodLink "RateGate" (197 : Nat) ({ cls := "RateGate$Carrier", name := "circuitAt", desc := "(I)I" } : Jvm.MethodName)) ∈ TB := tB5 15 (by rfl) (by rfl)
theorem tw_5_16 : (Jvm.Cond.instanceMethod ({ cls := "RateGate$Carrier", name := "circuitAt", desc := "(I)I" } : Jvm.MethodName)) ∈ TB := tB5 16 (by rfl) (by rfl)
theorem tw_5_17 : (Jvm.Cond.selects "RateGate$Carrier" ({ cls := "RateGate$Carrier", name := "circuitAt", desc := "(I)I" } : Jvm.MethodName) ({ cls := "RateGate$Carrier", name := "circuitAt", desc := "(I)I" } : Jvm.MethodName)) ∈ TB := tB5 17 (by rfl) (by rfl)
theorem tw_5_18 : (Jvm.Cond.code ({ cls := "RateGate$Carrier", name := "circuitAt", desc := "(I)I" } : Jvm.MethodName) prog_3_method_2_code (2 : Nat) (Option.some Jvm.ClassFile.FieldType.int)) ∈ TB := tB5 18 (by rfl) (by rfl)
theorem tw_5_19 : (Jvm.Cond.methodLink "RateGate" (283 : Nat) ({ cls := "RateGate$Carrier", name := "answersAt", desc := "(I)Z" } : Jvm.MethodName)) ∈ TB := tB5 19 (by rfl) (by rfl)
theorem tw_5_20 : (Jvm.Cond.instanceMethod ({ cls := "RateGate$Carrier", name := "answersAt", desc := "(I)Z" } : Jvm.MethodName)) ∈ TB := tB5 20 (by rfl) (by rfl)
theorem tw_5_21 : (Jvm.Cond.selects "RateGate$Carrier" ({ cls := "RateGate$Carrier", name := "answersAt", desc := "(I)Z" } : Jvm.MethodName) ({ cls := "RateGate$Carrier", name := "answersAt", desc := "(I)Z" } : Jvm.MethodName)) ∈ TB := tB5 21 (by rfl) (by rfl)
theorem tw_5_22 : (Jvm.Cond.code ({ cls := "RateGate$Carrier", name := "answersAt", desc := "(I)Z" } : Jvm.MethodName) prog_3_method_3_code (3 : Nat) (Option.some Jvm.ClassFile.FieldType.boolean)) ∈ TB := tB5 22 (by rfl) (by rfl)
theorem tw_5_23 : (Jvm.Cond.methodLink "RateGate$Carrier" (40 : Nat) ({ cls := "RateGate$Carrier", name := "circuitAt", desc := "(I)I" } : Jvm.MethodName)) ∈ TB := tB5 23 (by rfl) (by rfl)
theorem tw_5_24 : (Jvm.Cond.methodLink "RateGate$Carrier" (44 : Nat) ({ cls := "RateGate$Carrier", name := "succeedsAt", desc := "(I)Z" } : Jvm.MethodName)) ∈ TB := tB5 24 (by rfl) (by rfl)
theorem tw_5_26 : (Jvm.Cond.instanceMethod ({ cls := "RateGate$Carrier", name := "succeedsAt", desc := "(I)Z" } : Jvm.MethodName)) ∈ TB := tB5 26 (by rfl) (by rfl)
theorem tw_5_27 : (Jvm.Cond.code ({ cls := "RateGate$Carrier", name := "succeedsAt", desc := "(I)Z" } : Jvm.MethodName) prog_3_method_4_code (3 : Nat) (Option.some Jvm.ClassFile.FieldType.boolean)) ∈ TB := tB5 27 (by rfl) (by rfl)
theorem tw_5_28 : (Jvm.Cond.methodLink "RateGate" (164 : Nat) ({ cls := "RateGate$CallLog", name := "add", desc := "(IIZ)V" } : Jvm.MethodName)) ∈ TB := tB5 28 (by rfl) (by rfl)
theorem tw_5_29 : (Jvm.Cond.instanceMethod ({ cls := "RateGate$CallLog", name := "add", desc := "(IIZ)V" } : Jvm.MethodName)) ∈ TB := tB5 29 (by rfl) (by rfl)
theorem tw_5_30 : (Jvm.Cond.selects "RateGate$CallLog" ({ cls := "RateGate$CallLog", name := "add", desc := "(IIZ)V" } : Jvm.MethodName) ({ cls := "RateGate$CallLog", name := "add", desc := "(IIZ)V" } : Jvm.MethodName)) ∈ TB := tB5 30 (by rfl) (by rfl)
theorem tw_5_31 : (Jvm.Cond.code ({ cls := "RateGate$CallLog", name := "add", desc := "(IIZ)V" } : Jvm.MethodName) prog_2_method_2_code (4 : Nat) (Option.none : Option Jvm.ClassFile.FieldType)) ∈ TB := tB5 31 (by rfl) (by rfl)
theorem tw_5_32 : (Jvm.Cond.methodLink "RateGate$CallLog" (30 : Nat) ({ cls := "java/lang/Math", name := "max", desc := "(II)I" } : Jvm.MethodName)) ∈ TB := tB5 32 (by rfl) (by rfl)
theorem tw_5_33 : (Jvm.Cond.methodLink "RateGateLaw" (135 : Nat) ({ cls := "RateGateLaw", name := "price", desc := "(LRateGate;I[J)I" } : Jvm.MethodName)) ∈ TB := tB5 33 (by rfl) (by rfl)
theorem tw_5_34 : (Jvm.Cond.static ({ cls := "RateGateLaw", name := "price", desc := "(LRateGate;I[J)I" } : Jvm.MethodName)) ∈ TB := tB5 34 (by rfl) (by rfl)
theorem tw_5_36 : (Jvm.Cond.methodLink "RateGateLaw" (43 : Nat) ({ cls := "RateGate", name := "price", desc := "(I)I" } : Jvm.MethodName)) ∈ TB := tB5 36 (by rfl) (by rfl)
theorem tw_5_37 : (Jvm.Cond.instanceMethod ({ cls := "RateGate", name := "price", desc := "(I)I" } : Jvm.MethodName)) ∈ TB := tB5 37 (by rfl) (by rfl)
theorem tw_5_38 : (Jvm.Cond.selects "RateGate" ({ cls := "RateGate", name := "price", desc := "(I)I" } : Jvm.MethodName) ({ cls := "RateGate", name := "price", desc := "(I)I" } : Jvm.MethodName)) ∈ TB := tB5 38 (by rfl) (by rfl)
theorem tw_5_39 : (Jvm.Cond.code ({ cls := "RateGate", name := "price", desc := "(I)I" } : Jvm.MethodName) prog_1_method_12_code (3 : Nat) (Option.some Jvm.ClassFile.FieldType.int)) ∈ TB := tB5 39 (by rfl) (by rfl)
theorem tw_5_40 : (Jvm.Cond.methodLink "RateGate" (168 : Nat) ({ cls := "RateGate", name := "quoteAt", desc := "(I)LRateGate$Quote;" } : Jvm.MethodName)) ∈ TB := tB5 40 (by rfl) (by rfl)
theorem tw_5_42 : (Jvm.Cond.instanceMethod ({ cls := "RateGate", name := "quoteAt", desc := "(I)LRateGate$Quote;" } : Jvm.MethodName)) ∈ TB := tB5 42 (by rfl) (by rfl)
theorem tw_5_43 : (Jvm.Cond.code ({ cls := "RateGate", name := "quoteAt", desc := "(I)LRateGate$Quote;" } : Jvm.MethodName) prog_1_method_30_code (2 : Nat) (Option.some (Jvm.ClassFile.FieldType.object "RateGate$Quote"))) ∈ TB := tB5 43 (by rfl) (by rfl)
theorem tw_5_45 : (Jvm.Cond.methodLink "RateGate" (178 : Nat) ({ cls := "RateGate$Quote", name := "priceBy", desc := "(LRateGate$Tariff;I)I" } : Jvm.MethodName)) ∈ TB := tB5 45 (by rfl) (by rfl)
theorem tw_5_46 : (Jvm.Cond.instanceMethod ({ cls := "RateGate$Quote", name := "priceBy", desc := "(LRateGate$Tariff;I)I" } : Jvm.MethodName)) ∈ TB := tB5 46 (by rfl) (by rfl)
theorem tw_5_47 : (Jvm.Cond.selects "RateGate$Quote" ({ cls := "RateGate$Quote", name := "priceBy", desc := "(LRateGate$Tariff;I)I" } : Jvm.MethodName) ({ cls := "RateGate$Quote", name := "priceBy", desc := "(LRateGate$Tariff;I)I" } : Jvm.MethodName)) ∈ TB := tB5 47 (by rfl) (by rfl)
theorem tw_5_48 : (Jvm.Cond.code ({ cls := "RateGate$Quote", name := "priceBy", desc := "(LRateGate$Tariff;I)I" } : Jvm.MethodName) prog_5_method_4_code (5 : Nat) (Option.some Jvm.ClassFile.FieldType.int)) ∈ TB := tB5 48 (by rfl) (by rfl)
theorem tw_5_49 : (Jvm.Cond.methodLink "RateGate$Quote" (50 : Nat) ({ cls := "java/lang/Math", name := "abs", desc := "(I)I" } : Jvm.MethodName)) ∈ TB := tB5 49 (by rfl) (by rfl)
theorem tw_5_50 : (Jvm.Cond.static ({ cls := "java/lang/Math", name := "abs", desc := "(I)I" } : Jvm.MethodName)) ∈ TB := tB5 50 (by rfl) (by rfl)
theorem tw_5_51 : (Jvm.Cond.code ({ cls := "java/lang/Math", name := "abs", desc := "(I)I" } : Jvm.MethodName) prog_24_method_59_code (1 : Nat) (Option.some Jvm.ClassFile.FieldType.int)) ∈ TB := tB5 51 (by rfl) (by rfl)
theorem tw_5_52 : (Jvm.Cond.methodLink "RateGateLaw" (138 : Nat) ({ cls := "RateGateLaw", name := "fixed", desc := "(LRateGate;I[J)I" } : Jvm.MethodName)) ∈ TB := tB5 52 (by rfl) (by rfl)
theorem tw_5_53 : (Jvm.Cond.static ({ cls := "RateGateLaw", name := "fixed", desc := "(LRateGate;I[J)I" } : Jvm.MethodName)) ∈ TB := tB5 53 (by rfl) (by rfl)
theorem tw_5_55 : (Jvm.Cond.methodLink "RateGateLaw" (46 : Nat) ({ cls := "RateGate", name := "fixed", desc := "(I)I" } : Jvm.MethodName)) ∈ TB := tB5 55 (by rfl) (by rfl)
theorem tw_5_56 : (Jvm.Cond.instanceMethod ({ cls := "RateGate", name := "fixed", desc := "(I)I" } : Jvm.MethodName)) ∈ TB := tB5 56 (by rfl) (by rfl)
theorem tw_5_57 : (Jvm.Cond.selects "RateGate" ({ cls := "RateGate", name := "fixed", desc := "(I)I" } : Jvm.MethodName) ({ cls := "RateGate", name := "fixed", desc := "(I)I" } : Jvm.MethodName)) ∈ TB := tB5 57 (by rfl) (by rfl)
theorem tw_5_58 : (Jvm.Cond.code ({ cls := "RateGate", name := "fixed", desc := "(I)I" } : Jvm.MethodName) prog_1_method_13_code (2 : Nat) (Option.some Jvm.ClassFile.FieldType.int)) ∈ TB := tB5 58 (by rfl) (by rfl)
theorem tw_5_59 : (Jvm.Cond.methodLink "RateGate" (185 : Nat) ({ cls := "java/lang/Math", name := "max", desc := "(II)I" } : Jvm.MethodName)) ∈ TB := tB5 59 (by rfl) (by rfl)
theorem tw_5_60 : (Jvm.Cond.methodLink "RateGateLaw" (141 : Nat) ({ cls := "RateGateLaw", name := "left", desc := "(LRateGate;I[J)I" } : Jvm.MethodName)) ∈ TB := tB5 60 (by rfl) (by rfl)
theorem tw_5_61 : (Jvm.Cond.static ({ cls := "RateGateLaw", name := "left", desc := "(LRateGate;I[J)I" } : Jvm.MethodName)) ∈ TB := tB5 61 (by rfl) (by rfl)
theorem tw_5_63 : (Jvm.Cond.methodLink "RateGateLaw" (49 : Nat) ({ cls := "RateGate", name := "left", desc := "(I)I" } : Jvm.MethodName)) ∈ TB := tB5 63 (by rfl) (by rfl)
theorem tw_5_64 : (Jvm.Cond.instanceMethod ({ cls := "RateGate", name := "left", desc := "(I)I" } : Jvm.MethodName)) ∈ TB := tB5 64 (by rfl) (by rfl)
theorem tw_5_65 : (Jvm.Cond.selects "RateGate" ({ cls := "RateGate", name := "left", desc := "(I)I" } : Jvm.MethodName) ({ cls := "RateGate", name := "left", desc := "(I)I" } : Jvm.MethodName)) ∈ TB := tB5 65 (by rfl) (by rfl)
theorem tw_5_66 : (Jvm.Cond.code ({ cls := "RateGate", name := "left", desc := "(I)I" } : Jvm.MethodName) prog_1_method_14_code (2 : Nat) (Option.some Jvm.ClassFile.FieldType.int)) ∈ TB := tB5 66 (by rfl) (by rfl)
theorem tw_5_67 : (Jvm.Cond.methodLink "RateGateLaw" (144 : Nat) ({ cls := "RateGateLaw", name := "leftByLog", desc := "(LRateGate;I[J)I" } : Jvm.MethodName)) ∈ TB := tB5 67 (by rfl) (by rfl)
theorem tw_5_68 : (Jvm.Cond.static ({ cls := "RateGateLaw", name := "leftByLog", desc := "(LRateGate;I[J)I" } : Jvm.MethodName)) ∈ TB := tB5 68 (by rfl) (by rfl)
theorem tw_5_70 : (Jvm.Cond.methodLink "RateGateLaw" (52 : Nat) ({ cls := "RateGate", name := "leftByLog", desc := "(I)I" } : Jvm.MethodName)) ∈ TB := tB5 70 (by rfl) (by rfl)
theorem tw_5_71 : (Jvm.Cond.instanceMethod ({ cls := "RateGate", name := "leftByLog", desc := "(I)I" } : Jvm.MethodName)) ∈ TB := tB5 71 (by rfl) (by rfl)
theorem tw_5_72 : (Jvm.Cond.selects "RateGate" ({ cls := "RateGate", name := "leftByLog", desc := "(I)I" } : Jvm.MethodName) ({ cls := "RateGate", name := "leftByLog", desc := "(I)I" } : Jvm.MethodName)) ∈ TB := tB5 72 (by rfl) (by rfl)
theorem tw_5_73 : (Jvm.Cond.code ({ cls := "RateGate", name := "leftByLog", desc := "(I)I" } : Jvm.MethodName) prog_1_method_15_code (4 : Nat) (Option.some Jvm.ClassFile.FieldType.int)) ∈ TB := tB5 73 (by rfl) (by rfl)
theorem tw_5_74 : (Jvm.Cond.methodLink "RateGate" (194 : Nat) ({ cls := "RateGate$CallLog", name := "countBehind", desc := "(II)I" } : Jvm.MethodName)) ∈ TB := tB5 74 (by rfl) (by rfl)
theorem tw_5_75 : (Jvm.Cond.instanceMethod ({ cls := "RateGate$CallLog", name := "countBehind", desc := "(II)I" } : Jvm.MethodName)) ∈ TB := tB5 75 (by rfl) (by rfl)
theorem tw_5_76 : (Jvm.Cond.selects "RateGate$CallLog" ({ cls := "RateGate$CallLog", name := "countBehind", desc := "(II)I" } : Jvm.MethodName) ({ cls := "RateGate$CallLog", name := "countBehind", desc := "(II)I" } : Jvm.MethodName)) ∈ TB := tB5 76 (by rfl) (by rfl)
theorem tw_5_77 : (Jvm.Cond.code ({ cls := "RateGate$CallLog", name := "countBehind", desc := "(II)I" } : Jvm.MethodName) prog_2_method_3_code (5 : Nat) (Option.some Jvm.ClassFile.FieldType.int)) ∈ TB := tB5 77 (by rfl) (by rfl)
theorem tw_5_78 : (Jvm.Cond.methodLink "RateGateLaw" (147 : Nat) ({ cls := "RateGateLaw", name := "circuit", desc := "(LRateGate;I[J)I" } : Jvm.MethodName)) ∈ TB := tB5 78 (by rfl) (by rfl)
theorem tw_5_79 : (Jvm.Cond.static ({ cls := "RateGateLaw", name := "circuit", desc := "(LRateGate;I[J)I" } : Jvm.MethodName)) ∈ TB := tB5 79 (by rfl) (by rfl)
theorem tw_5_81 : (Jvm.Cond.methodLink "RateGateLaw" (55 : Nat) ({ cls := "RateGate", name := "circuit", desc := "(I)I" } : Jvm.MethodName)) ∈ TB := tB5 81 (by rfl) (by rfl)
theorem tw_5_82 : (Jvm.Cond.instanceMethod ({ cls := "RateGate", name := "circuit", desc := "(I)I" } : Jvm.MethodName)) ∈ TB := tB5 82 (by rfl) (by rfl)
theorem tw_5_83 : (Jvm.Cond.selects "RateGate" ({ cls := "RateGate", name := "circuit", desc := "(I)I" } : Jvm.MethodName) ({ cls := "RateGate", name := "circuit", desc := "(I)I" } : Jvm.MethodName)) ∈ TB := tB5 83 (by rfl) (by rfl)
theorem tw_5_84 : (Jvm.Cond.code ({ cls := "RateGate", name := "circuit", desc := "(I)I" } : Jvm.MethodName) prog_1_method_16_code (2 : Nat) (Option.some Jvm.ClassFile.FieldType.int)) ∈ TB := tB5 84 (by rfl) (by rfl)
theorem tw_5_85 : (Jvm.Cond.methodLink "RateGateLaw" (150 : Nat) ({ cls := "RateGateLaw", name := "tries", desc := "(LRateGate;I[J)I" } : Jvm.MethodName)) ∈ TB := tB5 85 (by rfl) (by rfl)
theorem tw_5_86 : (Jvm.Cond.static ({ cls := "RateGateLaw", name := "tries", desc := "(LRateGate;I[J)I" } : Jvm.MethodName)) ∈ TB := tB5 86 (by rfl) (by rfl)
theorem tw_5_88 : (Jvm.Cond.methodLink "RateGateLaw" (58 : Nat) ({ cls := "RateGate", name := "tries", desc := "(I)I" } : Jvm.MethodName)) ∈ TB := tB5 88 (by rfl) (by rfl)
theorem tw_5_89 : (Jvm.Cond.instanceMethod ({ cls := "RateGate", name := "tries", desc := "(I)I" } : Jvm.MethodName)) ∈ TB := tB5 89 (by rfl) (by rfl)
theorem tw_5_90 : (Jvm.Cond.selects "RateGate" ({ cls := "RateGate", name := "tries", desc := "(I)I" } : Jvm.MethodName) ({ cls := "RateGate", name := "tries", desc := "(I)I" } : Jvm.MethodName)) ∈ TB := tB5 90 (by rfl) (by rfl)
theorem tw_5_91 : (Jvm.Cond.code ({ cls := "RateGate", name := "tries", desc := "(I)I" } : Jvm.MethodName) prog_1_method_17_code (2 : Nat) (Option.some Jvm.ClassFile.FieldType.int)) ∈ TB := tB5 91 (by rfl) (by rfl)
theorem tw_5_92 : (Jvm.Cond.methodLink "RateGateLaw" (157 : Nat) ({ cls := "RateGateLaw", name := "book", desc := "(LRateGate;I[J)I" } : Jvm.MethodName)) ∈ TB := tB5 92 (by rfl) (by rfl)
theorem tw_5_93 : (Jvm.Cond.static ({ cls := "RateGateLaw", name := "book", desc := "(LRateGate;I[J)I" } : Jvm.MethodName)) ∈ TB := tB5 93 (by rfl) (by rfl)
theorem tw_5_95 : (Jvm.Cond.methodLink "RateGateLaw" (61 : Nat) ({ cls := "RateGate", name := "book", desc := "(I)I" } : Jvm.MethodName)) ∈ TB := tB5 95 (by rfl) (by rfl)
theorem tw_5_96 : (Jvm.Cond.instanceMethod ({ cls := "RateGate", name := "book", desc := "(I)I" } : Jvm.MethodName)) ∈ TB := tB5 96 (by rfl) (by rfl)
theorem tw_5_97 : (Jvm.Cond.selects "RateGate" ({ cls := "RateGate", name := "book", desc := "(I)I" } : Jvm.MethodName) ({ cls := "RateGate", name := "book", desc := "(I)I" } : Jvm.MethodName)) ∈ TB := tB5 97 (by rfl) (by rfl)
theorem tw_5_98 : (Jvm.Cond.code ({ cls := "RateGate", name := "book", desc := "(I)I" } : Jvm.MethodName) prog_1_method_19_code (5 : Nat) (Option.some Jvm.ClassFile.FieldType.int)) ∈ TB := tB5 98 (by rfl) (by rfl)
theorem tw_5_101 : (Jvm.Cond.classLink "RateGate" (217 : Nat) "RateGate$Parcel") ∈ TB := tB5 101 (by rfl) (by rfl)
theorem tw_5_102 : (Jvm.Cond.instantiable "RateGate$Parcel" (4 : Nat)) ∈ TB := tB5 102 (by rfl) (by rfl)
theorem tw_5_103 : (Jvm.Cond.methodLink "RateGate" (219 : Nat) ({ cls := "RateGate$Parcel", name := "<init>", desc := "(LRateGate$Quote;II)V" } : Jvm.MethodName)) ∈ TB := tB5 103 (by rfl) (by rfl)
theorem tw_5_104 : (Jvm.Cond.instanceMethod ({ cls := "RateGate$Parcel", name := "<init>", desc := "(LRateGate$Quote;II)V" } : Jvm.MethodName)) ∈ TB := tB5 104 (by rfl) (by rfl)
theorem tw_5_105 : (Jvm.Cond.code ({ cls := "RateGate$Parcel", name := "<init>", desc := "(LRateGate$Quote;II)V" } : Jvm.MethodName) prog_4_method_1_code (4 : Nat) (Option.none : Option Jvm.ClassFile.FieldType)) ∈ TB := tB5 105 (by rfl) (by rfl)
theorem tw_5_106 : (Jvm.Cond.methodLink "RateGate$Parcel" (3 : Nat) ({ cls := "java/lang/Object", name := "<init>", desc := "()V" } : Jvm.MethodName)) ∈ TB := tB5 106 (by rfl) (by rfl)
theorem tw_5_107 : (Jvm.Cond.fieldLink "RateGate$Parcel" (15 : Nat) "RateGate$Parcel" "quote" "LRateGate$Quote;") ∈ TB := tB5 107 (by rfl) (by rfl)
theorem tw_5_108 : (Jvm.Cond.fieldLink "RateGate" (239 : Nat) "RateGate$Parcel" "quote" "LRateGate$Quote;") ∈ TB := tB5 108 (by rfl) (by rfl)
theorem tw_5_109 : (Jvm.Cond.fieldLink "RateGate$Parcel" (22 : Nat) "RateGate$Parcel" "bookedAt" "I") ∈ TB := tB5 109 (by rfl) (by rfl)
theorem tw_5_110 : (Jvm.Cond.fieldLink "RateGate$Parcel" (19 : Nat) "RateGate$Parcel" "amount" "I") ∈ TB := tB5 110 (by rfl) (by rfl)
theorem tw_5_111 : (Jvm.Cond.fieldLink "RateGate" (236 : Nat) "RateGate$Parcel" "amount" "I") ∈ TB := tB5 111 (by rfl) (by rfl)
theorem tw_5_112 : (Jvm.Cond.fieldLink "RateGate$Parcel" (9 : Nat) "RateGate$Parcel" "stage" "I") ∈ TB := tB5 112 (by rfl) (by rfl)
theorem tw_5_113 : (Jvm.Cond.fieldLink "RateGate" (231 : Nat) "RateGate$Parcel" "stage" "I") ∈ TB := tB5 113 (by rfl) (by rfl)
theorem tw_5_114 : (Jvm.Cond.laysFinal "RateGate$Parcel" "RateGate$Parcel" "quote" "LRateGate$Quote;") ∈ TB := tB5 114 (by rfl) (by rfl)
theorem tw_5_116 : (Jvm.Cond.laysFinal "RateGate$Parcel" "RateGate$Parcel" "bookedAt" "I") ∈ TB := tB5 116 (by rfl) (by rfl)
theorem tw_5_118 : (Jvm.Cond.lays "RateGate$Parcel" "RateGate$Parcel" "amount" "I") ∈ TB := tB5 118 (by rfl) (by rfl)
theorem tw_5_120 : (Jvm.Cond.lays "RateGate$Parcel" "RateGate$Parcel" "stage" "I") ∈ TB := tB5 120 (by rfl) (by rfl)
theorem tw_5_122 : (Jvm.Cond.superclass "RateGate$Parcel" "java/lang/Object") ∈ TB := tB5 122 (by rfl) (by rfl)
theorem tw_5_123 : (Jvm.Cond.methodLink "RateGateLaw" (160 : Nat) ({ cls := "RateGateLaw", name := "weigh", desc := "(LRateGate;II[J)I" } : Jvm.MethodName)) ∈ TB := tB5 123 (by rfl) (by rfl)
theorem tw_5_124 : (Jvm.Cond.static ({ cls := "RateGateLaw", name := "weigh", desc := "(LRateGate;II[J)I" } : Jvm.MethodName)) ∈ TB := tB5 124 (by rfl) (by rfl)
theorem tw_5_126 : (Jvm.Cond.methodLink "RateGateLaw" (64 : Nat) ({ cls := "RateGate", name := "weigh", desc := "(II)I" } : Jvm.MethodName)) ∈ TB := tB5 126 (by rfl) (by rfl)
theorem tw_5_127 : (Jvm.Cond.instanceMethod ({ cls := "RateGate", name := "weigh", desc := "(II)I" } : Jvm.MethodName)) ∈ TB := tB5 127 (by rfl) (by rfl)
theorem tw_5_128 : (Jvm.Cond.selects "RateGate" ({ cls := "RateGate", name := "weigh", desc := "(II)I" } : Jvm.MethodName) ({ cls := "RateGate", name := "weigh", desc := "(II)I" } : Jvm.MethodName)) ∈ TB := tB5 128 (by rfl) (by rfl)
theorem tw_5_129 : (Jvm.Cond.code ({ cls := "RateGate", name := "weigh", desc := "(II)I" } : Jvm.MethodName) prog_1_method_20_code (5 : Nat) (Option.some Jvm.ClassFile.FieldType.int)) ∈ TB := tB5 129 (by rfl) (by rfl)
theorem tw_5_130 : (Jvm.Cond.methodLink "RateGate" (225 : Nat) ({ cls := "RateGate", name := "parcelAt", desc := "(I)LRateGate$Parcel;" } : Jvm.MethodName)) ∈ TB := tB5 130 (by rfl) (by rfl)
theorem tw_5_132 : (Jvm.Cond.instanceMethod ({ cls := "RateGate", name := "parcelAt", desc := "(I)LRateGate$Parcel;" } : Jvm.MethodName)) ∈ TB := tB5 132 (by rfl) (by rfl)
theorem tw_5_133 : (Jvm.Cond.code ({ cls := "RateGate", name := "parcelAt", desc := "(I)LRateGate$Parcel;" } : Jvm.MethodName) prog_1_method_31_code (2 : Nat) (Option.some (Jvm.ClassFile.FieldType.object "RateGate$Parcel"))) ∈ TB := tB5 133 (by rfl) (by rfl)
theorem tw_5_137 : (Jvm.Cond.methodLink "RateGateLaw" (164 : Nat) ({ cls := "RateGateLaw", name := "cancel", desc := "(LRateGate;I[J)I" } : Jvm.MethodName)) ∈ TB := tB5 137 (by rfl) (by rfl)
theorem tw_5_138 : (Jvm.Cond.static ({ cls := "RateGateLaw", name := "cancel", desc := "(LRateGate;I[J)I" } : Jvm.MethodName)) ∈ TB := tB5 138 (by rfl) (by rfl)
theorem tw_5_140 : (Jvm.Cond.methodLink "RateGateLaw" (68 : Nat) ({ cls := "RateGate", name := "cancel", desc := "(I)I" } : Jvm.MethodName)) ∈ TB := tB5 140 (by rfl) (by rfl)
theorem tw_5_141 : (Jvm.Cond.instanceMethod ({ cls := "RateGate", name := "cancel", desc := "(I)I" } : Jvm.MethodName)) ∈ TB := tB5 141 (by rfl) (by rfl)
theorem tw_5_142 : (Jvm.Cond.selects "RateGate" ({ cls := "RateGate", name := "cancel", desc := "(I)I" } : Jvm.MethodName) ({ cls := "RateGate", name := "cancel", desc := "(I)I" } : Jvm.MethodName)) ∈ TB := tB5 142 (by rfl) (by rfl)
theorem tw_5_143 : (Jvm.Cond.code ({ cls := "RateGate", name := "cancel", desc := "(I)I" } : Jvm.MethodName) prog_1_method_21_code (3 : Nat) (Option.some Jvm.ClassFile.FieldType.int)) ∈ TB := tB5 143 (by rfl) (by rfl)
theorem tw_5_144 : (Jvm.Cond.methodLink "RateGate" (243 : Nat) ({ cls := "RateGate$Parcel", name := "isSettledAt", desc := "(I)Z" } : Jvm.MethodName)) ∈ TB := tB5 144 (by rfl) (by rfl)
theorem tw_5_145 : (Jvm.Cond.instanceMethod ({ cls := "RateGate$Parcel", name := "isSettledAt", desc := "(I)Z" } : Jvm.MethodName)) ∈ TB := tB5 145 (by rfl) (by rfl)
theorem tw_5_146 : (Jvm.Cond.selects "RateGate$Parcel" ({ cls := "RateGate$Parcel", name := "isSettledAt", desc := "(I)Z" } : Jvm.MethodName) ({ cls := "RateGate$Parcel", name := "isSettledAt", desc := "(I)Z" } : Jvm.MethodName)) ∈ TB := tB5 146 (by rfl) (by rfl)
theorem tw_5_147 : (Jvm.Cond.code ({ cls := "RateGate$Parcel", name := "isSettledAt", desc := "(I)Z" } : Jvm.MethodName) prog_4_method_2_code (2 : Nat) (Option.some Jvm.ClassFile.FieldType.boolean)) ∈ TB := tB5 147 (by rfl) (by rfl)
theorem tw_5_149 : (Jvm.Cond.methodLink "RateGateLaw" (167 : Nat) ({ cls := "RateGateLaw", name := "state", desc := "(LRateGate;I[J)I" } : Jvm.MethodName)) ∈ TB := tB5 149 (by rfl) (by rfl)
theorem tw_5_150 : (Jvm.Cond.static ({ cls := "RateGateLaw", name := "state", desc := "(LRateGate;I[J)I" } : Jvm.MethodName)) ∈ TB := tB5 150 (by rfl) (by rfl)
theorem tw_5_152 : (Jvm.Cond.methodLink "RateGateLaw" (71 : Nat) ({ cls := "RateGate", name := "state", desc := "(I)I" } : Jvm.MethodName)) ∈ TB := tB5 152 (by rfl) (by rfl)
theorem tw_5_153 : (Jvm.Cond.instanceMethod ({ cls := "RateGate", name := "state", desc := "(I)I" } : Jvm.MethodName)) ∈ TB := tB5 153 (by rfl) (by rfl)
theorem tw_5_154 : (Jvm.Cond.selects "RateGate" ({ cls := "RateGate", name := "state", desc := "(I)I" } : Jvm.MethodName) ({ cls := "RateGate", name := "state", desc := "(I)I" } : Jvm.MethodName)) ∈ TB := tB5 154 (by rfl) (by rfl)
theorem tw_5_155 : (Jvm.Cond.code ({ cls := "RateGate", name := "state", desc := "(I)I" } : Jvm.MethodName) prog_1_method_22_code (2 : Nat) (Option.some Jvm.ClassFile.FieldType.int)) ∈ TB := tB5 155 (by rfl) (by rfl)
theorem tw_5_156 : (Jvm.Cond.methodLink "RateGateLaw" (170 : Nat) ({ cls := "RateGateLaw", name := "cost", desc := "(LRateGate;I[J)I" } : Jvm.MethodName)) ∈ TB := tB5 156 (by rfl) (by rfl)
theorem tw_5_157 : (Jvm.Cond.static ({ cls := "RateGateLaw", name := "cost", desc := "(LRateGate;I[J)I" } : Jvm.MethodName)) ∈ TB := tB5 157 (by rfl) (by rfl)
theorem tw_5_159 : (Jvm.Cond.methodLink "RateGateLaw" (74 : Nat) ({ cls := "RateGate", name := "cost", desc := "(I)I" } : Jvm.MethodName)) ∈ TB := tB5 159 (by rfl) (by rfl)
theorem tw_5_160 : (Jvm.Cond.instanceMethod ({ cls := "RateGate", name := "cost", desc := "(I)I" } : Jvm.MethodName)) ∈ TB := tB5 160 (by rfl) (by rfl)
theorem tw_5_161 : (Jvm.Cond.selects "RateGate" ({ cls := "RateGate", name := "cost", desc := "(I)I" } : Jvm.MethodName) ({ cls := "RateGate", name := "cost", desc := "(I)I" } : Jvm.MethodName)) ∈ TB := tB5 161 (by rfl) (by rfl)
theorem tw_5_162 : (Jvm.Cond.code ({ cls := "RateGate", name := "cost", desc := "(I)I" } : Jvm.MethodName) prog_1_method_23_code (2 : Nat) (Option.some Jvm.ClassFile.FieldType.int)) ∈ TB := tB5 162 (by rfl) (by rfl)
theorem tw_5_163 : (Jvm.Cond.methodLink "RateGateLaw" (173 : Nat) ({ cls := "RateGateLaw", name := "bill", desc := "(LRateGate;I[J)I" } : Jvm.MethodName)) ∈ TB := tB5 163 (by rfl) (by rfl)
theorem tw_5_164 : (Jvm.Cond.static ({ cls := "RateGateLaw", name := "bill", desc := "(LRateGate;I[J)I" } : Jvm.MethodName)) ∈ TB := tB5 164 (by rfl) (by rfl)
theorem tw_5_166 : (Jvm.Cond.methodLink "RateGateLaw" (77 : Nat) ({ cls := "RateGate", name := "bill", desc := "(I)I" } : Jvm.MethodName)) ∈ TB := tB5 166 (by rfl) (by rfl)
theorem tw_5_167 : (Jvm.Cond.instanceMethod ({ cls := "RateGate", name := "bill", desc := "(I)I" } : Jvm.MethodName)) ∈ TB := tB5 167 (by rfl) (by rfl)
theorem tw_5_168 : (Jvm.Cond.selects "RateGate" ({ cls := "RateGate", name := "bill", desc := "(I)I" } : Jvm.MethodName) ({ cls := "RateGate", name := "bill", desc := "(I)I" } : Jvm.MethodName)) ∈ TB := tB5 168 (by rfl) (by rfl)
theorem tw_5_169 : (Jvm.Cond.code ({ cls := "RateGate", name := "bill", desc := "(I)I" } : Jvm.MethodName) prog_1_method_24_code (2 : Nat) (Option.some Jvm.ClassFile.FieldType.int)) ∈ TB := tB5 169 (by rfl) (by rfl)
theorem tw_5_170 : (Jvm.Cond.methodLink "RateGate" (251 : Nat) ({ cls := "RateGate", name := "dueParcelCosts", desc := "(I)I" } : Jvm.MethodName)) ∈ TB := tB5 170 (by rfl) (by rfl)
theorem tw_5_172 : (Jvm.Cond.instanceMethod ({ cls := "RateGate", name := "dueParcelCosts", desc := "(I)I" } : Jvm.MethodName)) ∈ TB := tB5 172 (by rfl) (by rfl)
theorem tw_5_173 : (Jvm.Cond.code ({ cls := "RateGate", name := "dueParcelCosts", desc := "(I)I" } : Jvm.MethodName) prog_1_method_35_code (5 : Nat) (Option.some Jvm.ClassFile.FieldType.int)) ∈ TB := tB5 173 (by rfl) (by rfl)
theorem tw_5_174 : (Jvm.Cond.methodLink "RateGate" (293 : Nat) ({ cls := "RateGate$Parcel", name := "isDueFrom", desc := "(II)Z" } : Jvm.MethodName)) ∈ TB := tB5 174 (by rfl) (by rfl)
theorem tw_5_175 : (Jvm.Cond.instanceMethod ({ cls := "RateGate$Parcel", name := "isDueFrom", desc := "(II)Z" } : Jvm.MethodName)) ∈ TB := tB5 175 (by rfl) (by rfl)
theorem tw_5_176 : (Jvm.Cond.selects "RateGate$Parcel" ({ cls := "RateGate$Parcel", name := "isDueFrom", desc := "(II)Z" } : Jvm.MethodName) ({ cls := "RateGate$Parcel", name := "isDueFrom", desc := "(II)Z" } : Jvm.MethodName)) ∈ TB := tB5 176 (by rfl) (by rfl)
theorem tw_5_177 : (Jvm.Cond.code ({ cls := "RateGate$Parcel", name := "isDueFrom", desc := "(II)Z" } : Jvm.MethodName) prog_4_method_3_code (3 : Nat) (Option.some Jvm.ClassFile.FieldType.boolean)) ∈ TB := tB5 177 (by rfl) (by rfl)
theorem tw_5_178 : (Jvm.Cond.methodLink "RateGate$Parcel" (30 : Nat) ({ cls := "RateGate$Parcel", name := "isSettledAt", desc := "(I)Z" } : Jvm.MethodName)) ∈ TB := tB5 178 (by rfl) (by rfl)
theorem tw_5_179 : (Jvm.Cond.methodLink "RateGateLaw" (176 : Nat) ({ cls := "RateGateLaw", name := "close", desc := "(LRateGate;I[J)I" } : Jvm.MethodName)) ∈ TB := tB5 179 (by rfl) (by rfl)
theorem tw_5_180 : (Jvm.Cond.static ({ cls := "RateGateLaw", name := "close", desc := "(LRateGate;I[J)I" } : Jvm.MethodName)) ∈ TB := tB5 180 (by rfl) (by rfl)
theorem tw_5_182 : (Jvm.Cond.methodLink "RateGateLaw" (80 : Nat) ({ cls := "RateGate", name := "close", desc := "(I)I" } : Jvm.MethodName)) ∈ TB := tB5 182 (by rfl) (by rfl)
theorem tw_5_183 : (Jvm.Cond.instanceMethod ({ cls := "RateGate", name := "close", desc := "(I)I" } : Jvm.MethodName)) ∈ TB := tB5 183 (by rfl) (by rfl)
theorem tw_5_184 : (Jvm.Cond.selects "RateGate" ({ cls := "RateGate", name := "close", desc := "(I)I" } : Jvm.MethodName) ({ cls := "RateGate", name := "close", desc := "(I)I" } : Jvm.MethodName)) ∈ TB := tB5 184 (by rfl) (by rfl)
theorem tw_5_185 : (Jvm.Cond.code ({ cls := "RateGate", name := "close", desc := "(I)I" } : Jvm.MethodName) prog_1_method_25_code (4 : Nat) (Option.some Jvm.ClassFile.FieldType.int)) ∈ TB := tB5 185 (by rfl) (by rfl)
theorem tw_5_186 : (Jvm.Cond.methodLink "RateGate" (254 : Nat) ({ cls := "RateGate", name := "markDueParcels", desc := "(I)V" } : Jvm.MethodName)) ∈ TB := tB5 186 (by rfl) (by rfl)
theorem tw_5_188 : (Jvm.Cond.instanceMethod ({ cls := "RateGate", name := "markDueParcels", desc := "(I)V" } : Jvm.MethodName)) ∈ TB := tB5 188 (by rfl) (by rfl)
theorem tw_5_189 : (Jvm.Cond.code ({ cls := "RateGate", name := "markDueParcels", desc := "(I)V" } : Jvm.MethodName) prog_1_method_36_code (4 : Nat) (Option.none : Option Jvm.ClassFile.FieldType)) ∈ TB := tB5 189 (by rfl) (by rfl)
theorem tw_5_190 : (Jvm.Cond.methodLink "RateGateLaw" (179 : Nat) ({ cls := "RateGateLaw", name := "billed", desc := "(LRateGate;I[J)I" } : Jvm.MethodName)) ∈ TB := tB5 190 (by rfl) (by rfl)
theorem tw_5_191 : (Jvm.Cond.static ({ cls := "RateGateLaw", name := "billed", desc := "(LRateGate;I[J)I" } : Jvm.MethodName)) ∈ TB := tB5 191 (by rfl) (by rfl)
theorem tw_5_193 : (Jvm.Cond.methodLink "RateGateLaw" (83 : Nat) ({ cls := "RateGate", name := "billed", desc := "(I)I" } : Jvm.MethodName)) ∈ TB := tB5 193 (by rfl) (by rfl)
theorem tw_5_194 : (Jvm.Cond.instanceMethod ({ cls := "RateGate", name := "billed", desc := "(I)I" } : Jvm.MethodName)) ∈ TB := tB5 194 (by rfl) (by rfl)
theorem tw_5_195 : (Jvm.Cond.selects "RateGate" ({ cls := "RateGate", name := "billed", desc := "(I)I" } : Jvm.MethodName) ({ cls := "RateGate", name := "billed", desc := "(I)I" } : Jvm.MethodName)) ∈ TB := tB5 195 (by rfl) (by rfl)
theorem tw_5_196 : (Jvm.Cond.code ({ cls := "RateGate", name := "billed", desc := "(I)I" } : Jvm.MethodName) prog_1_method_26_code (2 : Nat) (Option.some Jvm.ClassFile.FieldType.int)) ∈ TB := tB5 196 (by rfl) (by rfl)
theorem tw_5_197 : (Jvm.Cond.classLink "RateGateLaw" (87 : Nat) "RateGateModel") ∈ TB := tB5 197 (by rfl) (by rfl)
theorem tw_5_198 : (Jvm.Cond.instantiable "RateGateModel" (47 : Nat)) ∈ TB := tB5 198 (by rfl) (by rfl)
theorem tw_5_199 : (Jvm.Cond.methodLink "RateGateLaw" (89 : Nat) ({ cls := "RateGateModel", name := "<init>", desc := "()V" } : Jvm.MethodName)) ∈ TB := tB5 199 (by rfl) (by rfl)
theorem tw_5_200 : (Jvm.Cond.instanceMethod ({ cls := "RateGateModel", name := "<init>", desc := "()V" } : Jvm.MethodName)) ∈ TB := tB5 200 (by rfl) (by rfl)
theorem tw_5_201 : (Jvm.Cond.code ({ cls := "RateGateModel", name := "<init>", desc := "()V" } : Jvm.MethodName) prog_10_method_1_code (2 : Nat) (Option.none : Option Jvm.ClassFile.FieldType)) ∈ TB := tB5 201 (by rfl) (by rfl)
theorem tw_5_202 : (Jvm.Cond.methodLink "RateGateModel" (1 : Nat) ({ cls := "java/lang/Object", name := "<init>", desc := "()V" } : Jvm.MethodName)) ∈ TB := tB5 202 (by rfl) (by rfl)
theorem tw_5_203 : (Jvm.Cond.fieldLink "RateGateModel" (123 : Nat) "RateGateModel" "thrown" "I") ∈ TB := tB5 203 (by rfl) (by rfl)
theorem tw_5_204 : (Jvm.Cond.fieldLink "RateGateModel" (168 : Nat) "RateGateModel" "now" "I") ∈ TB := tB5 204 (by rfl) (by rfl)
theorem tw_5_205 : (Jvm.Cond.fieldLink "RateGateModel" (7 : Nat) "RateGateModel" "text" "[C") ∈ TB := tB5 205 (by rfl) (by rfl)
theorem tw_5_206 : (Jvm.Cond.fieldLink "RateGateModel" (131 : Nat) "RateGateModel" "length" "I") ∈ TB := tB5 206 (by rfl) (by rfl)
theorem tw_5_207 : (Jvm.Cond.fieldLink "RateGateModel" (13 : Nat) "RateGateModel" "keys" "[C") ∈ TB := tB5 207 (by rfl) (by rfl)
theorem tw_5_208 : (Jvm.Cond.fieldLink "RateGateModel" (16 : Nat) "RateGateModel" "words" "[C") ∈ TB := tB5 208 (by rfl) (by rfl)
theorem tw_5_209 : (Jvm.Cond.fieldLink "RateGateModel" (19 : Nat) "RateGateModel" "values" "[I") ∈ TB := tB5 209 (by rfl) (by rfl)
theorem tw_5_210 : (Jvm.Cond.fieldLink "RateGateModel" (138 : Nat) "RateGateModel" "fault" "I") ∈ TB := tB5 210 (by rfl) (by rfl)
theorem tw_5_211 : (Jvm.Cond.fieldLink "RateGateModel" (141 : Nat) "RateGateModel" "faultAt" "I") ∈ TB := tB5 211 (by rfl) (by rfl)
theorem tw_5_212 : (Jvm.Cond.fieldLink "RateGateModel" (23 : Nat) "RateGateModel" "told" "[C") ∈ TB := tB5 212 (by rfl) (by rfl)
theorem tw_5_213 : (Jvm.Cond.fieldLink "RateGateModel" (158 : Nat) "RateGateModel" "toldLength" "I") ∈ TB := tB5 213 (by rfl) (by rfl)
theorem tw_5_214 : (Jvm.Cond.fieldLink "RateGateModel" (26 : Nat) "RateGateModel" "quota" "[I") ∈ TB := tB5 214 (by rfl) (by rfl)
theorem tw_5_215 : (Jvm.Cond.fieldLink "RateGateModel" (29 : Nat) "RateGateModel" "window" "[I") ∈ TB := tB5 215 (by rfl) (by rfl)
theorem tw_5_216 : (Jvm.Cond.fieldLink "RateGateModel" (32 : Nat) "RateGateModel" "isDown" "[Z") ∈ TB := tB5 216 (by rfl) (by rfl)
theorem tw_5_217 : (Jvm.Cond.fieldLink "RateGateModel" (36 : Nat) "RateGateModel" "flaw" "[I") ∈ TB := tB5 217 (by rfl) (by rfl)
theorem tw_5_218 : (Jvm.Cond.fieldLink "RateGateModel" (39 : Nat) "RateGateModel" "tries" "[I") ∈ TB := tB5 218 (by rfl) (by rfl)
theorem tw_5_219 : (Jvm.Cond.fieldLink "RateGateModel" (42 : Nat) "RateGateModel" "fails" "[I") ∈ TB := tB5 219 (by rfl) (by rfl)
theorem tw_5_220 : (Jvm.Cond.fieldLink "RateGateModel" (45 : Nat) "RateGateModel" "isShut" "[Z") ∈ TB := tB5 220 (by rfl) (by rfl)
theorem tw_5_221 : (Jvm.Cond.fieldLink "RateGateModel" (48 : Nat) "RateGateModel" "openUntil" "[I") ∈ TB := tB5 221 (by rfl) (by rfl)
theorem tw_5_222 : (Jvm.Cond.fieldLink "RateGateModel" (51 : Nat) "RateGateModel" "base" "[I") ∈ TB := tB5 222 (by rfl) (by rfl)
theorem tw_5_223 : (Jvm.Cond.fieldLink "RateGateModel" (54 : Nat) "RateGateModel" "zone" "[I") ∈ TB := tB5 223 (by rfl) (by rfl)
theorem tw_5_224 : (Jvm.Cond.fieldLink "RateGateModel" (57 : Nat) "RateGateModel" "weight" "[I") ∈ TB := tB5 224 (by rfl) (by rfl)
theorem tw_5_225 : (Jvm.Cond.fieldLink "RateGateModel" (195 : Nat) "RateGateModel" "calls" "I") ∈ TB := tB5 225 (by rfl) (by rfl)
theorem tw_5_226 : (Jvm.Cond.fieldLink "RateGateModel" (185 : Nat) "RateGateModel" "counted" "I") ∈ TB := tB5 226 (by rfl) (by rfl)
theorem tw_5_227 : (Jvm.Cond.fieldLink "RateGateModel" (60 : Nat) "RateGateModel" "countedMinute" "[I") ∈ TB := tB5 227 (by rfl) (by rfl)
theorem tw_5_228 : (Jvm.Cond.fieldLink "RateGateModel" (63 : Nat) "RateGateModel" "countedShipper" "[I") ∈ TB := tB5 228 (by rfl) (by rfl)
theorem tw_5_229 : (Jvm.Cond.fieldLink "RateGateModel" (66 : Nat) "RateGateModel" "costs" "[I") ∈ TB := tB5 229 (by rfl) (by rfl)
theorem tw_5_230 : (Jvm.Cond.fieldLink "RateGateModel" (69 : Nat) "RateGateModel" "billed" "[I") ∈ TB := tB5 230 (by rfl) (by rfl)
theorem tw_5_231 : (Jvm.Cond.fieldLink "RateGateModel" (72 : Nat) "RateGateModel" "fixedEnd" "[I") ∈ TB := tB5 231 (by rfl) (by rfl)
theorem tw_5_232 : (Jvm.Cond.fieldLink "RateGateModel" (75 : Nat) "RateGateModel" "fixedBase" "[I") ∈ TB := tB5 232 (by rfl) (by rfl)
theorem tw_5_233 : (Jvm.Cond.fieldLink "RateGateModel" (78 : Nat) "RateGateModel" "fixedZone" "[I") ∈ TB := tB5 233 (by rfl) (by rfl)
theorem tw_5_234 : (Jvm.Cond.fieldLink "RateGateModel" (81 : Nat) "RateGateModel" "fixedWeight" "[I") ∈ TB := tB5 234 (by rfl) (by rfl)
theorem tw_5_235 : (Jvm.Cond.fieldLink "RateGateModel" (192 : Nat) "RateGateModel" "quotes" "I") ∈ TB := tB5 235 (by rfl) (by rfl)
theorem tw_5_236 : (Jvm.Cond.fieldLink "RateGateModel" (84 : Nat) "RateGateModel" "quoteShipper" "[I") ∈ TB := tB5 236 (by rfl) (by rfl)
theorem tw_5_237 : (Jvm.Cond.fieldLink "RateGateModel" (87 : Nat) "RateGateModel" "quoteCarrier" "[I") ∈ TB := tB5 237 (by rfl) (by rfl)
theorem tw_5_238 : (Jvm.Cond.fieldLink "RateGateModel" (90 : Nat) "RateGateModel" "quoteApart" "[I") ∈ TB := tB5 238 (by rfl) (by rfl)
theorem tw_5_239 : (Jvm.Cond.fieldLink "RateGateModel" (93 : Nat) "RateGateModel" "quoteGrams" "[I") ∈ TB := tB5 239 (by rfl) (by rfl)
theorem tw_6_0 : (Jvm.Cond.fieldLink "RateGateModel" (96 : Nat) "RateGateModel" "isExpress" "[Z") ∈ TB := tB6 0 (by rfl) (by rfl)
theorem tw_6_1 : (Jvm.Cond.fieldLink "RateGateModel" (99 : Nat) "RateGateModel" "quoteBase" "[I") ∈ TB := tB6 1 (by rfl) (by rfl)
theorem tw_6_2 : (Jvm.Cond.fieldLink "RateGateModel" (102 : Nat) "RateGateModel" "quoteZone" "[I") ∈ TB := tB6 2 (by rfl) (by rfl)
theorem tw_6_3 : (Jvm.Cond.fieldLink "RateGateModel" (105 : Nat) "RateGateModel" "quoteWeight" "[I") ∈ TB := tB6 3 (by rfl) (by rfl)
theorem tw_6_4 : (Jvm.Cond.fieldLink "RateGateModel" (108 : Nat) "RateGateModel" "quoteEnd" "[I") ∈ TB := tB6 4 (by rfl) (by rfl)
theorem tw_6_5 : (Jvm.Cond.fieldLink "RateGateModel" (216 : Nat) "RateGateModel" "parcels" "I") ∈ TB := tB6 5 (by rfl) (by rfl)
theorem tw_6_6 : (Jvm.Cond.fieldLink "RateGateModel" (111 : Nat) "RateGateModel" "parcelQuote" "[I") ∈ TB := tB6 6 (by rfl) (by rfl)
theorem tw_6_7 : (Jvm.Cond.fieldLink "RateGateModel" (114 : Nat) "RateGateModel" "bookedAt" "[I") ∈ TB := tB6 7 (by rfl) (by rfl)
theorem tw_6_8 : (Jvm.Cond.fieldLink "RateGateModel" (117 : Nat) "RateGateModel" "cost" "[I") ∈ TB := tB6 8 (by rfl) (by rfl)
theorem tw_6_9 : (Jvm.Cond.fieldLink "RateGateModel" (120 : Nat) "RateGateModel" "state" "[I") ∈ TB := tB6 9 (by rfl) (by rfl)
theorem tw_6_10 : (Jvm.Cond.lays "RateGateModel" "RateGateModel" "thrown" "I") ∈ TB := tB6 10 (by rfl) (by rfl)
theorem tw_6_12 : (Jvm.Cond.lays "RateGateModel" "RateGateModel" "now" "I") ∈ TB := tB6 12 (by rfl) (by rfl)
theorem tw_6_14 : (Jvm.Cond.laysFinal "RateGateModel" "RateGateModel" "text" "[C") ∈ TB := tB6 14 (by rfl) (by rfl)
theorem tw_6_16 : (Jvm.Cond.lays "RateGateModel" "RateGateModel" "length" "I") ∈ TB := tB6 16 (by rfl) (by rfl)
theorem tw_6_18 : (Jvm.Cond.laysFinal "RateGateModel" "RateGateModel" "keys" "[C") ∈ TB := tB6 18 (by rfl) (by rfl)
theorem tw_6_20 : (Jvm.Cond.laysFinal "RateGateModel" "RateGateModel" "words" "[C") ∈ TB := tB6 20 (by rfl) (by rfl)
theorem tw_6_22 : (Jvm.Cond.laysFinal "RateGateModel" "RateGateModel" "values" "[I") ∈ TB := tB6 22 (by rfl) (by rfl)
theorem tw_6_24 : (Jvm.Cond.lays "RateGateModel" "RateGateModel" "fault" "I") ∈ TB := tB6 24 (by rfl) (by rfl)
theorem tw_6_26 : (Jvm.Cond.lays "RateGateModel" "RateGateModel" "faultAt" "I") ∈ TB := tB6 26 (by rfl) (by rfl)
theorem tw_6_28 : (Jvm.Cond.laysFinal "RateGateModel" "RateGateModel" "told" "[C") ∈ TB := tB6 28 (by rfl) (by rfl)
theorem tw_6_30 : (Jvm.Cond.lays "RateGateModel" "RateGateModel" "toldLength" "I") ∈ TB := tB6 30 (by rfl) (by rfl)
theorem tw_6_32 : (Jvm.Cond.laysFinal "RateGateModel" "RateGateModel" "quota" "[I") ∈ TB := tB6 32 (by rfl) (by rfl)
theorem tw_6_34 : (Jvm.Cond.laysFinal "RateGateModel" "RateGateModel" "window" "[I") ∈ TB := tB6 34 (by rfl) (by rfl)
theorem tw_6_36 : (Jvm.Cond.laysFinal "RateGateModel" "RateGateModel" "isDown" "[Z") ∈ TB := tB6 36 (by rfl) (by rfl)
theorem tw_6_38 : (Jvm.Cond.laysFinal "RateGateModel" "RateGateModel" "flaw" "[I") ∈ TB := tB6 38 (by rfl) (by rfl)
theorem tw_6_40 : (Jvm.Cond.laysFinal "RateGateModel" "RateGateModel" "tries" "[I") ∈ TB := tB6 40 (by rfl) (by rfl)
theorem tw_6_42 : (Jvm.Cond.laysFinal "RateGateModel" "RateGateModel" "fails" "[I") ∈ TB := tB6 42 (by rfl) (by rfl)
theorem tw_6_44 : (Jvm.Cond.laysFinal "RateGateModel" "RateGateModel" "isShut" "[Z") ∈ TB := tB6 44 (by rfl) (by rfl)
theorem tw_6_46 : (Jvm.Cond.laysFinal "RateGateModel" "RateGateModel" "openUntil" "[I") ∈ TB := tB6 46 (by rfl) (by rfl)
theorem tw_6_48 : (Jvm.Cond.laysFinal "RateGateModel" "RateGateModel" "base" "[I") ∈ TB := tB6 48 (by rfl) (by rfl)
theorem tw_6_50 : (Jvm.Cond.laysFinal "RateGateModel" "RateGateModel" "zone" "[I") ∈ TB := tB6 50 (by rfl) (by rfl)
theorem tw_6_52 : (Jvm.Cond.laysFinal "RateGateModel" "RateGateModel" "weight" "[I") ∈ TB := tB6 52 (by rfl) (by rfl)
theorem tw_6_54 : (Jvm.Cond.lays "RateGateModel" "RateGateModel" "calls" "I") ∈ TB := tB6 54 (by rfl) (by rfl)
theorem tw_6_56 : (Jvm.Cond.lays "RateGateModel" "RateGateModel" "counted" "I") ∈ TB := tB6 56 (by rfl) (by rfl)
theorem tw_6_58 : (Jvm.Cond.laysFinal "RateGateModel" "RateGateModel" "countedMinute" "[I") ∈ TB := tB6 58 (by rfl) (by rfl)
theorem tw_6_60 : (Jvm.Cond.laysFinal "RateGateModel" "RateGateModel" "countedShipper" "[I") ∈ TB := tB6 60 (by rfl) (by rfl)
theorem tw_6_62 : (Jvm.Cond.laysFinal "RateGateModel" "RateGateModel" "costs" "[I") ∈ TB := tB6 62 (by rfl) (by rfl)
theorem tw_6_64 : (Jvm.Cond.laysFinal "RateGateModel" "RateGateModel" "billed" "[I") ∈ TB := tB6 64 (by rfl) (by rfl)
theorem tw_6_66 : (Jvm.Cond.laysFinal "RateGateModel" "RateGateModel" "fixedEnd" "[I") ∈ TB := tB6 66 (by rfl) (by rfl)
theorem tw_6_68 : (Jvm.Cond.laysFinal "RateGateModel" "RateGateModel" "fixedBase" "[I") ∈ TB := tB6 68 (by rfl) (by rfl)
theorem tw_6_70 : (Jvm.Cond.laysFinal "RateGateModel" "RateGateModel" "fixedZone" "[I") ∈ TB := tB6 70 (by rfl) (by rfl)
theorem tw_6_72 : (Jvm.Cond.laysFinal "RateGateModel" "RateGateModel" "fixedWeight" "[I") ∈ TB := tB6 72 (by rfl) (by rfl)
theorem tw_6_74 : (Jvm.Cond.lays "RateGateModel" "RateGateModel" "quotes" "I") ∈ TB := tB6 74 (by rfl) (by rfl)
theorem tw_6_76 : (Jvm.Cond.laysFinal "RateGateModel" "RateGateModel" "quoteShipper" "[I") ∈ TB := tB6 76 (by rfl) (by rfl)
theorem tw_6_78 : (Jvm.Cond.laysFinal "RateGateModel" "RateGateModel" "quoteCarrier" "[I") ∈ TB := tB6 78 (by rfl) (by rfl)
theorem tw_6_80 : (Jvm.Cond.laysFinal "RateGateModel" "RateGateModel" "quoteApart" "[I") ∈ TB := tB6 80 (by rfl) (by rfl)
theorem tw_6_82 : (Jvm.Cond.laysFinal "RateGateModel" "RateGateModel" "quoteGrams" "[I") ∈ TB := tB6 82 (by rfl) (by rfl)
theorem tw_6_84 : (Jvm.Cond.laysFinal "RateGateModel" "RateGateModel" "isExpress" "[Z") ∈ TB := tB6 84 (by rfl) (by rfl)
theorem tw_6_86 : (Jvm.Cond.laysFinal "RateGateModel" "RateGateModel" "quoteBase" "[I") ∈ TB := tB6 86 (by rfl) (by rfl)
theorem tw_6_88 : (Jvm.Cond.laysFinal "RateGateModel" "RateGateModel" "quoteZone" "[I") ∈ TB := tB6 88 (by rfl) (by rfl)
theorem tw_6_90 : (Jvm.Cond.laysFinal "RateGateModel" "RateGateModel" "quoteWeight" "[I") ∈ TB := tB6 90 (by rfl) (by rfl)
theorem tw_6_92 : (Jvm.Cond.laysFinal "RateGateModel" "RateGateModel" "quoteEnd" "[I") ∈ TB := tB6 92 (by rfl) (by rfl)
theorem tw_6_94 : (Jvm.Cond.lays "RateGateModel" "RateGateModel" "parcels" "I") ∈ TB := tB6 94 (by rfl) (by rfl)
theorem tw_6_96 : (Jvm.Cond.laysFinal "RateGateModel" "RateGateModel" "parcelQuote" "[I") ∈ TB := tB6 96 (by rfl) (by rfl)
theorem tw_6_98 : (Jvm.Cond.laysFinal "RateGateModel" "RateGateModel" "bookedAt" "[I") ∈ TB := tB6 98 (by rfl) (by rfl)
theorem tw_6_100 : (Jvm.Cond.laysFinal "RateGateModel" "RateGateModel" "cost" "[I") ∈ TB := tB6 100 (by rfl) (by rfl)
theorem tw_6_102 : (Jvm.Cond.laysFinal "RateGateModel" "RateGateModel" "state" "[I") ∈ TB := tB6 102 (by rfl) (by rfl)
theorem tw_6_104 : (Jvm.Cond.superclass "RateGateModel" "java/lang/Object") ∈ TB := tB6 104 (by rfl) (by rfl)
theorem tw_6_105 : (Jvm.Cond.methodLink "RateGateLaw" (96 : Nat) ({ cls := "RateGateModel", name := "thrown", desc := "()I" } : Jvm.MethodName)) ∈ TB := tB6 105 (by rfl) (by rfl)
theorem tw_6_106 : (Jvm.Cond.instanceMethod ({ cls := "RateGateModel", name := "thrown", desc := "()I" } : Jvm.MethodName)) ∈ TB := tB6 106 (by rfl) (by rfl)
theorem tw_6_107 : (Jvm.Cond.selects "RateGateModel" ({ cls := "RateGateModel", name := "thrown", desc := "()I" } : Jvm.MethodName) ({ cls := "RateGateModel", name := "thrown", desc := "()I" } : Jvm.MethodName)) ∈ TB := tB6 107 (by rfl) (by rfl)
theorem tw_6_108 : (Jvm.Cond.code ({ cls := "RateGateModel", name := "thrown", desc := "()I" } : Jvm.MethodName) prog_10_method_2_code (1 : Nat) (Option.some Jvm.ClassFile.FieldType.int)) ∈ TB := tB6 108 (by rfl) (by rfl)
theorem tw_6_109 : (Jvm.Cond.methodLink "RateGateLaw" (95 : Nat) ({ cls := "RateGateModel", name := "type", desc := "(C)I" } : Jvm.MethodName)) ∈ TB := tB6 109 (by rfl) (by rfl)
theorem tw_6_110 : (Jvm.Cond.instanceMethod ({ cls := "RateGateModel", name := "type", desc := "(C)I" } : Jvm.MethodName)) ∈ TB := tB6 110 (by rfl) (by rfl)
theorem tw_6_111 : (Jvm.Cond.selects "RateGateModel" ({ cls := "RateGateModel", name := "type", desc := "(C)I" } : Jvm.MethodName) ({ cls := "RateGateModel", name := "type", desc := "(C)I" } : Jvm.MethodName)) ∈ TB := tB6 111 (by rfl) (by rfl)
theorem tw_6_112 : (Jvm.Cond.code ({ cls := "RateGateModel", name := "type", desc := "(C)I" } : Jvm.MethodName) prog_10_method_4_code (3 : Nat) (Option.some Jvm.ClassFile.FieldType.int)) ∈ TB := tB6 112 (by rfl) (by rfl)
theorem tw_6_113 : (Jvm.Cond.methodLink "RateGateModel" (127 : Nat) ({ cls := "RateGateModel", name := "isIn", desc := "(III)Z" } : Jvm.MethodName)) ∈ TB := tB6 113 (by rfl) (by rfl)
theorem tw_6_114 : (Jvm.Cond.static ({ cls := "RateGateModel", name := "isIn", desc := "(III)Z" } : Jvm.MethodName)) ∈ TB := tB6 114 (by rfl) (by rfl)
theorem tw_6_115 : (Jvm.Cond.code ({ cls := "RateGateModel", name := "isIn", desc := "(III)Z" } : Jvm.MethodName) prog_10_method_3_code (3 : Nat) (Option.some Jvm.ClassFile.FieldType.boolean)) ∈ TB := tB6 115 (by rfl) (by rfl)
theorem tw_6_116 : (Jvm.Cond.methodLink "RateGateLaw" (102 : Nat) ({ cls := "RateGateModel", name := "wipe", desc := "()I" } : Jvm.MethodName)) ∈ TB := tB6 116 (by rfl) (by rfl)
theorem tw_6_117 : (Jvm.Cond.instanceMethod ({ cls := "RateGateModel", name := "wipe", desc := "()I" } : Jvm.MethodName)) ∈ TB := tB6 117 (by rfl) (by rfl)
theorem tw_6_118 : (Jvm.Cond.selects "RateGateModel" ({ cls := "RateGateModel", name := "wipe", desc := "()I" } : Jvm.MethodName) ({ cls := "RateGateModel", name := "wipe", desc := "()I" } : Jvm.MethodName)) ∈ TB := tB6 118 (by rfl) (by rfl)
theorem tw_6_119 : (Jvm.Cond.code ({ cls := "RateGateModel", name := "wipe", desc := "()I" } : Jvm.MethodName) prog_10_method_5_code (2 : Nat) (Option.some Jvm.ClassFile.FieldType.int)) ∈ TB := tB6 119 (by rfl) (by rfl)
theorem tw_6_120 : (Jvm.Cond.methodLink "RateGateLaw" (107 : Nat) ({ cls := "RateGateModel", name := "isRight", desc := "()Z" } : Jvm.MethodName)) ∈ TB := tB6 120 (by rfl) (by rfl)
theorem tw_6_121 : (Jvm.Cond.instanceMethod ({ cls := "RateGateModel", name := "isRight", desc := "()Z" } : Jvm.MethodName)) ∈ TB := tB6 121 (by rfl) (by rfl)
theorem tw_6_122 : (Jvm.Cond.selects "RateGateModel" ({ cls := "RateGateModel", name := "isRight", desc := "()Z" } : Jvm.MethodName) ({ cls := "RateGateModel", name := "isRight", desc := "()Z" } : Jvm.MethodName)) ∈ TB := tB6 122 (by rfl) (by rfl)
theorem tw_6_123 : (Jvm.Cond.code ({ cls := "RateGateModel", name := "isRight", desc := "()Z" } : Jvm.MethodName) prog_10_method_13_code (1 : Nat) (Option.some Jvm.ClassFile.FieldType.boolean)) ∈ TB := tB6 123 (by rfl) (by rfl)
theorem tw_6_124 : (Jvm.Cond.methodLink "RateGateModel" (161 : Nat) ({ cls := "RateGateModel", name := "reads", desc := "()Z" } : Jvm.MethodName)) ∈ TB := tB6 124 (by rfl) (by rfl)
theorem tw_6_126 : (Jvm.Cond.instanceMethod ({ cls := "RateGateModel", name := "reads", desc := "()Z" } : Jvm.MethodName)) ∈ TB := tB6 126 (by rfl) (by rfl)
theorem tw_6_127 : (Jvm.Cond.code ({ cls := "RateGateModel", name := "reads", desc := "()Z" } : Jvm.MethodName) prog_10_method_11_code (4 : Nat) (Option.some Jvm.ClassFile.FieldType.boolean)) ∈ TB := tB6 127 (by rfl) (by rfl)
theorem tw_6_128 : (Jvm.Cond.methodLink "RateGateModel" (154 : Nat) ({ cls := "RateGateModel", name := "readPart", desc := "(III)V" } : Jvm.MethodName)) ∈ TB := tB6 128 (by rfl) (by rfl)
theorem tw_6_130 : (Jvm.Cond.instanceMethod ({ cls := "RateGateModel", name := "readPart", desc := "(III)V" } : Jvm.MethodName)) ∈ TB := tB6 130 (by rfl) (by rfl)
theorem tw_6_131 : (Jvm.Cond.code ({ cls := "RateGateModel", name := "readPart", desc := "(III)V" } : Jvm.MethodName) prog_10_method_10_code (5 : Nat) (Option.none : Option Jvm.ClassFile.FieldType)) ∈ TB := tB6 131 (by rfl) (by rfl)
theorem tw_6_132 : (Jvm.Cond.methodLink "RateGateModel" (144 : Nat) ({ cls := "RateGateModel", name := "keyOf", desc := "(II)I" } : Jvm.MethodName)) ∈ TB := tB6 132 (by rfl) (by rfl)
theorem tw_6_134 : (Jvm.Cond.instanceMethod ({ cls := "RateGateModel", name := "keyOf", desc := "(II)I" } : Jvm.MethodName)) ∈ TB := tB6 134 (by rfl) (by rfl)
theorem tw_6_135 : (Jvm.Cond.code ({ cls := "RateGateModel", name := "keyOf", desc := "(II)I" } : Jvm.MethodName) prog_10_method_8_code (5 : Nat) (Option.some Jvm.ClassFile.FieldType.int)) ∈ TB := tB6 135 (by rfl) (by rfl)
theorem tw_6_136 : (Jvm.Cond.methodLink "RateGateModel" (148 : Nat) ({ cls := "RateGateModel", name := "fails", desc := "(II)V" } : Jvm.MethodName)) ∈ TB := tB6 136 (by rfl) (by rfl)
theorem tw_6_138 : (Jvm.Cond.instanceMethod ({ cls := "RateGateModel", name := "fails", desc := "(II)V" } : Jvm.MethodName)) ∈ TB := tB6 138 (by rfl) (by rfl)
theorem tw_6_139 : (Jvm.Cond.code ({ cls := "RateGateModel", name := "fails", desc := "(II)V" } : Jvm.MethodName) prog_10_method_9_code (3 : Nat) (Option.none : Option Jvm.ClassFile.FieldType)) ∈ TB := tB6 139 (by rfl) (by rfl)
theorem tw_6_140 : (Jvm.Cond.methodLink "RateGateModel" (151 : Nat) ({ cls := "RateGateModel", name := "valueOf", desc := "(III)I" } : Jvm.MethodName)) ∈ TB := tB6 140 (by rfl) (by rfl)
theorem tw_6_142 : (Jvm.Cond.instanceMethod ({ cls := "RateGateModel", name := "valueOf", desc := "(III)I" } : Jvm.MethodName)) ∈ TB := tB6 142 (by rfl) (by rfl)
theorem tw_6_143 : (Jvm.Cond.code ({ cls := "RateGateModel", name := "valueOf", desc := "(III)I" } : Jvm.MethodName) prog_10_method_7_code (7 : Nat) (Option.some Jvm.ClassFile.FieldType.int)) ∈ TB := tB6 143 (by rfl) (by rfl)
theorem tw_6_144 : (Jvm.Cond.methodLink "RateGateModel" (134 : Nat) ({ cls := "RateGateModel", name := "number", desc := "(III)I" } : Jvm.MethodName)) ∈ TB := tB6 144 (by rfl) (by rfl)
theorem tw_6_146 : (Jvm.Cond.instanceMethod ({ cls := "RateGateModel", name := "number", desc := "(III)I" } : Jvm.MethodName)) ∈ TB := tB6 146 (by rfl) (by rfl)
theorem tw_6_147 : (Jvm.Cond.code ({ cls := "RateGateModel", name := "number", desc := "(III)I" } : Jvm.MethodName) prog_10_method_6_code (7 : Nat) (Option.some Jvm.ClassFile.FieldType.int)) ∈ TB := tB6 147 (by rfl) (by rfl)
theorem tw_6_148 : (Jvm.Cond.methodLink "RateGateLaw" (111 : Nat) ({ cls := "RateGateModel", name := "faultLength", desc := "()I" } : Jvm.MethodName)) ∈ TB := tB6 148 (by rfl) (by rfl)
theorem tw_6_149 : (Jvm.Cond.instanceMethod ({ cls := "RateGateModel", name := "faultLength", desc := "()I" } : Jvm.MethodName)) ∈ TB := tB6 149 (by rfl) (by rfl)
theorem tw_6_150 : (Jvm.Cond.selects "RateGateModel" ({ cls := "RateGateModel", name := "faultLength", desc := "()I" } : Jvm.MethodName) ({ cls := "RateGateModel", name := "faultLength", desc := "()I" } : Jvm.MethodName)) ∈ TB := tB6 150 (by rfl) (by rfl)
theorem tw_6_151 : (Jvm.Cond.code ({ cls := "RateGateModel", name := "faultLength", desc := "()I" } : Jvm.MethodName) prog_10_method_14_code (1 : Nat) (Option.some Jvm.ClassFile.FieldType.int)) ∈ TB := tB6 151 (by rfl) (by rfl)
theorem tw_6_152 : (Jvm.Cond.methodLink "RateGateModel" (165 : Nat) ({ cls := "RateGateModel", name := "tells", desc := "()V" } : Jvm.MethodName)) ∈ TB := tB6 152 (by rfl) (by rfl)
theorem tw_6_154 : (Jvm.Cond.instanceMethod ({ cls := "RateGateModel", name := "tells", desc := "()V" } : Jvm.MethodName)) ∈ TB := tB6 154 (by rfl) (by rfl)
theorem tw_6_155 : (Jvm.Cond.code ({ cls := "RateGateModel", name := "tells", desc := "()V" } : Jvm.MethodName) prog_10_method_12_code (4 : Nat) (Option.none : Option Jvm.ClassFile.FieldType)) ∈ TB := tB6 155 (by rfl) (by rfl)
theorem tw_6_156 : (Jvm.Cond.methodLink "RateGateLaw" (115 : Nat) ({ cls := "RateGateModel", name := "fault", desc := "(I)C" } : Jvm.MethodName)) ∈ TB := tB6 156 (by rfl) (by rfl)
theorem tw_6_157 : (Jvm.Cond.instanceMethod ({ cls := "RateGateModel", name := "fault", desc := "(I)C" } : Jvm.MethodName)) ∈ TB := tB6 157 (by rfl) (by rfl)
theorem tw_6_158 : (Jvm.Cond.selects "RateGateModel" ({ cls := "RateGateModel", name := "fault", desc := "(I)C" } : Jvm.MethodName) ({ cls := "RateGateModel", name := "fault", desc := "(I)C" } : Jvm.MethodName)) ∈ TB := tB6 158 (by rfl) (by rfl)
theorem tw_6_159 : (Jvm.Cond.code ({ cls := "RateGateModel", name := "fault", desc := "(I)C" } : Jvm.MethodName) prog_10_method_15_code (2 : Nat) (Option.some Jvm.ClassFile.FieldType.char)) ∈ TB := tB6 159 (by rfl) (by rfl)
theorem tw_6_160 : (Jvm.Cond.methodLink "RateGateLaw" (118 : Nat) ({ cls := "RateGateModel", name := "pass", desc := "(I)I" } : Jvm.MethodName)) ∈ TB := tB6 160 (by rfl) (by rfl)
theorem tw_6_161 : (Jvm.Cond.instanceMethod ({ cls := "RateGateModel", name := "pass", desc := "(I)I" } : Jvm.MethodName)) ∈ TB := tB6 161 (by rfl) (by rfl)
theorem tw_6_162 : (Jvm.Cond.selects "RateGateModel" ({ cls := "RateGateModel", name := "pass", desc := "(I)I" } : Jvm.MethodName) ({ cls := "RateGateModel", name := "pass", desc := "(I)I" } : Jvm.MethodName)) ∈ TB := tB6 162 (by rfl) (by rfl)
theorem tw_6_163 : (Jvm.Cond.code ({ cls := "RateGateModel", name := "pass", desc := "(I)I" } : Jvm.MethodName) prog_10_method_16_code (2 : Nat) (Option.some Jvm.ClassFile.FieldType.int)) ∈ TB := tB6 163 (by rfl) (by rfl)
theorem tw_6_164 : (Jvm.Cond.methodLink "RateGateLaw" (122 : Nat) ({ cls := "RateGateModel", name := "quota", desc := "(III)I" } : Jvm.MethodName)) ∈ TB := tB6 164 (by rfl) (by rfl)
theorem tw_6_165 : (Jvm.Cond.instanceMethod ({ cls := "RateGateModel", name := "quota", desc := "(III)I" } : Jvm.MethodName)) ∈ TB := tB6 165 (by rfl) (by rfl)
theorem tw_6_166 : (Jvm.Cond.selects "RateGateModel" ({ cls := "RateGateModel", name := "quota", desc := "(III)I" } : Jvm.MethodName) ({ cls := "RateGateModel", name := "quota", desc := "(III)I" } : Jvm.MethodName)) ∈ TB := tB6 166 (by rfl) (by rfl)
theorem tw_6_167 : (Jvm.Cond.code ({ cls := "RateGateModel", name := "quota", desc := "(III)I" } : Jvm.MethodName) prog_10_method_19_code (5 : Nat) (Option.some Jvm.ClassFile.FieldType.int)) ∈ TB := tB6 167 (by rfl) (by rfl)
theorem tw_6_168 : (Jvm.Cond.methodLink "RateGateModel" (171 : Nat) ({ cls := "RateGateModel", name := "isShipper", desc := "(I)Z" } : Jvm.MethodName)) ∈ TB := tB6 168 (by rfl) (by rfl)
theorem tw_6_169 : (Jvm.Cond.static ({ cls := "RateGateModel", name := "isShipper", desc := "(I)Z" } : Jvm.MethodName)) ∈ TB := tB6 169 (by rfl) (by rfl)
theorem tw_6_170 : (Jvm.Cond.code ({ cls := "RateGateModel", name := "isShipper", desc := "(I)Z" } : Jvm.MethodName) prog_10_method_17_code (1 : Nat) (Option.some Jvm.ClassFile.FieldType.boolean)) ∈ TB := tB6 170 (by rfl) (by rfl)
theorem tw_6_171 : (Jvm.Cond.methodLink "RateGateLaw" (126 : Nat) ({ cls := "RateGateModel", name := "carrier", desc := "(IZI)I" } : Jvm.MethodName)) ∈ TB := tB6 171 (by rfl) (by rfl)
theorem tw_6_172 : (Jvm.Cond.instanceMethod ({ cls := "RateGateModel", name := "carrier", desc := "(IZI)I" } : Jvm.MethodName)) ∈ TB := tB6 172 (by rfl) (by rfl)
theorem tw_6_173 : (Jvm.Cond.selects "RateGateModel" ({ cls := "RateGateModel", name := "carrier", desc := "(IZI)I" } : Jvm.MethodName) ({ cls := "RateGateModel", name := "carrier", desc := "(IZI)I" } : Jvm.MethodName)) ∈ TB := tB6 173 (by rfl) (by rfl)
theorem tw_6_174 : (Jvm.Cond.code ({ cls := "RateGateModel", name := "carrier", desc := "(IZI)I" } : Jvm.MethodName) prog_10_method_20_code (5 : Nat) (Option.some Jvm.ClassFile.FieldType.int)) ∈ TB := tB6 174 (by rfl) (by rfl)
theorem tw_6_175 : (Jvm.Cond.methodLink "RateGateModel" (175 : Nat) ({ cls := "RateGateModel", name := "isCarrier", desc := "(I)Z" } : Jvm.MethodName)) ∈ TB := tB6 175 (by rfl) (by rfl)
theorem tw_6_176 : (Jvm.Cond.static ({ cls := "RateGateModel", name := "isCarrier", desc := "(I)Z" } : Jvm.MethodName)) ∈ TB := tB6 176 (by rfl) (by rfl)
theorem tw_6_177 : (Jvm.Cond.code ({ cls := "RateGateModel", name := "isCarrier", desc := "(I)Z" } : Jvm.MethodName) prog_10_method_18_code (1 : Nat) (Option.some Jvm.ClassFile.FieldType.boolean)) ∈ TB := tB6 177 (by rfl) (by rfl)
theorem tw_6_178 : (Jvm.Cond.methodLink "RateGateLaw" (130 : Nat) ({ cls := "RateGateModel", name := "tariff", desc := "(IIII)I" } : Jvm.MethodName)) ∈ TB := tB6 178 (by rfl) (by rfl)
theorem tw_6_179 : (Jvm.Cond.instanceMethod ({ cls := "RateGateModel", name := "tariff", desc := "(IIII)I" } : Jvm.MethodName)) ∈ TB := tB6 179 (by rfl) (by rfl)
theorem tw_6_180 : (Jvm.Cond.selects "RateGateModel" ({ cls := "RateGateModel", name := "tariff", desc := "(IIII)I" } : Jvm.MethodName) ({ cls := "RateGateModel", name := "tariff", desc := "(IIII)I" } : Jvm.MethodName)) ∈ TB := tB6 180 (by rfl) (by rfl)
theorem tw_6_181 : (Jvm.Cond.code ({ cls := "RateGateModel", name := "tariff", desc := "(IIII)I" } : Jvm.MethodName) prog_10_method_21_code (7 : Nat) (Option.some Jvm.ClassFile.FieldType.int)) ∈ TB := tB6 181 (by rfl) (by rfl)
theorem tw_6_182 : (Jvm.Cond.methodLink "RateGateLaw" (134 : Nat) ({ cls := "RateGateModel", name := "call", desc := "()I" } : Jvm.MethodName)) ∈ TB := tB6 182 (by rfl) (by rfl)
theorem tw_6_183 : (Jvm.Cond.instanceMethod ({ cls := "RateGateModel", name := "call", desc := "()I" } : Jvm.MethodName)) ∈ TB := tB6 183 (by rfl) (by rfl)
theorem tw_6_184 : (Jvm.Cond.selects "RateGateModel" ({ cls := "RateGateModel", name := "call", desc := "()I" } : Jvm.MethodName) ({ cls := "RateGateModel", name := "call", desc := "()I" } : Jvm.MethodName)) ∈ TB := tB6 184 (by rfl) (by rfl)
theorem tw_6_185 : (Jvm.Cond.code ({ cls := "RateGateModel", name := "call", desc := "()I" } : Jvm.MethodName) prog_10_method_29_code (5 : Nat) (Option.some Jvm.ClassFile.FieldType.int)) ∈ TB := tB6 185 (by rfl) (by rfl)
theorem tw_6_186 : (Jvm.Cond.methodLink "RateGateModel" (198 : Nat) ({ cls := "RateGateModel", name := "inWindow", desc := "(I)I" } : Jvm.MethodName)) ∈ TB := tB6 186 (by rfl) (by rfl)
theorem tw_6_188 : (Jvm.Cond.instanceMethod ({ cls := "RateGateModel", name := "inWindow", desc := "(I)I" } : Jvm.MethodName)) ∈ TB := tB6 188 (by rfl) (by rfl)
theorem tw_6_189 : (Jvm.Cond.code ({ cls := "RateGateModel", name := "inWindow", desc := "(I)I" } : Jvm.MethodName) prog_10_method_25_code (4 : Nat) (Option.some Jvm.ClassFile.FieldType.int)) ∈ TB := tB6 189 (by rfl) (by rfl)
theorem tw_6_190 : (Jvm.Cond.methodLink "RateGateModel" (201 : Nat) ({ cls := "RateGateModel", name := "quote", desc := "(III)I" } : Jvm.MethodName)) ∈ TB := tB6 190 (by rfl) (by rfl)
theorem tw_6_192 : (Jvm.Cond.instanceMethod ({ cls := "RateGateModel", name := "quote", desc := "(III)I" } : Jvm.MethodName)) ∈ TB := tB6 192 (by rfl) (by rfl)
theorem tw_6_193 : (Jvm.Cond.code ({ cls := "RateGateModel", name := "quote", desc := "(III)I" } : Jvm.MethodName) prog_10_method_28_code (4 : Nat) (Option.some Jvm.ClassFile.FieldType.int)) ∈ TB := tB6 193 (by rfl) (by rfl)
theorem tw_6_194 : (Jvm.Cond.methodLink "RateGateModel" (204 : Nat) ({ cls := "RateGateModel", name := "asked", desc := "(I)I" } : Jvm.MethodName)) ∈ TB := tB6 194 (by rfl) (by rfl)
theorem tw_6_196 : (Jvm.Cond.instanceMethod ({ cls := "RateGateModel", name := "asked", desc := "(I)I" } : Jvm.MethodName)) ∈ TB := tB6 196 (by rfl) (by rfl)
theorem tw_6_197 : (Jvm.Cond.code ({ cls := "RateGateModel", name := "asked", desc := "(I)I" } : Jvm.MethodName) prog_10_method_24_code (4 : Nat) (Option.some Jvm.ClassFile.FieldType.int)) ∈ TB := tB6 197 (by rfl) (by rfl)
theorem tw_6_198 : (Jvm.Cond.methodLink "RateGateModel" (178 : Nat) ({ cls := "RateGateModel", name := "circuitOf", desc := "(I)I" } : Jvm.MethodName)) ∈ TB := tB6 198 (by rfl) (by rfl)
theorem tw_6_200 : (Jvm.Cond.instanceMethod ({ cls := "RateGateModel", name := "circuitOf", desc := "(I)I" } : Jvm.MethodName)) ∈ TB := tB6 200 (by rfl) (by rfl)
theorem tw_6_201 : (Jvm.Cond.code ({ cls := "RateGateModel", name := "circuitOf", desc := "(I)I" } : Jvm.MethodName) prog_10_method_22_code (2 : Nat) (Option.some Jvm.ClassFile.FieldType.int)) ∈ TB := tB6 201 (by rfl) (by rfl)
theorem tw_6_202 : (Jvm.Cond.methodLink "RateGateModel" (182 : Nat) ({ cls := "RateGateModel", name := "isFailed", desc := "(I)Z" } : Jvm.MethodName)) ∈ TB := tB6 202 (by rfl) (by rfl)
theorem tw_6_204 : (Jvm.Cond.instanceMethod ({ cls := "RateGateModel", name := "isFailed", desc := "(I)Z" } : Jvm.MethodName)) ∈ TB := tB6 204 (by rfl) (by rfl)
theorem tw_6_205 : (Jvm.Cond.code ({ cls := "RateGateModel", name := "isFailed", desc := "(I)Z" } : Jvm.MethodName) prog_10_method_23_code (4 : Nat) (Option.some Jvm.ClassFile.FieldType.boolean)) ∈ TB := tB6 205 (by rfl) (by rfl)
theorem tw_6_206 : (Jvm.Cond.methodLink "RateGateLaw" (137 : Nat) ({ cls := "RateGateModel", name := "price", desc := "(I)I" } : Jvm.MethodName)) ∈ TB := tB6 206 (by rfl) (by rfl)
theorem tw_6_207 : (Jvm.Cond.instanceMethod ({ cls := "RateGateModel", name := "price", desc := "(I)I" } : Jvm.MethodName)) ∈ TB := tB6 207 (by rfl) (by rfl)
theorem tw_6_208 : (Jvm.Cond.selects "RateGateModel" ({ cls := "RateGateModel", name := "price", desc := "(I)I" } : Jvm.MethodName) ({ cls := "RateGateModel", name := "price", desc := "(I)I" } : Jvm.MethodName)) ∈ TB := tB6 208 (by rfl) (by rfl)
theorem tw_6_209 : (Jvm.Cond.code ({ cls := "RateGateModel", name := "price", desc := "(I)I" } : Jvm.MethodName) prog_10_method_31_code (2 : Nat) (Option.some Jvm.ClassFile.FieldType.int)) ∈ TB := tB6 209 (by rfl) (by rfl)
theorem tw_6_210 : (Jvm.Cond.methodLink "RateGateModel" (207 : Nat) ({ cls := "RateGateModel", name := "asksQuote", desc := "(I)Z" } : Jvm.MethodName)) ∈ TB := tB6 210 (by rfl) (by rfl)
theorem tw_6_212 : (Jvm.Cond.instanceMethod ({ cls := "RateGateModel", name := "asksQuote", desc := "(I)Z" } : Jvm.MethodName)) ∈ TB := tB6 212 (by rfl) (by rfl)
theorem tw_6_213 : (Jvm.Cond.code ({ cls := "RateGateModel", name := "asksQuote", desc := "(I)Z" } : Jvm.MethodName) prog_10_method_30_code (2 : Nat) (Option.some Jvm.ClassFile.FieldType.boolean)) ∈ TB := tB6 213 (by rfl) (by rfl)
theorem tw_6_214 : (Jvm.Cond.methodLink "RateGateModel" (210 : Nat) ({ cls := "RateGateModel", name := "quoted", desc := "(II)I" } : Jvm.MethodName)) ∈ TB := tB6 214 (by rfl) (by rfl)
theorem tw_6_216 : (Jvm.Cond.instanceMethod ({ cls := "RateGateModel", name := "quoted", desc := "(II)I" } : Jvm.MethodName)) ∈ TB := tB6 216 (by rfl) (by rfl)
theorem tw_6_217 : (Jvm.Cond.code ({ cls := "RateGateModel", name := "quoted", desc := "(II)I" } : Jvm.MethodName) prog_10_method_27_code (3 : Nat) (Option.some Jvm.ClassFile.FieldType.int)) ∈ TB := tB6 217 (by rfl) (by rfl)
theorem tw_6_218 : (Jvm.Cond.methodLink "RateGateModel" (188 : Nat) ({ cls := "RateGateModel", name := "priceOf", desc := "(IIIIIZ)I" } : Jvm.MethodName)) ∈ TB := tB6 218 (by rfl) (by rfl)
theorem tw_6_219 : (Jvm.Cond.static ({ cls := "RateGateModel", name := "priceOf", desc := "(IIIIIZ)I" } : Jvm.MethodName)) ∈ TB := tB6 219 (by rfl) (by rfl)
theorem tw_6_220 : (Jvm.Cond.code ({ cls := "RateGateModel", name := "priceOf", desc := "(IIIIIZ)I" } : Jvm.MethodName) prog_10_method_26_code (7 : Nat) (Option.some Jvm.ClassFile.FieldType.int)) ∈ TB := tB6 220 (by rfl) (by rfl)
theorem tw_6_221 : (Jvm.Cond.methodLink "RateGateLaw" (140 : Nat) ({ cls := "RateGateModel", name := "fixed", desc := "(I)I" } : Jvm.MethodName)) ∈ TB := tB6 221 (by rfl) (by rfl)
theorem tw_6_222 : (Jvm.Cond.instanceMethod ({ cls := "RateGateModel", name := "fixed", desc := "(I)I" } : Jvm.MethodName)) ∈ TB := tB6 222 (by rfl) (by rfl)
theorem tw_6_223 : (Jvm.Cond.selects "RateGateModel" ({ cls := "RateGateModel", name := "fixed", desc := "(I)I" } : Jvm.MethodName) ({ cls := "RateGateModel", name := "fixed", desc := "(I)I" } : Jvm.MethodName)) ∈ TB := tB6 223 (by rfl) (by rfl)
theorem tw_6_224 : (Jvm.Cond.code ({ cls := "RateGateModel", name := "fixed", desc := "(I)I" } : Jvm.MethodName) prog_10_method_32_code (2 : Nat) (Option.some Jvm.ClassFile.FieldType.int)) ∈ TB := tB6 224 (by rfl) (by rfl)
theorem tw_6_225 : (Jvm.Cond.methodLink "RateGateLaw" (143 : Nat) ({ cls := "RateGateModel", name := "left", desc := "(I)I" } : Jvm.MethodName)) ∈ TB := tB6 225 (by rfl) (by rfl)
theorem tw_6_226 : (Jvm.Cond.instanceMethod ({ cls := "RateGateModel", name := "left", desc := "(I)I" } : Jvm.MethodName)) ∈ TB := tB6 226 (by rfl) (by rfl)
theorem tw_6_227 : (Jvm.Cond.selects "RateGateModel" ({ cls := "RateGateModel", name := "left", desc := "(I)I" } : Jvm.MethodName) ({ cls := "RateGateModel", name := "left", desc := "(I)I" } : Jvm.MethodName)) ∈ TB := tB6 227 (by rfl) (by rfl)
theorem tw_6_228 : (Jvm.Cond.code ({ cls := "RateGateModel", name := "left", desc := "(I)I" } : Jvm.MethodName) prog_10_method_34_code (2 : Nat) (Option.some Jvm.ClassFile.FieldType.int)) ∈ TB := tB6 228 (by rfl) (by rfl)
theorem tw_6_229 : (Jvm.Cond.methodLink "RateGateModel" (213 : Nat) ({ cls := "RateGateModel", name := "leftOf", desc := "(I)I" } : Jvm.MethodName)) ∈ TB := tB6 229 (by rfl) (by rfl)
theorem tw_6_231 : (Jvm.Cond.instanceMethod ({ cls := "RateGateModel", name := "leftOf", desc := "(I)I" } : Jvm.MethodName)) ∈ TB := tB6 231 (by rfl) (by rfl)
theorem tw_6_232 : (Jvm.Cond.code ({ cls := "RateGateModel", name := "leftOf", desc := "(I)I" } : Jvm.MethodName) prog_10_method_33_code (3 : Nat) (Option.some Jvm.ClassFile.FieldType.int)) ∈ TB := tB6 232 (by rfl) (by rfl)
theorem tw_6_233 : (Jvm.Cond.methodLink "RateGateLaw" (146 : Nat) ({ cls := "RateGateModel", name := "leftByLog", desc := "(I)I" } : Jvm.MethodName)) ∈ TB := tB6 233 (by rfl) (by rfl)
theorem tw_6_234 : (Jvm.Cond.instanceMethod ({ cls := "RateGateModel", name := "leftByLog", desc := "(I)I" } : Jvm.MethodName)) ∈ TB := tB6 234 (by rfl) (by rfl)
theorem tw_6_235 : (Jvm.Cond.selects "RateGateModel" ({ cls := "RateGateModel", name := "leftByLog", desc := "(I)I" } : Jvm.MethodName) ({ cls := "RateGateModel", name := "leftByLog", desc := "(I)I" } : Jvm.MethodName)) ∈ TB := tB6 235 (by rfl) (by rfl)
theorem tw_6_236 : (Jvm.Cond.code ({ cls := "RateGateModel", name := "leftByLog", desc := "(I)I" } : Jvm.MethodName) prog_10_method_35_code (2 : Nat) (Option.some Jvm.ClassFile.FieldType.int)) ∈ TB := tB6 236 (by rfl) (by rfl)
theorem tw_6_237 : (Jvm.Cond.methodLink "RateGateLaw" (149 : Nat) ({ cls := "RateGateModel", name := "circuit", desc := "(I)I" } : Jvm.MethodName)) ∈ TB := tB6 237 (by rfl) (by rfl)
theorem tw_6_238 : (Jvm.Cond.instanceMethod ({ cls := "RateGateModel", name := "circuit", desc := "(I)I" } : Jvm.MethodName)) ∈ TB := tB6 238 (by rfl) (by rfl)
theorem tw_6_239 : (Jvm.Cond.selects "RateGateModel" ({ cls := "RateGateModel", name := "circuit", desc := "(I)I" } : Jvm.MethodName) ({ cls := "RateGateModel", name := "circuit", desc := "(I)I" } : Jvm.MethodName)) ∈ TB := tB6 239 (by rfl) (by rfl)
theorem tw_7_0 : (Jvm.Cond.code ({ cls := "RateGateModel", name := "circuit", desc := "(I)I" } : Jvm.MethodName) prog_10_method_36_code (2 : Nat) (Option.some Jvm.ClassFile.FieldType.int)) ∈ TB := tB7 0 (by rfl) (by rfl)
theorem tw_7_1 : (Jvm.Cond.methodLink "RateGateLaw" (152 : Nat) ({ cls := "RateGateModel", name := "tries", desc := "(I)I" } : Jvm.MethodName)) ∈ TB := tB7 1 (by rfl) (by rfl)
theorem tw_7_2 : (Jvm.Cond.instanceMethod ({ cls := "RateGateModel", name := "tries", desc := "(I)I" } : Jvm.MethodName)) ∈ TB := tB7 2 (by rfl) (by rfl)
theorem tw_7_3 : (Jvm.Cond.selects "RateGateModel" ({ cls := "RateGateModel", name := "tries", desc := "(I)I" } : Jvm.MethodName) ({ cls := "RateGateModel", name := "tries", desc := "(I)I" } : Jvm.MethodName)) ∈ TB := tB7 3 (by rfl) (by rfl)
theorem tw_7_4 : (Jvm.Cond.code ({ cls := "RateGateModel", name := "tries", desc := "(I)I" } : Jvm.MethodName) prog_10_method_37_code (2 : Nat) (Option.some Jvm.ClassFile.FieldType.int)) ∈ TB := tB7 4 (by rfl) (by rfl)
theorem tw_7_5 : (Jvm.Cond.methodLink "RateGateLaw" (156 : Nat) ({ cls := "RateGateModel", name := "calls", desc := "()I" } : Jvm.MethodName)) ∈ TB := tB7 5 (by rfl) (by rfl)
theorem tw_7_6 : (Jvm.Cond.instanceMethod ({ cls := "RateGateModel", name := "calls", desc := "()I" } : Jvm.MethodName)) ∈ TB := tB7 6 (by rfl) (by rfl)
theorem tw_7_7 : (Jvm.Cond.selects "RateGateModel" ({ cls := "RateGateModel", name := "calls", desc := "()I" } : Jvm.MethodName) ({ cls := "RateGateModel", name := "calls", desc := "()I" } : Jvm.MethodName)) ∈ TB := tB7 7 (by rfl) (by rfl)
theorem tw_7_8 : (Jvm.Cond.code ({ cls := "RateGateModel", name := "calls", desc := "()I" } : Jvm.MethodName) prog_10_method_38_code (1 : Nat) (Option.some Jvm.ClassFile.FieldType.int)) ∈ TB := tB7 8 (by rfl) (by rfl)
theorem tw_7_9 : (Jvm.Cond.methodLink "RateGateLaw" (159 : Nat) ({ cls := "RateGateModel", name := "book", desc := "(I)I" } : Jvm.MethodName)) ∈ TB := tB7 9 (by rfl) (by rfl)
theorem tw_7_10 : (Jvm.Cond.instanceMethod ({ cls := "RateGateModel", name := "book", desc := "(I)I" } : Jvm.MethodName)) ∈ TB := tB7 10 (by rfl) (by rfl)
theorem tw_7_11 : (Jvm.Cond.selects "RateGateModel" ({ cls := "RateGateModel", name := "book", desc := "(I)I" } : Jvm.MethodName) ({ cls := "RateGateModel", name := "book", desc := "(I)I" } : Jvm.MethodName)) ∈ TB := tB7 11 (by rfl) (by rfl)
theorem tw_7_12 : (Jvm.Cond.code ({ cls := "RateGateModel", name := "book", desc := "(I)I" } : Jvm.MethodName) prog_10_method_39_code (5 : Nat) (Option.some Jvm.ClassFile.FieldType.int)) ∈ TB := tB7 12 (by rfl) (by rfl)
theorem tw_7_13 : (Jvm.Cond.methodLink "RateGateLaw" (163 : Nat) ({ cls := "RateGateModel", name := "weigh", desc := "(II)I" } : Jvm.MethodName)) ∈ TB := tB7 13 (by rfl) (by rfl)
theorem tw_7_14 : (Jvm.Cond.instanceMethod ({ cls := "RateGateModel", name := "weigh", desc := "(II)I" } : Jvm.MethodName)) ∈ TB := tB7 14 (by rfl) (by rfl)
theorem tw_7_15 : (Jvm.Cond.selects "RateGateModel" ({ cls := "RateGateModel", name := "weigh", desc := "(II)I" } : Jvm.MethodName) ({ cls := "RateGateModel", name := "weigh", desc := "(II)I" } : Jvm.MethodName)) ∈ TB := tB7 15 (by rfl) (by rfl)
theorem tw_7_16 : (Jvm.Cond.code ({ cls := "RateGateModel", name := "weigh", desc := "(II)I" } : Jvm.MethodName) prog_10_method_41_code (4 : Nat) (Option.some Jvm.ClassFile.FieldType.int)) ∈ TB := tB7 16 (by rfl) (by rfl)
theorem tw_7_17 : (Jvm.Cond.methodLink "RateGateModel" (219 : Nat) ({ cls := "RateGateModel", name := "isParcel", desc := "(I)Z" } : Jvm.MethodName)) ∈ TB := tB7 17 (by rfl) (by rfl)
theorem tw_7_19 : (Jvm.Cond.instanceMethod ({ cls := "RateGateModel", name := "isParcel", desc := "(I)Z" } : Jvm.MethodName)) ∈ TB := tB7 19 (by rfl) (by rfl)
theorem tw_7_20 : (Jvm.Cond.code ({ cls := "RateGateModel", name := "isParcel", desc := "(I)Z" } : Jvm.MethodName) prog_10_method_40_code (2 : Nat) (Option.some Jvm.ClassFile.FieldType.boolean)) ∈ TB := tB7 20 (by rfl) (by rfl)
theorem tw_7_21 : (Jvm.Cond.methodLink "RateGateLaw" (166 : Nat) ({ cls := "RateGateModel", name := "cancel", desc := "(I)I" } : Jvm.MethodName)) ∈ TB := tB7 21 (by rfl) (by rfl)
theorem tw_7_22 : (Jvm.Cond.instanceMethod ({ cls := "RateGateModel", name := "cancel", desc := "(I)I" } : Jvm.MethodName)) ∈ TB := tB7 22 (by rfl) (by rfl)
theorem tw_7_23 : (Jvm.Cond.selects "RateGateModel" ({ cls := "RateGateModel", name := "cancel", desc := "(I)I" } : Jvm.MethodName) ({ cls := "RateGateModel", name := "cancel", desc := "(I)I" } : Jvm.MethodName)) ∈ TB := tB7 23 (by rfl) (by rfl)
theorem tw_7_24 : (Jvm.Cond.code ({ cls := "RateGateModel", name := "cancel", desc := "(I)I" } : Jvm.MethodName) prog_10_method_42_code (2 : Nat) (Option.some Jvm.ClassFile.FieldType.int)) ∈ TB := tB7 24 (by rfl) (by rfl)
theorem tw_7_25 : (Jvm.Cond.methodLink "RateGateLaw" (169 : Nat) ({ cls := "RateGateModel", name := "state", desc := "(I)I" } : Jvm.MethodName)) ∈ TB := tB7 25 (by rfl) (by rfl)
theorem tw_7_26 : (Jvm.Cond.instanceMethod ({ cls := "RateGateModel", name := "state", desc := "(I)I" } : Jvm.MethodName)) ∈ TB := tB7 26 (by rfl) (by rfl)
theorem tw_7_27 : (Jvm.Cond.selects "RateGateModel" ({ cls := "RateGateModel", name := "state", desc := "(I)I" } : Jvm.MethodName) ({ cls := "RateGateModel", name := "state", desc := "(I)I" } : Jvm.MethodName)) ∈ TB := tB7 27 (by rfl) (by rfl)
theorem tw_7_28 : (Jvm.Cond.code ({ cls := "RateGateModel", name := "state", desc := "(I)I" } : Jvm.MethodName) prog_10_method_43_code (2 : Nat) (Option.some Jvm.ClassFile.FieldType.int)) ∈ TB := tB7 28 (by rfl) (by rfl)
theorem tw_7_29 : (Jvm.Cond.methodLink "RateGateLaw" (172 : Nat) ({ cls := "RateGateModel", name := "cost", desc := "(I)I" } : Jvm.MethodName)) ∈ TB := tB7 29 (by rfl) (by rfl)
theorem tw_7_30 : (Jvm.Cond.instanceMethod ({ cls := "RateGateModel", name := "cost", desc := "(I)I" } : Jvm.MethodName)) ∈ TB := tB7 30 (by rfl) (by rfl)
theorem tw_7_31 : (Jvm.Cond.selects "RateGateModel" ({ cls := "RateGateModel", name := "cost", desc := "(I)I" } : Jvm.MethodName) ({ cls := "RateGateModel", name := "cost", desc := "(I)I" } : Jvm.MethodName)) ∈ TB := tB7 31 (by rfl) (by rfl)
theorem tw_7_32 : (Jvm.Cond.code ({ cls := "RateGateModel", name := "cost", desc := "(I)I" } : Jvm.MethodName) prog_10_method_44_code (2 : Nat) (Option.some Jvm.ClassFile.FieldType.int)) ∈ TB := tB7 32 (by rfl) (by rfl)
theorem tw_7_33 : (Jvm.Cond.methodLink "RateGateLaw" (175 : Nat) ({ cls := "RateGateModel", name := "bill", desc := "(I)I" } : Jvm.MethodName)) ∈ TB := tB7 33 (by rfl) (by rfl)
theorem tw_7_34 : (Jvm.Cond.instanceMethod ({ cls := "RateGateModel", name := "bill", desc := "(I)I" } : Jvm.MethodName)) ∈ TB := tB7 34 (by rfl) (by rfl)
theorem tw_7_35 : (Jvm.Cond.selects "RateGateModel" ({ cls := "RateGateModel", name := "bill", desc := "(I)I" } : Jvm.MethodName) ({ cls := "RateGateModel", name := "bill", desc := "(I)I" } : Jvm.MethodName)) ∈ TB := tB7 35 (by rfl) (by rfl)
theorem tw_7_36 : (Jvm.Cond.code ({ cls := "RateGateModel", name := "bill", desc := "(I)I" } : Jvm.MethodName) prog_10_method_47_code (2 : Nat) (Option.some Jvm.ClassFile.FieldType.int)) ∈ TB := tB7 36 (by rfl) (by rfl)
theorem tw_7_37 : (Jvm.Cond.methodLink "RateGateModel" (226 : Nat) ({ cls := "RateGateModel", name := "billOf", desc := "(I)I" } : Jvm.MethodName)) ∈ TB := tB7 37 (by rfl) (by rfl)
theorem tw_7_39 : (Jvm.Cond.instanceMethod ({ cls := "RateGateModel", name := "billOf", desc := "(I)I" } : Jvm.MethodName)) ∈ TB := tB7 39 (by rfl) (by rfl)
theorem tw_7_40 : (Jvm.Cond.code ({ cls := "RateGateModel", name := "billOf", desc := "(I)I" } : Jvm.MethodName) prog_10_method_46_code (4 : Nat) (Option.some Jvm.ClassFile.FieldType.int)) ∈ TB := tB7 40 (by rfl) (by rfl)
theorem tw_7_41 : (Jvm.Cond.methodLink "RateGateModel" (222 : Nat) ({ cls := "RateGateModel", name := "isDue", desc := "(II)Z" } : Jvm.MethodName)) ∈ TB := tB7 41 (by rfl) (by rfl)
theorem tw_7_43 : (Jvm.Cond.instanceMethod ({ cls := "RateGateModel", name := "isDue", desc := "(II)Z" } : Jvm.MethodName)) ∈ TB := tB7 43 (by rfl) (by rfl)
theorem tw_7_44 : (Jvm.Cond.code ({ cls := "RateGateModel", name := "isDue", desc := "(II)Z" } : Jvm.MethodName) prog_10_method_45_code (3 : Nat) (Option.some Jvm.ClassFile.FieldType.boolean)) ∈ TB := tB7 44 (by rfl) (by rfl)
theorem tw_7_45 : (Jvm.Cond.methodLink "RateGateLaw" (178 : Nat) ({ cls := "RateGateModel", name := "close", desc := "(I)I" } : Jvm.MethodName)) ∈ TB := tB7 45 (by rfl) (by rfl)
theorem tw_7_46 : (Jvm.Cond.instanceMethod ({ cls := "RateGateModel", name := "close", desc := "(I)I" } : Jvm.MethodName)) ∈ TB := tB7 46 (by rfl) (by rfl)
theorem tw_7_47 : (Jvm.Cond.selects "RateGateModel" ({ cls := "RateGateModel", name := "close", desc := "(I)I" } : Jvm.MethodName) ({ cls := "RateGateModel", name := "close", desc := "(I)I" } : Jvm.MethodName)) ∈ TB := tB7 47 (by rfl) (by rfl)
theorem tw_7_48 : (Jvm.Cond.code ({ cls := "RateGateModel", name := "close", desc := "(I)I" } : Jvm.MethodName) prog_10_method_48_code (4 : Nat) (Option.some Jvm.ClassFile.FieldType.int)) ∈ TB := tB7 48 (by rfl) (by rfl)
theorem tw_7_49 : (Jvm.Cond.methodLink "RateGateLaw" (181 : Nat) ({ cls := "RateGateModel", name := "billed", desc := "(I)I" } : Jvm.MethodName)) ∈ TB := tB7 49 (by rfl) (by rfl)
theorem tw_7_50 : (Jvm.Cond.instanceMethod ({ cls := "RateGateModel", name := "billed", desc := "(I)I" } : Jvm.MethodName)) ∈ TB := tB7 50 (by rfl) (by rfl)
theorem tw_7_51 : (Jvm.Cond.selects "RateGateModel" ({ cls := "RateGateModel", name := "billed", desc := "(I)I" } : Jvm.MethodName) ({ cls := "RateGateModel", name := "billed", desc := "(I)I" } : Jvm.MethodName)) ∈ TB := tB7 51 (by rfl) (by rfl)
theorem tw_7_52 : (Jvm.Cond.code ({ cls := "RateGateModel", name := "billed", desc := "(I)I" } : Jvm.MethodName) prog_10_method_49_code (2 : Nat) (Option.some Jvm.ClassFile.FieldType.int)) ∈ TB := tB7 52 (by rfl) (by rfl)
theorem tw_7_53 : (Jvm.Cond.arrayClass Jvm.ClassFile.FieldType.long) ∈ TB := tB7 53 (by rfl) (by rfl)
theorem tw_7_54 : (Jvm.Cond.sameMethod "java/lang/AbstractStringBuilder" "java/lang/AbstractStringBuilder" "append" "(Ljava/lang/String;)Ljava/lang/AbstractStringBuilder;") ∈ TB := tB7 54 (by rfl) (by rfl)
theorem tw_7_55 : (Jvm.Cond.sameMethod "java/lang/AbstractStringBuilder" "java/lang/AbstractStringBuilder" "appendNull" "()Ljava/lang/AbstractStringBuilder;") ∈ TB := tB7 55 (by rfl) (by rfl)
theorem tw_7_56 : (Jvm.Cond.sameMethod "java/lang/AbstractStringBuilder" "java/lang/AbstractStringBuilder" "ensureCapacityInternal" "(I)V") ∈ TB := tB7 56 (by rfl) (by rfl)
theorem tw_7_57 : (Jvm.Cond.sameMethod "java/lang/AbstractStringBuilder" "java/lang/AbstractStringBuilder" "newCapacity" "(I)I") ∈ TB := tB7 57 (by rfl) (by rfl)
theorem tw_7_58 : (Jvm.Cond.sameMethod "java/lang/AbstractStringBuilder" "java/lang/AbstractStringBuilder" "putStringAt" "(ILjava/lang/String;)V") ∈ TB := tB7 58 (by rfl) (by rfl)
theorem tw_7_59 : (Jvm.Cond.sameMethod "java/lang/AbstractStringBuilder" "java/lang/AbstractStringBuilder" "inflateIfNeededFor" "(Ljava/lang/String;)V") ∈ TB := tB7 59 (by rfl) (by rfl)
theorem tw_7_60 : (Jvm.Cond.sameMethod "java/lang/AbstractStringBuilder" "java/lang/AbstractStringBuilder" "inflate" "()V") ∈ TB := tB7 60 (by rfl) (by rfl)
theorem tw_7_61 : (Jvm.Cond.sameMethod "java/lang/AbstractStringBuilder" "java/lang/AbstractStringBuilder" "append" "(C)Ljava/lang/AbstractStringBuilder;") ∈ TB := tB7 61 (by rfl) (by rfl)
theorem tw_7_62 : (Jvm.Cond.sameMethod "java/lang/Throwable" "java/lang/Throwable" "fillInStackTrace" "(I)Ljava/lang/Throwable;") ∈ TB := tB7 62 (by rfl) (by rfl)
theorem tw_7_63 : (Jvm.Cond.sameMethod "java/lang/AbstractStringBuilder" "java/lang/AbstractStringBuilder" "append" "(I)Ljava/lang/AbstractStringBuilder;") ∈ TB := tB7 63 (by rfl) (by rfl)
theorem tw_7_80 : (Jvm.Cond.sameMethod "[Ljava/lang/Object;" "java/lang/Object" "getClass" "()Ljava/lang/Class;") ∈ TB := tB7 80 (by rfl) (by rfl)
theorem tw_7_81 : (Jvm.Cond.selects "[Ljava/lang/Object;" ({ cls := "java/lang/Object", name := "getClass", desc := "()Ljava/lang/Class;" } : Jvm.MethodName) ({ cls := "java/lang/Object", name := "getClass", desc := "()Ljava/lang/Class;" } : Jvm.MethodName)) ∈ TB := tB7 81 (by rfl) (by rfl)
end
section
theorem dX0_init_0 : decode cX0_init 0 = .ok (.aload_n 0, 1) := by decide +kernel
theorem dX0_init_1 : decode cX0_init 1 = .ok (.invokespecial 1, 3) := by decide +kernel
theorem dX0_init_4 : decode cX0_init 4 = .ok (.aload_n 0, 1) := by decide +kernel
theorem dX0_init_5 : decode cX0_init 5 = .ok (.iconst 0, 1) := by decide +kernel
theorem dX0_init_6 : decode cX0_init 6 = .ok (.putfield 7, 3) := by decide +kernel
theorem dX0_init_9 : decode cX0_init 9 = .ok (.aload_n 0, 1) := by decide +kernel
theorem dX0_init_10 : decode cX0_init 10 = .ok (.sipush 512, 3) := by decide +kernel
theorem dX0_init_13 : decode cX0_init 13 = .ok (.newarray .int, 2) := by decide +kernel
theorem dX0_init_15 : decode cX0_init 15 = .ok (.putfield 13, 3) := by decide +kernel
theorem dX0_init_18 : decode cX0_init 18 = .ok (.aload_n 0, 1) := by decide +kernel
theorem dX0_init_19 : decode cX0_init 19 = .ok (.sipush 512, 3) := by decide +kernel
theorem dX0_init_22 : decode cX0_init 22 = .ok (.newarray .int, 2) := by decide +kernel
theorem dX0_init_24 : decode cX0_init 24 = .ok (.putfield 17, 3) := by decide +kernel
theorem dX0_init_27 : decode cX0_init 27 = .ok (.aload_n 0, 1) := by decide +kernel
theorem dX0_init_28 : decode cX0_init 28 = .ok (.sipush 512, 3) := by decide +kernel
theorem dX0_init_31 : decode cX0_init 31 = .ok (.newarray .boolean, 2) := by decide +kernel
theorem dX0_init_33 : decode cX0_init 33 = .ok (.putfield 20, 3) := by decide +kernel
theorem dX0_init_36 : decode cX0_init 36 = .ok (.aload_n 0, 1) := by decide +kernel
theorem dX0_init_37 : decode cX0_init 37 = .ok (.iconst 0, 1) := by decide +kernel
theorem dX0_init_38 : decode cX0_init 38 = .ok (.putfield 24, 3) := by decide +kernel
theorem dX0_init_41 : decode cX0_init 41 = .ok (.aload_n 0, 1) := by decide +kernel
theorem dX0_init_42 : decode cX0_init 42 = .ok (.iconst 0, 1) := by decide +kernel
theorem dX0_init_43 : decode cX0_init 43 = .ok (.putfield 27, 3) := by decide +kernel
theorem dX0_init_46 : decode cX0_init 46 = .ok (.return_, 1) := by decide +kernel
theorem dX0_add_0 : decode cX0_add 0 = .ok (.aload_n 0, 1) := by decide +kernel
theorem dX0_add_1 : decode cX0_add 1 = .ok (.getfield 27, 3) := by decide +kernel
theorem dX0_add_4 : decode cX0_add 4 = .ok (.ifCond .lt 13, 3) := by decide +kernel
theorem dX0_add_7 : decode cX0_add 7 = .ok (.aload_n 0, 1) := by decide +kernel
theorem dX0_add_8 : decode cX0_add 8 = .ok (.getfield 27, 3) := by decide +kernel
theorem dX0_add_11 : decode cX0_add 11 = .ok (.sipush 512, 3) := by decide +kernel
theorem dX0_add_14 : decode cX0_add 14 = .ok (.if_icmp .lt 8, 3) := by decide +kernel
theorem dX0_add_17 : decode cX0_add 17 = .ok (.aload_n 0, 1) := by decide +kernel
theorem dX0_add_18 : decode cX0_add 18 = .ok (.iconst 0, 1) := by decide +kernel
theorem dX0_add_19 : decode cX0_add 19 = .ok (.putfield 27, 3) := by decide +kernel
theorem dX0_add_22 : decode cX0_add 22 = .ok (.aload_n 0, 1) := by decide +kernel
theorem dX0_add_23 : decode cX0_add 23 = .ok (.getfield 13, 3) := by decide +kernel
theorem dX0_add_26 : decode cX0_add 26 = .ok (.aload_n 0, 1) := by decide +kernel
theorem dX0_add_27 : decode cX0_add 27 = .ok (.getfield 27, 3) := by decide +kernel
theorem dX0_add_30 : decode cX0_add 30 = .ok (.iload_n 1, 1) := by decide +kernel
theorem dX0_add_31 : decode cX0_add 31 = .ok (.iastore, 1) := by decide +kernel
theorem dX0_add_32 : decode cX0_add 32 = .ok (.aload_n 0, 1) := by decide +kernel
theorem dX0_add_33 : decode cX0_add 33 = .ok (.getfield 17, 3) := by decide +kernel
theorem dX0_add_36 : decode cX0_add 36 = .ok (.aload_n 0, 1) := by decide +kernel
theorem dX0_add_37 : decode cX0_add 37 = .ok (.getfield 27, 3) := by decide +kernel
theorem dX0_add_40 : decode cX0_add 40 = .ok (.iload_n 2, 1) := by decide +kernel
theorem dX0_add_41 : decode cX0_add 41 = .ok (.iastore, 1) := by decide +kernel
theorem dX0_add_42 : decode cX0_add 42 = .ok (.aload_n 0, 1) := by decide +kernel
theorem dX0_add_43 : decode cX0_add 43 = .ok (.getfield 20, 3) := by decide +kernel
theorem dX0_add_46 : decode cX0_add 46 = .ok (.aload_n 0, 1) := by decide +kernel
theorem dX0_add_47 : decode cX0_add 47 = .ok (.getfield 27, 3) := by decide +kernel
theorem dX0_add_50 : decode cX0_add 50 = .ok (.iload_n 3, 1) := by decide +kernel
theorem dX0_add_51 : decode cX0_add 51 = .ok (.bastore, 1) := by decide +kernel
theorem dX0_add_52 : decode cX0_add 52 = .ok (.aload_n 0, 1) := by decide +kernel
theorem dX0_add_53 : decode cX0_add 53 = .ok (.dup, 1) := by decide +kernel
theorem dX0_add_54 : decode cX0_add 54 = .ok (.getfield 27, 3) := by decide +kernel
theorem dX0_add_57 : decode cX0_add 57 = .ok (.iconst 1, 1) := by decide +kernel
theorem dX0_add_58 : decode cX0_add 58 = .ok (.iadd, 1) := by decide +kernel
theorem dX0_add_59 : decode cX0_add 59 = .ok (.putfield 27, 3) := by decide +kernel
theorem dX0_add_62 : decode cX0_add 62 = .ok (.aload_n 0, 1) := by decide +kernel
theorem dX0_add_63 : decode cX0_add 63 = .ok (.aload_n 0, 1) := by decide +kernel
theorem dX0_add_64 : decode cX0_add 64 = .ok (.getfield 24, 3) := by decide +kernel
theorem dX0_add_67 : decode cX0_add 67 = .ok (.aload_n 0, 1) := by decide +kernel
theorem dX0_add_68 : decode cX0_add 68 = .ok (.getfield 27, 3) := by decide +kernel
theorem dX0_add_71 : decode cX0_add 71 = .ok (.invokestatic 30, 3) := by decide +kernel
theorem dX0_add_74 : decode cX0_add 74 = .ok (.putfield 24, 3) := by decide +kernel
theorem dX0_add_77 : decode cX0_add 77 = .ok (.aload_n 0, 1) := by decide +kernel
theorem dX0_add_78 : decode cX0_add 78 = .ok (.dup, 1) := by decide +kernel
theorem dX0_add_79 : decode cX0_add 79 = .ok (.getfield 7, 3) := by decide +kernel
theorem dX0_add_82 : decode cX0_add 82 = .ok (.iconst 1, 1) := by decide +kernel
theorem dX0_add_83 : decode cX0_add 83 = .ok (.iadd, 1) := by decide +kernel
theorem dX0_add_84 : decode cX0_add 84 = .ok (.putfield 7, 3) := by decide +kernel
theorem dX0_add_87 : decode cX0_add 87 = .ok (.return_, 1) := by decide +kernel
theorem dX0_countBehind_0 : decode cX0_countBehind 0 = .ok (.iconst 0, 1) := by decide +kernel
theorem dX0_countBehind_1 : decode cX0_countBehind 1 = .ok (.istore_n 3, 1) := by decide +kernel
theorem dX0_countBehind_2 : decode cX0_countBehind 2 = .ok (.iconst 0, 1) := by decide +kernel
theorem dX0_countBehind_3 : decode cX0_countBehind 3 = .ok (.istore 4, 2) := by decide +kernel
theorem dX0_countBehind_5 : decode cX0_countBehind 5 = .ok (.iload 4, 2) := by decide +kernel
theorem dX0_countBehind_7 : decode cX0_countBehind 7 = .ok (.aload_n 0, 1) := by decide +kernel
theorem dX0_countBehind_8 : decode cX0_countBehind 8 = .ok (.getfield 24, 3) := by decide +kernel
theorem dX0_countBehind_11 : decode cX0_countBehind 11 = .ok (.if_icmp .ge 52, 3) := by decide +kernel
theorem dX0_countBehind_14 : decode cX0_countBehind 14 = .ok (.iload 4, 2) := by decide +kernel
theorem dX0_countBehind_16 : decode cX0_countBehind 16 = .ok (.sipush 512, 3) := by decide +kernel
theorem dX0_countBehind_19 : decode cX0_countBehind 19 = .ok (.if_icmp .ge 44, 3) := by decide +kernel
theorem dX0_countBehind_22 : decode cX0_countBehind 22 = .ok (.aload_n 0, 1) := by decide +kernel
theorem dX0_countBehind_23 : decode cX0_countBehind 23 = .ok (.getfield 13, 3) := by decide +kernel
theorem dX0_countBehind_26 : decode cX0_countBehind 26 = .ok (.iload 4, 2) := by decide +kernel
theorem dX0_countBehind_28 : decode cX0_countBehind 28 = .ok (.iaload, 1) := by decide +kernel
theorem dX0_countBehind_29 : decode cX0_countBehind 29 = .ok (.iload_n 1, 1) := by decide +kernel
theorem dX0_countBehind_30 : decode cX0_countBehind 30 = .ok (.if_icmp .ne 27, 3) := by decide +kernel
theorem dX0_countBehind_33 : decode cX0_countBehind 33 = .ok (.aload_n 0, 1) := by decide +kernel
theorem dX0_countBehind_34 : decode cX0_countBehind 34 = .ok (.getfield 17, 3) := by decide +kernel
theorem dX0_countBehind_37 : decode cX0_countBehind 37 = .ok (.iload 4, 2) := by decide +kernel
theorem dX0_countBehind_39 : decode cX0_countBehind 39 = .ok (.iaload, 1) := by decide +kernel
theorem dX0_countBehind_40 : decode cX0_countBehind 40 = .ok (.iload_n 2, 1) := by decide +kernel
theorem dX0_countBehind_41 : decode cX0_countBehind 41 = .ok (.if_icmp .le 16, 3) := by decide +kernel
theorem dX0_countBehind_44 : decode cX0_countBehind 44 = .ok (.aload_n 0, 1) := by decide +kernel
theorem dX0_countBehind_45 : decode cX0_countBehind 45 = .ok (.getfield 20, 3) := by decide +kernel
theorem dX0_countBehind_48 : decode cX0_countBehind 48 = .ok (.iload 4, 2) := by decide +kernel
theorem dX0_countBehind_50 : decode cX0_countBehind 50 = .ok (.baload, 1) := by decide +kernel
theorem dX0_countBehind_51 : decode cX0_countBehind 51 = .ok (.ifCond .ne 6, 3) := by decide +kernel
theorem dX0_countBehind_54 : decode cX0_countBehind 54 = .ok (.iinc 3 1, 3) := by decide +kernel
theorem dX0_countBehind_57 : decode cX0_countBehind 57 = .ok (.iinc 4 1, 3) := by decide +kernel
theorem dX0_countBehind_60 : decode cX0_countBehind 60 = .ok (.goto (-55), 3) := by decide +kernel
theorem dX0_countBehind_63 : decode cX0_countBehind 63 = .ok (.iload_n 3, 1) := by decide +kernel
theorem dX0_countBehind_64 : decode cX0_countBehind 64 = .ok (.ireturn, 1) := by decide +kernel
theorem dX1_init_0 : decode cX1_init 0 = .ok (.aload_n 0, 1) := by decide +kernel
theorem dX1_init_1 : decode cX1_init 1 = .ok (.invokespecial 3, 3) := by decide +kernel
theorem dX1_init_4 : decode cX1_init 4 = .ok (.aload_n 0, 1) := by decide +kernel
theorem dX1_init_5 : decode cX1_init 5 = .ok (.iconst 1, 1) := by decide +kernel
theorem dX1_init_6 : decode cX1_init 6 = .ok (.putfield 9, 3) := by decide +kernel
theorem dX1_init_9 : decode cX1_init 9 = .ok (.aload_n 0, 1) := by decide +kernel
theorem dX1_init_10 : decode cX1_init 10 = .ok (.iconst 0, 1) := by decide +kernel
theorem dX1_init_11 : decode cX1_init 11 = .ok (.putfield 15, 3) := by decide +kernel
theorem dX1_init_14 : decode cX1_init 14 = .ok (.aload_n 0, 1) := by decide +kernel
theorem dX1_init_15 : decode cX1_init 15 = .ok (.iconst 0, 1) := by decide +kernel
theorem dX1_init_16 : decode cX1_init 16 = .ok (.putfield 19, 3) := by decide +kernel
theorem dX1_init_19 : decode cX1_init 19 = .ok (.aload_n 0, 1) := by decide +kernel
theorem dX1_init_20 : decode cX1_init 20 = .ok (.new 22, 3) := by decide +kernel
theorem dX1_init_23 : decode cX1_init 23 = .ok (.dup, 1) := by decide +kernel
theorem dX1_init_24 : decode cX1_init 24 = .ok (.sipush 500, 3) := by decide +kernel
theorem dX1_init_27 : decode cX1_init 27 = .ok (.bipush 100, 2) := by decide +kernel
theorem dX1_init_29 : decode cX1_init 29 = .ok (.bipush 20, 2) := by decide +kernel
theorem dX1_init_31 : decode cX1_init 31 = .ok (.invokespecial 24, 3) := by decide +kernel
theorem dX1_init_34 : decode cX1_init 34 = .ok (.putfield 27, 3) := by decide +kernel
theorem dX1_init_37 : decode cX1_init 37 = .ok (.aload_n 0, 1) := by decide +kernel
theorem dX1_init_38 : decode cX1_init 38 = .ok (.iconst 0, 1) := by decide +kernel
theorem dX1_init_39 : decode cX1_init 39 = .ok (.putfield 31, 3) := by decide +kernel
theorem dX1_init_42 : decode cX1_init 42 = .ok (.aload_n 0, 1) := by decide +kernel
theorem dX1_init_43 : decode cX1_init 43 = .ok (.iconst 0, 1) := by decide +kernel
theorem dX1_init_44 : decode cX1_init 44 = .ok (.putfield 34, 3) := by decide +kernel
theorem dX1_init_47 : decode cX1_init 47 = .ok (.aload_n 0, 1) := by decide +kernel
theorem dX1_init_48 : decode cX1_init 48 = .ok (.iconst 0, 1) := by decide +kernel
theorem dX1_init_49 : decode cX1_init 49 = .ok (.putfield 37, 3) := by decide +kernel
theorem dX1_init_52 : decode cX1_init 52 = .ok (.return_, 1) := by decide +kernel
theorem dX1_circuitAt_0 : decode cX1_circuitAt 0 = .ok (.aload_n 0, 1) := by decide +kernel
theorem dX1_circuitAt_1 : decode cX1_circuitAt 1 = .ok (.getfield 34, 3) := by decide +kernel
theorem dX1_circuitAt_4 : decode cX1_circuitAt 4 = .ok (.ifCond .ne 5, 3) := by decide +kernel
theorem dX1_circuitAt_7 : decode cX1_circuitAt 7 = .ok (.iconst 0, 1) := by decide +kernel
theorem dX1_circuitAt_8 : decode cX1_circuitAt 8 = .ok (.ireturn, 1) := by decide +kernel
theorem dX1_circuitAt_9 : decode cX1_circuitAt 9 = .ok (.iload_n 1, 1) := by decide +kernel
theorem dX1_circuitAt_10 : decode cX1_circuitAt 10 = .ok (.aload_n 0, 1) := by decide +kernel
theorem dX1_circuitAt_11 : decode cX1_circuitAt 11 = .ok (.getfield 37, 3) := by decide +kernel
theorem dX1_circuitAt_14 : decode cX1_circuitAt 14 = .ok (.if_icmp .ge 7, 3) := by decide +kernel
theorem dX1_circuitAt_17 : decode cX1_circuitAt 17 = .ok (.iconst 1, 1) := by decide +kernel
theorem dX1_circuitAt_18 : decode cX1_circuitAt 18 = .ok (.goto 4, 3) := by decide +kernel
theorem dX1_circuitAt_21 : decode cX1_circuitAt 21 = .ok (.iconst 2, 1) := by decide +kernel
theorem dX1_circuitAt_22 : decode cX1_circuitAt 22 = .ok (.ireturn, 1) := by decide +kernel
theorem dX1_answersAt_0 : decode cX1_answersAt 0 = .ok (.iconst 0, 1) := by decide +kernel
theorem dX1_answersAt_1 : decode cX1_answersAt 1 = .ok (.istore_n 2, 1) := by decide +kernel
theorem dX1_answersAt_2 : decode cX1_answersAt 2 = .ok (.iload_n 2, 1) := by decide +kernel
theorem dX1_answersAt_3 : decode cX1_answersAt 3 = .ok (.iconst 3, 1) := by decide +kernel
theorem dX1_answersAt_4 : decode cX1_answersAt 4 = .ok (.if_icmp .ge 28, 3) := by decide +kernel
theorem dX1_answersAt_7 : decode cX1_answersAt 7 = .ok (.aload_n 0, 1) := by decide +kernel
theorem dX1_answersAt_8 : decode cX1_answersAt 8 = .ok (.iload_n 1, 1) := by decide +kernel
theorem dX1_answersAt_9 : decode cX1_answersAt 9 = .ok (.invokevirtual 40, 3) := by decide +kernel
theorem dX1_answersAt_12 : decode cX1_answersAt 12 = .ok (.iconst 1, 1) := by decide +kernel
theorem dX1_answersAt_13 : decode cX1_answersAt 13 = .ok (.if_icmp .eq 19, 3) := by decide +kernel
theorem dX1_answersAt_16 : decode cX1_answersAt 16 = .ok (.aload_n 0, 1) := by decide +kernel
theorem dX1_answersAt_17 : decode cX1_answersAt 17 = .ok (.iload_n 1, 1) := by decide +kernel
theorem dX1_answersAt_18 : decode cX1_answersAt 18 = .ok (.invokevirtual 44, 3) := by decide +kernel
theorem dX1_answersAt_21 : decode cX1_answersAt 21 = .ok (.ifCond .eq 5, 3) := by decide +kernel
theorem dX1_answersAt_24 : decode cX1_answersAt 24 = .ok (.iconst 1, 1) := by decide +kernel
theorem dX1_answersAt_25 : decode cX1_answersAt 25 = .ok (.ireturn, 1) := by decide +kernel
theorem dX1_answersAt_26 : decode cX1_answersAt 26 = .ok (.iinc 2 1, 3) := by decide +kernel
theorem dX1_answersAt_29 : decode cX1_answersAt 29 = .ok (.goto (-27), 3) := by decide +kernel
theorem dX1_answersAt_32 : decode cX1_answersAt 32 = .ok (.iconst 0, 1) := by decide +kernel
theorem dX1_answersAt_33 : decode cX1_answersAt 33 = .ok (.ireturn, 1) := by decide +kernel
theorem dX1_succeedsAt_0 : decode cX1_succeedsAt 0 = .ok (.aload_n 0, 1) := by decide +kernel
theorem dX1_succeedsAt_1 : decode cX1_succeedsAt 1 = .ok (.dup, 1) := by decide +kernel
theorem dX1_succeedsAt_2 : decode cX1_succeedsAt 2 = .ok (.getfield 19, 3) := by decide +kernel
theorem dX1_succeedsAt_5 : decode cX1_succeedsAt 5 = .ok (.iconst 1, 1) := by decide +kernel
theorem dX1_succeedsAt_6 : decode cX1_succeedsAt 6 = .ok (.iadd, 1) := by decide +kernel
theorem dX1_succeedsAt_7 : decode cX1_succeedsAt 7 = .ok (.putfield 19, 3) := by decide +kernel
theorem dX1_succeedsAt_10 : decode cX1_succeedsAt 10 = .ok (.aload_n 0, 1) := by decide +kernel
theorem dX1_succeedsAt_11 : decode cX1_succeedsAt 11 = .ok (.getfield 15, 3) := by decide +kernel
theorem dX1_succeedsAt_14 : decode cX1_succeedsAt 14 = .ok (.ifCond .le 19, 3) := by decide +kernel
theorem dX1_succeedsAt_17 : decode cX1_succeedsAt 17 = .ok (.aload_n 0, 1) := by decide +kernel
theorem dX1_succeedsAt_18 : decode cX1_succeedsAt 18 = .ok (.getfield 19, 3) := by decide +kernel
theorem dX1_succeedsAt_21 : decode cX1_succeedsAt 21 = .ok (.aload_n 0, 1) := by decide +kernel
theorem dX1_succeedsAt_22 : decode cX1_succeedsAt 22 = .ok (.getfield 15, 3) := by decide +kernel
theorem dX1_succeedsAt_25 : decode cX1_succeedsAt 25 = .ok (.irem, 1) := by decide +kernel
theorem dX1_succeedsAt_26 : decode cX1_succeedsAt 26 = .ok (.ifCond .ne 7, 3) := by decide +kernel
theorem dX1_succeedsAt_29 : decode cX1_succeedsAt 29 = .ok (.iconst 1, 1) := by decide +kernel
theorem dX1_succeedsAt_30 : decode cX1_succeedsAt 30 = .ok (.goto 4, 3) := by decide +kernel
theorem dX1_succeedsAt_33 : decode cX1_succeedsAt 33 = .ok (.iconst 0, 1) := by decide +kernel
theorem dX1_succeedsAt_34 : decode cX1_succeedsAt 34 = .ok (.istore_n 2, 1) := by decide +kernel
theorem dX1_succeedsAt_35 : decode cX1_succeedsAt 35 = .ok (.aload_n 0, 1) := by decide +kernel
theorem dX1_succeedsAt_36 : decode cX1_succeedsAt 36 = .ok (.getfield 9, 3) := by decide +kernel
theorem dX1_succeedsAt_39 : decode cX1_succeedsAt 39 = .ok (.ifCond .eq 19, 3) := by decide +kernel
theorem dX1_succeedsAt_42 : decode cX1_succeedsAt 42 = .ok (.iload_n 2, 1) := by decide +kernel
theorem dX1_succeedsAt_43 : decode cX1_succeedsAt 43 = .ok (.ifCond .ne 15, 3) := by decide +kernel
theorem dX1_succeedsAt_46 : decode cX1_succeedsAt 46 = .ok (.aload_n 0, 1) := by decide +kernel
theorem dX1_succeedsAt_47 : decode cX1_succeedsAt 47 = .ok (.iconst 0, 1) := by decide +kernel
theorem dX1_succeedsAt_48 : decode cX1_succeedsAt 48 = .ok (.putfield 31, 3) := by decide +kernel
theorem dX1_succeedsAt_51 : decode cX1_succeedsAt 51 = .ok (.aload_n 0, 1) := by decide +kernel
theorem dX1_succeedsAt_52 : decode cX1_succeedsAt 52 = .ok (.iconst 0, 1) := by decide +kernel
theorem dX1_succeedsAt_53 : decode cX1_succeedsAt 53 = .ok (.putfield 34, 3) := by decide +kernel
theorem dX1_succeedsAt_56 : decode cX1_succeedsAt 56 = .ok (.iconst 1, 1) := by decide +kernel
theorem dX1_succeedsAt_57 : decode cX1_succeedsAt 57 = .ok (.ireturn, 1) := by decide +kernel
theorem dX1_succeedsAt_58 : decode cX1_succeedsAt 58 = .ok (.aload_n 0, 1) := by decide +kernel
theorem dX1_succeedsAt_59 : decode cX1_succeedsAt 59 = .ok (.dup, 1) := by decide +kernel
theorem dX1_succeedsAt_60 : decode cX1_succeedsAt 60 = .ok (.getfield 31, 3) := by decide +kernel
theorem dX1_succeedsAt_63 : decode cX1_succeedsAt 63 = .ok (.iconst 1, 1) := by decide +kernel
theorem dX1_succeedsAt_64 : decode cX1_succeedsAt 64 = .ok (.iadd, 1) := by decide +kernel
theorem dX1_succeedsAt_65 : decode cX1_succeedsAt 65 = .ok (.putfield 31, 3) := by decide +kernel
theorem dX1_succeedsAt_68 : decode cX1_succeedsAt 68 = .ok (.aload_n 0, 1) := by decide +kernel
theorem dX1_succeedsAt_69 : decode cX1_succeedsAt 69 = .ok (.getfield 31, 3) := by decide +kernel
theorem dX1_succeedsAt_72 : decode cX1_succeedsAt 72 = .ok (.iconst 5, 1) := by decide +kernel
theorem dX1_succeedsAt_73 : decode cX1_succeedsAt 73 = .ok (.if_icmp .ge 12, 3) := by decide +kernel
theorem dX1_succeedsAt_76 : decode cX1_succeedsAt 76 = .ok (.aload_n 0, 1) := by decide +kernel
theorem dX1_succeedsAt_77 : decode cX1_succeedsAt 77 = .ok (.iload_n 1, 1) := by decide +kernel
theorem dX1_succeedsAt_78 : decode cX1_succeedsAt 78 = .ok (.invokevirtual 40, 3) := by decide +kernel
theorem dX1_succeedsAt_81 : decode cX1_succeedsAt 81 = .ok (.iconst 2, 1) := by decide +kernel
theorem dX1_succeedsAt_82 : decode cX1_succeedsAt 82 = .ok (.if_icmp .ne 16, 3) := by decide +kernel
theorem dX1_succeedsAt_85 : decode cX1_succeedsAt 85 = .ok (.aload_n 0, 1) := by decide +kernel
theorem dX1_succeedsAt_86 : decode cX1_succeedsAt 86 = .ok (.iconst 1, 1) := by decide +kernel
theorem dX1_succeedsAt_87 : decode cX1_succeedsAt 87 = .ok (.putfield 34, 3) := by decide +kernel
theorem dX1_succeedsAt_90 : decode cX1_succeedsAt 90 = .ok (.aload_n 0, 1) := by decide +kernel
theorem dX1_succeedsAt_91 : decode cX1_succeedsAt 91 = .ok (.iload_n 1, 1) := by decide +kernel
theorem dX1_succeedsAt_92 : decode cX1_succeedsAt 92 = .ok (.bipush 10, 2) := by decide +kernel
theorem dX1_succeedsAt_94 : decode cX1_succeedsAt 94 = .ok (.iadd, 1) := by decide +kernel
theorem dX1_succeedsAt_95 : decode cX1_succeedsAt 95 = .ok (.putfield 37, 3) := by decide +kernel
theorem dX1_succeedsAt_98 : decode cX1_succeedsAt 98 = .ok (.iconst 0, 1) := by decide +kernel
theorem dX1_succeedsAt_99 : decode cX1_succeedsAt 99 = .ok (.ireturn, 1) := by decide +kernel
theorem dX2_init_0 : decode cX2_init 0 = .ok (.aload_n 0, 1) := by decide +kernel
theorem dX2_init_1 : decode cX2_init 1 = .ok (.invokespecial 3, 3) := by decide +kernel
theorem dX2_init_4 : decode cX2_init 4 = .ok (.aload_n 0, 1) := by decide +kernel
theorem dX2_init_5 : decode cX2_init 5 = .ok (.iconst 0, 1) := by decide +kernel
theorem dX2_init_6 : decode cX2_init 6 = .ok (.putfield 9, 3) := by decide +kernel
theorem dX2_init_9 : decode cX2_init 9 = .ok (.aload_n 0, 1) := by decide +kernel
theorem dX2_init_10 : decode cX2_init 10 = .ok (.aload_n 1, 1) := by decide +kernel
theorem dX2_init_11 : decode cX2_init 11 = .ok (.putfield 15, 3) := by decide +kernel
theorem dX2_init_14 : decode cX2_init 14 = .ok (.aload_n 0, 1) := by decide +kernel
theorem dX2_init_15 : decode cX2_init 15 = .ok (.iload_n 2, 1) := by decide +kernel
theorem dX2_init_16 : decode cX2_init 16 = .ok (.putfield 19, 3) := by decide +kernel
theorem dX2_init_19 : decode cX2_init 19 = .ok (.aload_n 0, 1) := by decide +kernel
theorem dX2_init_20 : decode cX2_init 20 = .ok (.iload_n 3, 1) := by decide +kernel
theorem dX2_init_21 : decode cX2_init 21 = .ok (.putfield 22, 3) := by decide +kernel
theorem dX2_init_24 : decode cX2_init 24 = .ok (.return_, 1) := by decide +kernel
theorem dX2_isSettledAt_0 : decode cX2_isSettledAt 0 = .ok (.iload_n 1, 1) := by decide +kernel
theorem dX2_isSettledAt_1 : decode cX2_isSettledAt 1 = .ok (.aload_n 0, 1) := by decide +kernel
theorem dX2_isSettledAt_2 : decode cX2_isSettledAt 2 = .ok (.getfield 22, 3) := by decide +kernel
theorem dX2_isSettledAt_5 : decode cX2_isSettledAt 5 = .ok (.bipush 30, 2) := by decide +kernel
theorem dX2_isSettledAt_7 : decode cX2_isSettledAt 7 = .ok (.iadd, 1) := by decide +kernel
theorem dX2_isSettledAt_8 : decode cX2_isSettledAt 8 = .ok (.if_icmp .le 7, 3) := by decide +kernel
theorem dX2_isSettledAt_11 : decode cX2_isSettledAt 11 = .ok (.iconst 1, 1) := by decide +kernel
theorem dX2_isSettledAt_12 : decode cX2_isSettledAt 12 = .ok (.goto 4, 3) := by decide +kernel
theorem dX2_isSettledAt_15 : decode cX2_isSettledAt 15 = .ok (.iconst 0, 1) := by decide +kernel
theorem dX2_isSettledAt_16 : decode cX2_isSettledAt 16 = .ok (.ireturn, 1) := by decide +kernel
theorem dX2_isDueFrom_0 : decode cX2_isDueFrom 0 = .ok (.aload_n 0, 1) := by decide +kernel
theorem dX2_isDueFrom_1 : decode cX2_isDueFrom 1 = .ok (.getfield 9, 3) := by decide +kernel
theorem dX2_isDueFrom_4 : decode cX2_isDueFrom 4 = .ok (.ifCond .ne 26, 3) := by decide +kernel
theorem dX2_isDueFrom_7 : decode cX2_isDueFrom 7 = .ok (.aload_n 0, 1) := by decide +kernel
theorem dX2_isDueFrom_8 : decode cX2_isDueFrom 8 = .ok (.getfield 15, 3) := by decide +kernel
theorem dX2_isDueFrom_11 : decode cX2_isDueFrom 11 = .ok (.getfield 25, 3) := by decide +kernel
theorem dX2_isDueFrom_14 : decode cX2_isDueFrom 14 = .ok (.iload_n 1, 1) := by decide +kernel
theorem dX2_isDueFrom_15 : decode cX2_isDueFrom 15 = .ok (.if_icmp .ne 15, 3) := by decide +kernel
theorem dX2_isDueFrom_18 : decode cX2_isDueFrom 18 = .ok (.aload_n 0, 1) := by decide +kernel
theorem dX2_isDueFrom_19 : decode cX2_isDueFrom 19 = .ok (.iload_n 2, 1) := by decide +kernel
theorem dX2_isDueFrom_20 : decode cX2_isDueFrom 20 = .ok (.invokevirtual 30, 3) := by decide +kernel
theorem dX2_isDueFrom_23 : decode cX2_isDueFrom 23 = .ok (.ifCond .eq 7, 3) := by decide +kernel
theorem dX2_isDueFrom_26 : decode cX2_isDueFrom 26 = .ok (.iconst 1, 1) := by decide +kernel
theorem dX2_isDueFrom_27 : decode cX2_isDueFrom 27 = .ok (.goto 4, 3) := by decide +kernel
theorem dX2_isDueFrom_30 : decode cX2_isDueFrom 30 = .ok (.iconst 0, 1) := by decide +kernel
theorem dX2_isDueFrom_31 : decode cX2_isDueFrom 31 = .ok (.ireturn, 1) := by decide +kernel
theorem dX3_init_0 : decode cX3_init 0 = .ok (.aload_n 0, 1) := by decide +kernel
theorem dX3_init_1 : decode cX3_init 1 = .ok (.invokespecial 1, 3) := by decide +kernel
theorem dX3_init_4 : decode cX3_init 4 = .ok (.aload_n 0, 1) := by decide +kernel
theorem dX3_init_5 : decode cX3_init 5 = .ok (.aload_n 1, 1) := by decide +kernel
theorem dX3_init_6 : decode cX3_init 6 = .ok (.iconst 0, 1) := by decide +kernel
theorem dX3_init_7 : decode cX3_init 7 = .ok (.invokevirtual 9, 3) := by decide +kernel
theorem dX3_init_10 : decode cX3_init 10 = .ok (.putfield 13, 3) := by decide +kernel
theorem dX3_init_13 : decode cX3_init 13 = .ok (.aload_n 0, 1) := by decide +kernel
theorem dX3_init_14 : decode cX3_init 14 = .ok (.aload_n 1, 1) := by decide +kernel
theorem dX3_init_15 : decode cX3_init 15 = .ok (.iconst 1, 1) := by decide +kernel
theorem dX3_init_16 : decode cX3_init 16 = .ok (.invokevirtual 9, 3) := by decide +kernel
theorem dX3_init_19 : decode cX3_init 19 = .ok (.putfield 19, 3) := by decide +kernel
theorem dX3_init_22 : decode cX3_init 22 = .ok (.aload_n 0, 1) := by decide +kernel
theorem dX3_init_23 : decode cX3_init 23 = .ok (.aload_n 1, 1) := by decide +kernel
theorem dX3_init_24 : decode cX3_init 24 = .ok (.iconst 2, 1) := by decide +kernel
theorem dX3_init_25 : decode cX3_init 25 = .ok (.invokevirtual 9, 3) := by decide +kernel
theorem dX3_init_28 : decode cX3_init 28 = .ok (.putfield 22, 3) := by decide +kernel
theorem dX3_init_31 : decode cX3_init 31 = .ok (.aload_n 0, 1) := by decide +kernel
theorem dX3_init_32 : decode cX3_init 32 = .ok (.aload_n 1, 1) := by decide +kernel
theorem dX3_init_33 : decode cX3_init 33 = .ok (.iconst 3, 1) := by decide +kernel
theorem dX3_init_34 : decode cX3_init 34 = .ok (.invokevirtual 9, 3) := by decide +kernel
theorem dX3_init_37 : decode cX3_init 37 = .ok (.putfield 25, 3) := by decide +kernel
theorem dX3_init_40 : decode cX3_init 40 = .ok (.aload_n 0, 1) := by decide +kernel
theorem dX3_init_41 : decode cX3_init 41 = .ok (.aload_n 1, 1) := by decide +kernel
theorem dX3_init_42 : decode cX3_init 42 = .ok (.iconst 4, 1) := by decide +kernel
theorem dX3_init_43 : decode cX3_init 43 = .ok (.invokevirtual 9, 3) := by decide +kernel
theorem dX3_init_46 : decode cX3_init 46 = .ok (.putfield 28, 3) := by decide +kernel
theorem dX3_init_49 : decode cX3_init 49 = .ok (.aload_n 0, 1) := by decide +kernel
theorem dX3_init_50 : decode cX3_init 50 = .ok (.aload_n 1, 1) := by decide +kernel
theorem dX3_init_51 : decode cX3_init 51 = .ok (.iconst 5, 1) := by decide +kernel
theorem dX3_init_52 : decode cX3_init 52 = .ok (.invokevirtual 9, 3) := by decide +kernel
theorem dX3_init_55 : decode cX3_init 55 = .ok (.iconst 1, 1) := by decide +kernel
theorem dX3_init_56 : decode cX3_init 56 = .ok (.if_icmp .ne 7, 3) := by decide +kernel
theorem dX3_init_59 : decode cX3_init 59 = .ok (.iconst 1, 1) := by decide +kernel
theorem dX3_init_60 : decode cX3_init 60 = .ok (.goto 4, 3) := by decide +kernel
theorem dX3_init_63 : decode cX3_init 63 = .ok (.iconst 0, 1) := by decide +kernel
theorem dX3_init_64 : decode cX3_init 64 = .ok (.putfield 31, 3) := by decide +kernel
theorem dX3_init_67 : decode cX3_init 67 = .ok (.aload_n 0, 1) := by decide +kernel
theorem dX3_init_68 : decode cX3_init 68 = .ok (.aload_n 2, 1) := by decide +kernel
theorem dX3_init_69 : decode cX3_init 69 = .ok (.putfield 35, 3) := by decide +kernel
theorem dX3_init_72 : decode cX3_init 72 = .ok (.aload_n 0, 1) := by decide +kernel
theorem dX3_init_73 : decode cX3_init 73 = .ok (.iload_n 3, 1) := by decide +kernel
theorem dX3_init_74 : decode cX3_init 74 = .ok (.putfield 39, 3) := by decide +kernel
theorem dX3_init_77 : decode cX3_init 77 = .ok (.return_, 1) := by decide +kernel
theorem dX3_isFixedAt_0 : decode cX3_isFixedAt 0 = .ok (.iload_n 1, 1) := by decide +kernel
theorem dX3_isFixedAt_1 : decode cX3_isFixedAt 1 = .ok (.aload_n 0, 1) := by decide +kernel
theorem dX3_isFixedAt_2 : decode cX3_isFixedAt 2 = .ok (.getfield 39, 3) := by decide +kernel
theorem dX3_isFixedAt_5 : decode cX3_isFixedAt 5 = .ok (.if_icmp .ge 7, 3) := by decide +kernel
theorem dX3_isFixedAt_8 : decode cX3_isFixedAt 8 = .ok (.iconst 1, 1) := by decide +kernel
theorem dX3_isFixedAt_9 : decode cX3_isFixedAt 9 = .ok (.goto 4, 3) := by decide +kernel
theorem dX3_isFixedAt_12 : decode cX3_isFixedAt 12 = .ok (.iconst 0, 1) := by decide +kernel
theorem dX3_isFixedAt_13 : decode cX3_isFixedAt 13 = .ok (.ireturn, 1) := by decide +kernel
theorem dX3_isOnLaneOf_0 : decode cX3_isOnLaneOf 0 = .ok (.aload_n 0, 1) := by decide +kernel
theorem dX3_isOnLaneOf_1 : decode cX3_isOnLaneOf 1 = .ok (.getfield 13, 3) := by decide +kernel
theorem dX3_isOnLaneOf_4 : decode cX3_isOnLaneOf 4 = .ok (.aload_n 1, 1) := by decide +kernel
theorem dX3_isOnLaneOf_5 : decode cX3_isOnLaneOf 5 = .ok (.iconst 0, 1) := by decide +kernel
theorem dX3_isOnLaneOf_6 : decode cX3_isOnLaneOf 6 = .ok (.invokevirtual 9, 3) := by decide +kernel
theorem dX3_isOnLaneOf_9 : decode cX3_isOnLaneOf 9 = .ok (.if_icmp .ne 43, 3) := by decide +kernel
theorem dX3_isOnLaneOf_12 : decode cX3_isOnLaneOf 12 = .ok (.aload_n 0, 1) := by decide +kernel
theorem dX3_isOnLaneOf_13 : decode cX3_isOnLaneOf 13 = .ok (.getfield 19, 3) := by decide +kernel
theorem dX3_isOnLaneOf_16 : decode cX3_isOnLaneOf 16 = .ok (.aload_n 1, 1) := by decide +kernel
theorem dX3_isOnLaneOf_17 : decode cX3_isOnLaneOf 17 = .ok (.iconst 1, 1) := by decide +kernel
theorem dX3_isOnLaneOf_18 : decode cX3_isOnLaneOf 18 = .ok (.invokevirtual 9, 3) := by decide +kernel
theorem dX3_isOnLaneOf_21 : decode cX3_isOnLaneOf 21 = .ok (.if_icmp .ne 31, 3) := by decide +kernel
theorem dX3_isOnLaneOf_24 : decode cX3_isOnLaneOf 24 = .ok (.aload_n 0, 1) := by decide +kernel
theorem dX3_isOnLaneOf_25 : decode cX3_isOnLaneOf 25 = .ok (.getfield 22, 3) := by decide +kernel
theorem dX3_isOnLaneOf_28 : decode cX3_isOnLaneOf 28 = .ok (.aload_n 1, 1) := by decide +kernel
theorem dX3_isOnLaneOf_29 : decode cX3_isOnLaneOf 29 = .ok (.iconst 2, 1) := by decide +kernel
theorem dX3_isOnLaneOf_30 : decode cX3_isOnLaneOf 30 = .ok (.invokevirtual 9, 3) := by decide +kernel
theorem dX3_isOnLaneOf_33 : decode cX3_isOnLaneOf 33 = .ok (.if_icmp .ne 19, 3) := by decide +kernel
theorem dX3_isOnLaneOf_36 : decode cX3_isOnLaneOf 36 = .ok (.aload_n 0, 1) := by decide +kernel
theorem dX3_isOnLaneOf_37 : decode cX3_isOnLaneOf 37 = .ok (.getfield 25, 3) := by decide +kernel
theorem dX3_isOnLaneOf_40 : decode cX3_isOnLaneOf 40 = .ok (.aload_n 1, 1) := by decide +kernel
theorem dX3_isOnLaneOf_41 : decode cX3_isOnLaneOf 41 = .ok (.iconst 3, 1) := by decide +kernel
theorem dX3_isOnLaneOf_42 : decode cX3_isOnLaneOf 42 = .ok (.invokevirtual 9, 3) := by decide +kernel
theorem dX3_isOnLaneOf_45 : decode cX3_isOnLaneOf 45 = .ok (.if_icmp .ne 7, 3) := by decide +kernel
theorem dX3_isOnLaneOf_48 : decode cX3_isOnLaneOf 48 = .ok (.iconst 1, 1) := by decide +kernel
theorem dX3_isOnLaneOf_49 : decode cX3_isOnLaneOf 49 = .ok (.goto 4, 3) := by decide +kernel
theorem dX3_isOnLaneOf_52 : decode cX3_isOnLaneOf 52 = .ok (.iconst 0, 1) := by decide +kernel
theorem dX3_isOnLaneOf_53 : decode cX3_isOnLaneOf 53 = .ok (.ireturn, 1) := by decide +kernel
theorem dX3_priceBy_0 : decode cX3_priceBy 0 = .ok (.iload_n 2, 1) := by decide +kernel
theorem dX3_priceBy_1 : decode cX3_priceBy 1 = .ok (.bipush 99, 2) := by decide +kernel
theorem dX3_priceBy_3 : decode cX3_priceBy 3 = .ok (.iadd, 1) := by decide +kernel
theorem dX3_priceBy_4 : decode cX3_priceBy 4 = .ok (.bipush 100, 2) := by decide +kernel
theorem dX3_priceBy_6 : decode cX3_priceBy 6 = .ok (.idiv, 1) := by decide +kernel
theorem dX3_priceBy_7 : decode cX3_priceBy 7 = .ok (.istore_n 3, 1) := by decide +kernel
theorem dX3_priceBy_8 : decode cX3_priceBy 8 = .ok (.aload_n 1, 1) := by decide +kernel
theorem dX3_priceBy_9 : decode cX3_priceBy 9 = .ok (.getfield 42, 3) := by decide +kernel
theorem dX3_priceBy_12 : decode cX3_priceBy 12 = .ok (.aload_n 1, 1) := by decide +kernel
theorem dX3_priceBy_13 : decode cX3_priceBy 13 = .ok (.getfield 47, 3) := by decide +kernel
theorem dX3_priceBy_16 : decode cX3_priceBy 16 = .ok (.aload_n 0, 1) := by decide +kernel
theorem dX3_priceBy_17 : decode cX3_priceBy 17 = .ok (.getfield 22, 3) := by decide +kernel
theorem dX3_priceBy_20 : decode cX3_priceBy 20 = .ok (.aload_n 0, 1) := by decide +kernel
theorem dX3_priceBy_21 : decode cX3_priceBy 21 = .ok (.getfield 25, 3) := by decide +kernel
theorem dX3_priceBy_24 : decode cX3_priceBy 24 = .ok (.isub, 1) := by decide +kernel
theorem dX3_priceBy_25 : decode cX3_priceBy 25 = .ok (.invokestatic 50, 3) := by decide +kernel
theorem dX3_priceBy_28 : decode cX3_priceBy 28 = .ok (.imul, 1) := by decide +kernel
theorem dX3_priceBy_29 : decode cX3_priceBy 29 = .ok (.iadd, 1) := by decide +kernel
theorem dX3_priceBy_30 : decode cX3_priceBy 30 = .ok (.aload_n 1, 1) := by decide +kernel
theorem dX3_priceBy_31 : decode cX3_priceBy 31 = .ok (.getfield 55, 3) := by decide +kernel
theorem dX3_priceBy_34 : decode cX3_priceBy 34 = .ok (.iload_n 3, 1) := by decide +kernel
theorem dX3_priceBy_35 : decode cX3_priceBy 35 = .ok (.imul, 1) := by decide +kernel
theorem dX3_priceBy_36 : decode cX3_priceBy 36 = .ok (.iadd, 1) := by decide +kernel
theorem dX3_priceBy_37 : decode cX3_priceBy 37 = .ok (.istore 4, 2) := by decide +kernel
theorem dX3_priceBy_39 : decode cX3_priceBy 39 = .ok (.aload_n 0, 1) := by decide +kernel
theorem dX3_priceBy_40 : decode cX3_priceBy 40 = .ok (.getfield 31, 3) := by decide +kernel
theorem dX3_priceBy_43 : decode cX3_priceBy 43 = .ok (.ifCond .eq 12, 3) := by decide +kernel
theorem dX3_priceBy_46 : decode cX3_priceBy 46 = .ok (.iload 4, 2) := by decide +kernel
theorem dX3_priceBy_48 : decode cX3_priceBy 48 = .ok (.iconst 3, 1) := by decide +kernel
theorem dX3_priceBy_49 : decode cX3_priceBy 49 = .ok (.imul, 1) := by decide +kernel
theorem dX3_priceBy_50 : decode cX3_priceBy 50 = .ok (.iconst 2, 1) := by decide +kernel
theorem dX3_priceBy_51 : decode cX3_priceBy 51 = .ok (.idiv, 1) := by decide +kernel
theorem dX3_priceBy_52 : decode cX3_priceBy 52 = .ok (.goto 5, 3) := by decide +kernel
theorem dX3_priceBy_55 : decode cX3_priceBy 55 = .ok (.iload 4, 2) := by decide +kernel
theorem dX3_priceBy_57 : decode cX3_priceBy 57 = .ok (.ireturn, 1) := by decide +kernel
theorem dX4_init_0 : decode cX4_init 0 = .ok (.aload_n 0, 1) := by decide +kernel
theorem dX4_init_1 : decode cX4_init 1 = .ok (.invokespecial 3, 3) := by decide +kernel
theorem dX4_init_4 : decode cX4_init 4 = .ok (.aload_n 0, 1) := by decide +kernel
theorem dX4_init_5 : decode cX4_init 5 = .ok (.bipush 60, 2) := by decide +kernel
theorem dX4_init_7 : decode cX4_init 7 = .ok (.newarray .char, 2) := by decide +kernel
theorem dX4_init_9 : decode cX4_init 9 = .ok (.putfield 11, 3) := by decide +kernel
theorem dX4_init_12 : decode cX4_init 12 = .ok (.aload_n 0, 1) := by decide +kernel
theorem dX4_init_13 : decode cX4_init 13 = .ok (.bipush 6, 2) := by decide +kernel
theorem dX4_init_15 : decode cX4_init 15 = .ok (.newarray .int, 2) := by decide +kernel
theorem dX4_init_17 : decode cX4_init 17 = .ok (.putfield 15, 3) := by decide +kernel
theorem dX4_init_20 : decode cX4_init 20 = .ok (.aload_n 0, 1) := by decide +kernel
theorem dX4_init_21 : decode cX4_init 21 = .ok (.iconst 0, 1) := by decide +kernel
theorem dX4_init_22 : decode cX4_init 22 = .ok (.putfield 19, 3) := by decide +kernel
theorem dX4_init_25 : decode cX4_init 25 = .ok (.aload_n 0, 1) := by decide +kernel
theorem dX4_init_26 : decode cX4_init 26 = .ok (.ldc 23, 2) := by decide +kernel
theorem dX4_init_28 : decode cX4_init 28 = .ok (.putfield 25, 3) := by decide +kernel
theorem dX4_init_31 : decode cX4_init 31 = .ok (.aload_n 0, 1) := by decide +kernel
theorem dX4_init_32 : decode cX4_init 32 = .ok (.bipush 32, 2) := by decide +kernel
theorem dX4_init_34 : decode cX4_init 34 = .ok (.putfield 29, 3) := by decide +kernel
theorem dX4_init_37 : decode cX4_init 37 = .ok (.return_, 1) := by decide +kernel
theorem dX4_isTypable_0 : decode cX4_isTypable 0 = .ok (.iload_n 0, 1) := by decide +kernel
theorem dX4_isTypable_1 : decode cX4_isTypable 1 = .ok (.bipush 65, 2) := by decide +kernel
theorem dX4_isTypable_3 : decode cX4_isTypable 3 = .ok (.if_icmp .lt 9, 3) := by decide +kernel
theorem dX4_isTypable_6 : decode cX4_isTypable 6 = .ok (.iload_n 0, 1) := by decide +kernel
theorem dX4_isTypable_7 : decode cX4_isTypable 7 = .ok (.bipush 90, 2) := by decide +kernel
theorem dX4_isTypable_9 : decode cX4_isTypable 9 = .ok (.if_icmp .le 22, 3) := by decide +kernel
theorem dX4_isTypable_12 : decode cX4_isTypable 12 = .ok (.iload_n 0, 1) := by decide +kernel
theorem dX4_isTypable_13 : decode cX4_isTypable 13 = .ok (.invokestatic 33, 3) := by decide +kernel
theorem dX4_isTypable_16 : decode cX4_isTypable 16 = .ok (.ifCond .ne 15, 3) := by decide +kernel
theorem dX4_isTypable_19 : decode cX4_isTypable 19 = .ok (.iload_n 0, 1) := by decide +kernel
theorem dX4_isTypable_20 : decode cX4_isTypable 20 = .ok (.bipush 61, 2) := by decide +kernel
theorem dX4_isTypable_22 : decode cX4_isTypable 22 = .ok (.if_icmp .eq 9, 3) := by decide +kernel
theorem dX4_isTypable_25 : decode cX4_isTypable 25 = .ok (.iload_n 0, 1) := by decide +kernel
theorem dX4_isTypable_26 : decode cX4_isTypable 26 = .ok (.bipush 59, 2) := by decide +kernel
theorem dX4_isTypable_28 : decode cX4_isTypable 28 = .ok (.if_icmp .ne 7, 3) := by decide +kernel
theorem dX4_isTypable_31 : decode cX4_isTypable 31 = .ok (.iconst 1, 1) := by decide +kernel
theorem dX4_isTypable_32 : decode cX4_isTypable 32 = .ok (.goto 4, 3) := by decide +kernel
theorem dX4_isTypable_35 : decode cX4_isTypable 35 = .ok (.iconst 0, 1) := by decide +kernel
theorem dX4_isTypable_36 : decode cX4_isTypable 36 = .ok (.ireturn, 1) := by decide +kernel
theorem dX4_isFull_0 : decode cX4_isFull 0 = .ok (.aload_n 0, 1) := by decide +kernel
theorem dX4_isFull_1 : decode cX4_isFull 1 = .ok (.getfield 19, 3) := by decide +kernel
theorem dX4_isFull_4 : decode cX4_isFull 4 = .ok (.aload_n 0, 1) := by decide +kernel
theorem dX4_isFull_5 : decode cX4_isFull 5 = .ok (.getfield 11, 3) := by decide +kernel
theorem dX4_isFull_8 : decode cX4_isFull 8 = .ok (.arraylength, 1) := by decide +kernel
theorem dX4_isFull_9 : decode cX4_isFull 9 = .ok (.if_icmp .lt 7, 3) := by decide +kernel
theorem dX4_isFull_12 : decode cX4_isFull 12 = .ok (.iconst 1, 1) := by decide +kernel
theorem dX4_isFull_13 : decode cX4_isFull 13 = .ok (.goto 4, 3) := by decide +kernel
theorem dX4_isFull_16 : decode cX4_isFull 16 = .ok (.iconst 0, 1) := by decide +kernel
theorem dX4_isFull_17 : decode cX4_isFull 17 = .ok (.ireturn, 1) := by decide +kernel
theorem dX4_append_0 : decode cX4_append 0 = .ok (.aload_n 0, 1) := by decide +kernel
theorem dX4_append_1 : decode cX4_append 1 = .ok (.getfield 19, 3) := by decide +kernel
theorem dX4_append_4 : decode cX4_append 4 = .ok (.aload_n 0, 1) := by decide +kernel
theorem dX4_append_5 : decode cX4_append 5 = .ok (.getfield 11, 3) := by decide +kernel
theorem dX4_append_8 : decode cX4_append 8 = .ok (.arraylength, 1) := by decide +kernel
theorem dX4_append_9 : decode cX4_append 9 = .ok (.if_icmp .ge 23, 3) := by decide +kernel
theorem dX4_append_12 : decode cX4_append 12 = .ok (.aload_n 0, 1) := by decide +kernel
theorem dX4_append_13 : decode cX4_append 13 = .ok (.getfield 11, 3) := by decide +kernel
theorem dX4_append_16 : decode cX4_append 16 = .ok (.aload_n 0, 1) := by decide +kernel
theorem dX4_append_17 : decode cX4_append 17 = .ok (.getfield 19, 3) := by decide +kernel
theorem dX4_append_20 : decode cX4_append 20 = .ok (.iload_n 1, 1) := by decide +kernel
theorem dX4_append_21 : decode cX4_append 21 = .ok (.castore, 1) := by decide +kernel
theorem dX4_append_22 : decode cX4_append 22 = .ok (.aload_n 0, 1) := by decide +kernel
theorem dX4_append_23 : decode cX4_append 23 = .ok (.dup, 1) := by decide +kernel
theorem dX4_append_24 : decode cX4_append 24 = .ok (.getfield 19, 3) := by decide +kernel
theorem dX4_append_27 : decode cX4_append 27 = .ok (.iconst 1, 1) := by decide +kernel
theorem dX4_append_28 : decode cX4_append 28 = .ok (.iadd, 1) := by decide +kernel
theorem dX4_append_29 : decode cX4_append 29 = .ok (.putfield 19, 3) := by decide +kernel
theorem dX4_append_32 : decode cX4_append 32 = .ok (.aload_n 0, 1) := by decide +kernel
theorem dX4_append_33 : decode cX4_append 33 = .ok (.getfield 19, 3) := by decide +kernel
theorem dX4_append_36 : decode cX4_append 36 = .ok (.ireturn, 1) := by decide +kernel
theorem dX4_empty_0 : decode cX4_empty 0 = .ok (.aload_n 0, 1) := by decide +kernel
theorem dX4_empty_1 : decode cX4_empty 1 = .ok (.getfield 19, 3) := by decide +kernel
theorem dX4_empty_4 : decode cX4_empty 4 = .ok (.istore_n 1, 1) := by decide +kernel
theorem dX4_empty_5 : decode cX4_empty 5 = .ok (.aload_n 0, 1) := by decide +kernel
theorem dX4_empty_6 : decode cX4_empty 6 = .ok (.iconst 0, 1) := by decide +kernel
theorem dX4_empty_7 : decode cX4_empty 7 = .ok (.putfield 19, 3) := by decide +kernel
theorem dX4_empty_10 : decode cX4_empty 10 = .ok (.iload_n 1, 1) := by decide +kernel
theorem dX4_empty_11 : decode cX4_empty 11 = .ok (.ireturn, 1) := by decide +kernel
theorem dX4_faultText_0 : decode cX4_faultText 0 = .ok (.aload_n 0, 1) := by decide +kernel
theorem dX4_faultText_1 : decode cX4_faultText 1 = .ok (.invokevirtual 37, 3) := by decide +kernel
theorem dX4_faultText_4 : decode cX4_faultText 4 = .ok (.aload_n 0, 1) := by decide +kernel
theorem dX4_faultText_5 : decode cX4_faultText 5 = .ok (.getfield 25, 3) := by decide +kernel
theorem dX4_faultText_8 : decode cX4_faultText 8 = .ok (.invokevirtual 40, 3) := by decide +kernel
theorem dX4_faultText_11 : decode cX4_faultText 11 = .ok (.ifCond .eq 6, 3) := by decide +kernel
theorem dX4_faultText_14 : decode cX4_faultText 14 = .ok (.ldc 23, 2) := by decide +kernel
theorem dX4_faultText_16 : decode cX4_faultText 16 = .ok (.areturn, 1) := by decide +kernel
theorem dX4_faultText_17 : decode cX4_faultText 17 = .ok (.new 46, 3) := by decide +kernel
theorem dX4_faultText_20 : decode cX4_faultText 20 = .ok (.dup, 1) := by decide +kernel
theorem dX4_faultText_21 : decode cX4_faultText 21 = .ok (.invokespecial 48, 3) := by decide +kernel
theorem dX4_faultText_24 : decode cX4_faultText 24 = .ok (.astore_n 1, 1) := by decide +kernel
theorem dX4_faultText_25 : decode cX4_faultText 25 = .ok (.aload_n 1, 1) := by decide +kernel
theorem dX4_faultText_26 : decode cX4_faultText 26 = .ok (.aload_n 0, 1) := by decide +kernel
theorem dX4_faultText_27 : decode cX4_faultText 27 = .ok (.getfield 25, 3) := by decide +kernel
theorem dX4_faultText_30 : decode cX4_faultText 30 = .ok (.invokevirtual 49, 3) := by decide +kernel
theorem dX4_faultText_33 : decode cX4_faultText 33 = .ok (.pop, 1) := by decide +kernel
theorem dX4_faultText_34 : decode cX4_faultText 34 = .ok (.aload_n 1, 1) := by decide +kernel
theorem dX4_faultText_35 : decode cX4_faultText 35 = .ok (.bipush 32, 2) := by decide +kernel
theorem dX4_faultText_37 : decode cX4_faultText 37 = .ok (.invokevirtual 53, 3) := by decide +kernel
theorem dX4_faultText_40 : decode cX4_faultText 40 = .ok (.pop, 1) := by decide +kernel
theorem dX4_faultText_41 : decode cX4_faultText 41 = .ok (.aload_n 1, 1) := by decide +kernel
theorem dX4_faultText_42 : decode cX4_faultText 42 = .ok (.aload_n 0, 1) := by decide +kernel
theorem dX4_faultText_43 : decode cX4_faultText 43 = .ok (.getfield 29, 3) := by decide +kernel
theorem dX4_faultText_46 : decode cX4_faultText 46 = .ok (.invokevirtual 53, 3) := by decide +kernel
theorem dX4_faultText_49 : decode cX4_faultText 49 = .ok (.pop, 1) := by decide +kernel
theorem dX4_faultText_50 : decode cX4_faultText 50 = .ok (.aload_n 1, 1) := by decide +kernel
theorem dX4_faultText_51 : decode cX4_faultText 51 = .ok (.invokevirtual 56, 3) := by decide +kernel
theorem dX4_faultText_54 : decode cX4_faultText 54 = .ok (.areturn, 1) := by decide +kernel
theorem dX4_valueOf_0 : decode cX4_valueOf 0 = .ok (.iload_n 1, 1) := by decide +kernel
theorem dX4_valueOf_1 : decode cX4_valueOf 1 = .ok (.ifCond .lt 21, 3) := by decide +kernel
theorem dX4_valueOf_4 : decode cX4_valueOf 4 = .ok (.iload_n 1, 1) := by decide +kernel
theorem dX4_valueOf_5 : decode cX4_valueOf 5 = .ok (.aload_n 0, 1) := by decide +kernel
theorem dX4_valueOf_6 : decode cX4_valueOf 6 = .ok (.getfield 15, 3) := by decide +kernel
theorem dX4_valueOf_9 : decode cX4_valueOf 9 = .ok (.arraylength, 1) := by decide +kernel
theorem dX4_valueOf_10 : decode cX4_valueOf 10 = .ok (.if_icmp .ge 12, 3) := by decide +kernel
theorem dX4_valueOf_13 : decode cX4_valueOf 13 = .ok (.aload_n 0, 1) := by decide +kernel
theorem dX4_valueOf_14 : decode cX4_valueOf 14 = .ok (.getfield 15, 3) := by decide +kernel
theorem dX4_valueOf_17 : decode cX4_valueOf 17 = .ok (.iload_n 1, 1) := by decide +kernel
theorem dX4_valueOf_18 : decode cX4_valueOf 18 = .ok (.iaload, 1) := by decide +kernel
theorem dX4_valueOf_19 : decode cX4_valueOf 19 = .ok (.goto 4, 3) := by decide +kernel
theorem dX4_valueOf_22 : decode cX4_valueOf 22 = .ok (.iconst (-1), 1) := by decide +kernel
theorem dX4_valueOf_23 : decode cX4_valueOf 23 = .ok (.ireturn, 1) := by decide +kernel
theorem dX4_readText_0 : decode cX4_readText 0 = .ok (.aload_n 0, 1) := by decide +kernel
theorem dX4_readText_1 : decode cX4_readText 1 = .ok (.getfield 15, 3) := by decide +kernel
theorem dX4_readText_4 : decode cX4_readText 4 = .ok (.iconst (-1), 1) := by decide +kernel
theorem dX4_readText_5 : decode cX4_readText 5 = .ok (.invokestatic 60, 3) := by decide +kernel
theorem dX4_readText_8 : decode cX4_readText 8 = .ok (.aload_n 0, 1) := by decide +kernel
theorem dX4_readText_9 : decode cX4_readText 9 = .ok (.ldc 23, 2) := by decide +kernel
theorem dX4_readText_11 : decode cX4_readText 11 = .ok (.putfield 25, 3) := by decide +kernel
theorem dX4_readText_14 : decode cX4_readText 14 = .ok (.iconst 0, 1) := by decide +kernel
theorem dX4_readText_15 : decode cX4_readText 15 = .ok (.istore_n 1, 1) := by decide +kernel
theorem dX4_readText_16 : decode cX4_readText 16 = .ok (.iconst 0, 1) := by decide +kernel
theorem dX4_readText_17 : decode cX4_readText 17 = .ok (.istore_n 2, 1) := by decide +kernel
theorem dX4_readText_18 : decode cX4_readText 18 = .ok (.iload_n 2, 1) := by decide +kernel
theorem dX4_readText_19 : decode cX4_readText 19 = .ok (.aload_n 0, 1) := by decide +kernel
theorem dX4_readText_20 : decode cX4_readText 20 = .ok (.getfield 19, 3) := by decide +kernel
theorem dX4_readText_23 : decode cX4_readText 23 = .ok (.if_icmp .gt 44, 3) := by decide +kernel
theorem dX4_readText_26 : decode cX4_readText 26 = .ok (.iload_n 1, 1) := by decide +kernel
theorem dX4_readText_27 : decode cX4_readText 27 = .ok (.aload_n 0, 1) := by decide +kernel
theorem dX4_readText_28 : decode cX4_readText 28 = .ok (.getfield 19, 3) := by decide +kernel
theorem dX4_readText_31 : decode cX4_readText 31 = .ok (.if_icmp .gt 36, 3) := by decide +kernel
theorem dX4_readText_34 : decode cX4_readText 34 = .ok (.aload_n 0, 1) := by decide +kernel
theorem dX4_readText_35 : decode cX4_readText 35 = .ok (.getfield 25, 3) := by decide +kernel
theorem dX4_readText_38 : decode cX4_readText 38 = .ok (.invokevirtual 40, 3) := by decide +kernel
theorem dX4_readText_41 : decode cX4_readText 41 = .ok (.ifCond .eq 26, 3) := by decide +kernel
theorem dX4_readText_44 : decode cX4_readText 44 = .ok (.aload_n 0, 1) := by decide +kernel
theorem dX4_readText_45 : decode cX4_readText 45 = .ok (.iload_n 1, 1) := by decide +kernel
theorem dX4_readText_46 : decode cX4_readText 46 = .ok (.invokevirtual 66, 3) := by decide +kernel
theorem dX4_readText_49 : decode cX4_readText 49 = .ok (.istore_n 3, 1) := by decide +kernel
theorem dX4_readText_50 : decode cX4_readText 50 = .ok (.aload_n 0, 1) := by decide +kernel
theorem dX4_readText_51 : decode cX4_readText 51 = .ok (.iload_n 2, 1) := by decide +kernel
theorem dX4_readText_52 : decode cX4_readText 52 = .ok (.iload_n 1, 1) := by decide +kernel
theorem dX4_readText_53 : decode cX4_readText 53 = .ok (.iload_n 3, 1) := by decide +kernel
theorem dX4_readText_54 : decode cX4_readText 54 = .ok (.invokevirtual 70, 3) := by decide +kernel
theorem dX4_readText_57 : decode cX4_readText 57 = .ok (.iload_n 3, 1) := by decide +kernel
theorem dX4_readText_58 : decode cX4_readText 58 = .ok (.iconst 1, 1) := by decide +kernel
theorem dX4_readText_59 : decode cX4_readText 59 = .ok (.iadd, 1) := by decide +kernel
theorem dX4_readText_60 : decode cX4_readText 60 = .ok (.istore_n 1, 1) := by decide +kernel
theorem dX4_readText_61 : decode cX4_readText 61 = .ok (.iinc 2 1, 3) := by decide +kernel
theorem dX4_readText_64 : decode cX4_readText 64 = .ok (.goto (-46), 3) := by decide +kernel
theorem dX4_readText_67 : decode cX4_readText 67 = .ok (.aload_n 0, 1) := by decide +kernel
theorem dX4_readText_68 : decode cX4_readText 68 = .ok (.getfield 25, 3) := by decide +kernel
theorem dX4_readText_71 : decode cX4_readText 71 = .ok (.invokevirtual 40, 3) := by decide +kernel
theorem dX4_readText_74 : decode cX4_readText 74 = .ok (.ifCond .eq 7, 3) := by decide +kernel
theorem dX4_readText_77 : decode cX4_readText 77 = .ok (.aload_n 0, 1) := by decide +kernel
theorem dX4_readText_78 : decode cX4_readText 78 = .ok (.invokevirtual 74, 3) := by decide +kernel
theorem dX4_readText_81 : decode cX4_readText 81 = .ok (.return_, 1) := by decide +kernel
theorem dX4_endOfPart_0 : decode cX4_endOfPart 0 = .ok (.iload_n 1, 1) := by decide +kernel
theorem dX4_endOfPart_1 : decode cX4_endOfPart 1 = .ok (.istore_n 2, 1) := by decide +kernel
theorem dX4_endOfPart_2 : decode cX4_endOfPart 2 = .ok (.iload_n 2, 1) := by decide +kernel
theorem dX4_endOfPart_3 : decode cX4_endOfPart 3 = .ok (.aload_n 0, 1) := by decide +kernel
theorem dX4_endOfPart_4 : decode cX4_endOfPart 4 = .ok (.getfield 19, 3) := by decide +kernel
theorem dX4_endOfPart_7 : decode cX4_endOfPart 7 = .ok (.if_icmp .ge 19, 3) := by decide +kernel
theorem dX4_endOfPart_10 : decode cX4_endOfPart 10 = .ok (.aload_n 0, 1) := by decide +kernel
theorem dX4_endOfPart_11 : decode cX4_endOfPart 11 = .ok (.iload_n 2, 1) := by decide +kernel
theorem dX4_endOfPart_12 : decode cX4_endOfPart 12 = .ok (.invokevirtual 77, 3) := by decide +kernel
theorem dX4_endOfPart_15 : decode cX4_endOfPart 15 = .ok (.bipush 59, 2) := by decide +kernel
theorem dX4_endOfPart_17 : decode cX4_endOfPart 17 = .ok (.if_icmp .eq 9, 3) := by decide +kernel
theorem dX4_endOfPart_20 : decode cX4_endOfPart 20 = .ok (.iinc 2 1, 3) := by decide +kernel
theorem dX4_endOfPart_23 : decode cX4_endOfPart 23 = .ok (.goto (-21), 3) := by decide +kernel
theorem dX4_endOfPart_26 : decode cX4_endOfPart 26 = .ok (.iload_n 2, 1) := by decide +kernel
theorem dX4_endOfPart_27 : decode cX4_endOfPart 27 = .ok (.ireturn, 1) := by decide +kernel
theorem dX4_readPart_0 : decode cX4_readPart 0 = .ok (.aload_n 0, 1) := by decide +kernel
theorem dX4_readPart_1 : decode cX4_readPart 1 = .ok (.iload_n 2, 1) := by decide +kernel
theorem dX4_readPart_2 : decode cX4_readPart 2 = .ok (.iload_n 3, 1) := by decide +kernel
theorem dX4_readPart_3 : decode cX4_readPart 3 = .ok (.invokevirtual 81, 3) := by decide +kernel
theorem dX4_readPart_6 : decode cX4_readPart 6 = .ok (.istore 4, 2) := by decide +kernel
theorem dX4_readPart_8 : decode cX4_readPart 8 = .ok (.iload 4, 2) := by decide +kernel
theorem dX4_readPart_10 : decode cX4_readPart 10 = .ok (.ifCond .lt 13, 3) := by decide +kernel
theorem dX4_readPart_13 : decode cX4_readPart 13 = .ok (.iload 4, 2) := by decide +kernel
theorem dX4_readPart_15 : decode cX4_readPart 15 = .ok (.aload_n 0, 1) := by decide +kernel
theorem dX4_readPart_16 : decode cX4_readPart 16 = .ok (.getfield 15, 3) := by decide +kernel
theorem dX4_readPart_19 : decode cX4_readPart 19 = .ok (.arraylength, 1) := by decide +kernel
theorem dX4_readPart_20 : decode cX4_readPart 20 = .ok (.if_icmp .lt 15, 3) := by decide +kernel
theorem dX4_readPart_23 : decode cX4_readPart 23 = .ok (.aload_n 0, 1) := by decide +kernel
theorem dX4_readPart_24 : decode cX4_readPart 24 = .ok (.ldc 85, 2) := by decide +kernel
theorem dX4_readPart_26 : decode cX4_readPart 26 = .ok (.bipush 48, 2) := by decide +kernel
theorem dX4_readPart_28 : decode cX4_readPart 28 = .ok (.iload_n 1, 1) := by decide +kernel
theorem dX4_readPart_29 : decode cX4_readPart 29 = .ok (.iadd, 1) := by decide +kernel
theorem dX4_readPart_30 : decode cX4_readPart 30 = .ok (.i2c, 1) := by decide +kernel
theorem dX4_readPart_31 : decode cX4_readPart 31 = .ok (.invokevirtual 87, 3) := by decide +kernel
theorem dX4_readPart_34 : decode cX4_readPart 34 = .ok (.return_, 1) := by decide +kernel
theorem dX4_readPart_35 : decode cX4_readPart 35 = .ok (.aload_n 0, 1) := by decide +kernel
theorem dX4_readPart_36 : decode cX4_readPart 36 = .ok (.getfield 15, 3) := by decide +kernel
theorem dX4_readPart_39 : decode cX4_readPart 39 = .ok (.iload 4, 2) := by decide +kernel
theorem dX4_readPart_41 : decode cX4_readPart 41 = .ok (.iaload, 1) := by decide +kernel
theorem dX4_readPart_42 : decode cX4_readPart 42 = .ok (.iconst (-1), 1) := by decide +kernel
theorem dX4_readPart_43 : decode cX4_readPart 43 = .ok (.if_icmp .eq 17, 3) := by decide +kernel
theorem dX4_readPart_46 : decode cX4_readPart 46 = .ok (.aload_n 0, 1) := by decide +kernel
theorem dX4_readPart_47 : decode cX4_readPart 47 = .ok (.ldc 91, 2) := by decide +kernel
theorem dX4_readPart_49 : decode cX4_readPart 49 = .ok (.ldc 93, 2) := by decide +kernel
theorem dX4_readPart_51 : decode cX4_readPart 51 = .ok (.iload 4, 2) := by decide +kernel
theorem dX4_readPart_53 : decode cX4_readPart 53 = .ok (.invokevirtual 95, 3) := by decide +kernel
theorem dX4_readPart_56 : decode cX4_readPart 56 = .ok (.invokevirtual 87, 3) := by decide +kernel
theorem dX4_readPart_59 : decode cX4_readPart 59 = .ok (.return_, 1) := by decide +kernel
theorem dX4_readPart_60 : decode cX4_readPart 60 = .ok (.aload_n 0, 1) := by decide +kernel
theorem dX4_readPart_61 : decode cX4_readPart 61 = .ok (.getfield 15, 3) := by decide +kernel
theorem dX4_readPart_64 : decode cX4_readPart 64 = .ok (.iload 4, 2) := by decide +kernel
theorem dX4_readPart_66 : decode cX4_readPart 66 = .ok (.aload_n 0, 1) := by decide +kernel
theorem dX4_readPart_67 : decode cX4_readPart 67 = .ok (.iload 4, 2) := by decide +kernel
theorem dX4_readPart_69 : decode cX4_readPart 69 = .ok (.iload_n 2, 1) := by decide +kernel
theorem dX4_readPart_70 : decode cX4_readPart 70 = .ok (.iconst 2, 1) := by decide +kernel
theorem dX4_readPart_71 : decode cX4_readPart 71 = .ok (.iadd, 1) := by decide +kernel
theorem dX4_readPart_72 : decode cX4_readPart 72 = .ok (.iload_n 3, 1) := by decide +kernel
theorem dX4_readPart_73 : decode cX4_readPart 73 = .ok (.invokevirtual 98, 3) := by decide +kernel
theorem dX4_readPart_76 : decode cX4_readPart 76 = .ok (.iastore, 1) := by decide +kernel
theorem dX4_readPart_77 : decode cX4_readPart 77 = .ok (.aload_n 0, 1) := by decide +kernel
theorem dX4_readPart_78 : decode cX4_readPart 78 = .ok (.getfield 15, 3) := by decide +kernel
theorem dX4_readPart_81 : decode cX4_readPart 81 = .ok (.iload 4, 2) := by decide +kernel
theorem dX4_readPart_83 : decode cX4_readPart 83 = .ok (.iaload, 1) := by decide +kernel
theorem dX4_readPart_84 : decode cX4_readPart 84 = .ok (.iconst (-1), 1) := by decide +kernel
theorem dX4_readPart_85 : decode cX4_readPart 85 = .ok (.if_icmp .ne 16, 3) := by decide +kernel
theorem dX4_readPart_88 : decode cX4_readPart 88 = .ok (.aload_n 0, 1) := by decide +kernel
theorem dX4_readPart_89 : decode cX4_readPart 89 = .ok (.ldc 102, 2) := by decide +kernel
theorem dX4_readPart_91 : decode cX4_readPart 91 = .ok (.ldc 93, 2) := by decide +kernel
theorem dX4_readPart_93 : decode cX4_readPart 93 = .ok (.iload 4, 2) := by decide +kernel
theorem dX4_readPart_95 : decode cX4_readPart 95 = .ok (.invokevirtual 95, 3) := by decide +kernel
theorem dX4_readPart_98 : decode cX4_readPart 98 = .ok (.invokevirtual 87, 3) := by decide +kernel
theorem dX4_readPart_101 : decode cX4_readPart 101 = .ok (.return_, 1) := by decide +kernel
theorem dX4_keyIn_0 : decode cX4_keyIn 0 = .ok (.iload_n 2, 1) := by decide +kernel
theorem dX4_keyIn_1 : decode cX4_keyIn 1 = .ok (.iload_n 1, 1) := by decide +kernel
theorem dX4_keyIn_2 : decode cX4_keyIn 2 = .ok (.isub, 1) := by decide +kernel
theorem dX4_keyIn_3 : decode cX4_keyIn 3 = .ok (.iconst 2, 1) := by decide +kernel
theorem dX4_keyIn_4 : decode cX4_keyIn 4 = .ok (.if_icmp .lt 15, 3) := by decide +kernel
theorem dX4_keyIn_7 : decode cX4_keyIn 7 = .ok (.aload_n 0, 1) := by decide +kernel
theorem dX4_keyIn_8 : decode cX4_keyIn 8 = .ok (.iload_n 1, 1) := by decide +kernel
theorem dX4_keyIn_9 : decode cX4_keyIn 9 = .ok (.iconst 1, 1) := by decide +kernel
theorem dX4_keyIn_10 : decode cX4_keyIn 10 = .ok (.iadd, 1) := by decide +kernel
theorem dX4_keyIn_11 : decode cX4_keyIn 11 = .ok (.invokevirtual 77, 3) := by decide +kernel
theorem dX4_keyIn_14 : decode cX4_keyIn 14 = .ok (.bipush 61, 2) := by decide +kernel
theorem dX4_keyIn_16 : decode cX4_keyIn 16 = .ok (.if_icmp .eq 5, 3) := by decide +kernel
theorem dX4_keyIn_19 : decode cX4_keyIn 19 = .ok (.iconst (-1), 1) := by decide +kernel
theorem dX4_keyIn_20 : decode cX4_keyIn 20 = .ok (.ireturn, 1) := by decide +kernel
theorem dX4_keyIn_21 : decode cX4_keyIn 21 = .ok (.ldc 93, 2) := by decide +kernel
theorem dX4_keyIn_23 : decode cX4_keyIn 23 = .ok (.aload_n 0, 1) := by decide +kernel
theorem dX4_keyIn_24 : decode cX4_keyIn 24 = .ok (.iload_n 1, 1) := by decide +kernel
theorem dX4_keyIn_25 : decode cX4_keyIn 25 = .ok (.invokevirtual 77, 3) := by decide +kernel
theorem dX4_keyIn_28 : decode cX4_keyIn 28 = .ok (.invokevirtual 104, 3) := by decide +kernel
theorem dX4_keyIn_31 : decode cX4_keyIn 31 = .ok (.ireturn, 1) := by decide +kernel
theorem dX4_readValue_0 : decode cX4_readValue 0 = .ok (.iload_n 1, 1) := by decide +kernel
theorem dX4_readValue_1 : decode cX4_readValue 1 = .ok (.tableswitch 67 0 4 #[35, 43, 51, 51, 60], 35) := by decide +kernel
theorem dX4_readValue_36 : decode cX4_readValue 36 = .ok (.aload_n 0, 1) := by decide +kernel
theorem dX4_readValue_37 : decode cX4_readValue 37 = .ok (.iload_n 2, 1) := by decide +kernel
theorem dX4_readValue_38 : decode cX4_readValue 38 = .ok (.iload_n 3, 1) := by decide +kernel
theorem dX4_readValue_39 : decode cX4_readValue 39 = .ok (.iconst 5, 1) := by decide +kernel
theorem dX4_readValue_40 : decode cX4_readValue 40 = .ok (.invokevirtual 107, 3) := by decide +kernel
theorem dX4_readValue_43 : decode cX4_readValue 43 = .ok (.ireturn, 1) := by decide +kernel
theorem dX4_readValue_44 : decode cX4_readValue 44 = .ok (.aload_n 0, 1) := by decide +kernel
theorem dX4_readValue_45 : decode cX4_readValue 45 = .ok (.iload_n 2, 1) := by decide +kernel
theorem dX4_readValue_46 : decode cX4_readValue 46 = .ok (.iload_n 3, 1) := by decide +kernel
theorem dX4_readValue_47 : decode cX4_readValue 47 = .ok (.iconst 3, 1) := by decide +kernel
theorem dX4_readValue_48 : decode cX4_readValue 48 = .ok (.invokevirtual 107, 3) := by decide +kernel
theorem dX4_readValue_51 : decode cX4_readValue 51 = .ok (.ireturn, 1) := by decide +kernel
theorem dX4_readValue_52 : decode cX4_readValue 52 = .ok (.aload_n 0, 1) := by decide +kernel
theorem dX4_readValue_53 : decode cX4_readValue 53 = .ok (.iload_n 2, 1) := by decide +kernel
theorem dX4_readValue_54 : decode cX4_readValue 54 = .ok (.iload_n 3, 1) := by decide +kernel
theorem dX4_readValue_55 : decode cX4_readValue 55 = .ok (.bipush 7, 2) := by decide +kernel
theorem dX4_readValue_57 : decode cX4_readValue 57 = .ok (.invokevirtual 107, 3) := by decide +kernel
theorem dX4_readValue_60 : decode cX4_readValue 60 = .ok (.ireturn, 1) := by decide +kernel
theorem dX4_readValue_61 : decode cX4_readValue 61 = .ok (.aload_n 0, 1) := by decide +kernel
theorem dX4_readValue_62 : decode cX4_readValue 62 = .ok (.iload_n 2, 1) := by decide +kernel
theorem dX4_readValue_63 : decode cX4_readValue 63 = .ok (.iload_n 3, 1) := by decide +kernel
theorem dX4_readValue_64 : decode cX4_readValue 64 = .ok (.invokevirtual 110, 3) := by decide +kernel
theorem dX4_readValue_67 : decode cX4_readValue 67 = .ok (.ireturn, 1) := by decide +kernel
theorem dX4_readValue_68 : decode cX4_readValue 68 = .ok (.aload_n 0, 1) := by decide +kernel
theorem dX4_readValue_69 : decode cX4_readValue 69 = .ok (.iload_n 2, 1) := by decide +kernel
theorem dX4_readValue_70 : decode cX4_readValue 70 = .ok (.iload_n 3, 1) := by decide +kernel
theorem dX4_readValue_71 : decode cX4_readValue 71 = .ok (.invokevirtual 113, 3) := by decide +kernel
theorem dX4_readValue_74 : decode cX4_readValue 74 = .ok (.ireturn, 1) := by decide +kernel
theorem dX4_readDigit_0 : decode cX4_readDigit 0 = .ok (.aload_n 0, 1) := by decide +kernel
theorem dX4_readDigit_1 : decode cX4_readDigit 1 = .ok (.iload_n 1, 1) := by decide +kernel
theorem dX4_readDigit_2 : decode cX4_readDigit 2 = .ok (.invokevirtual 77, 3) := by decide +kernel
theorem dX4_readDigit_5 : decode cX4_readDigit 5 = .ok (.istore 4, 2) := by decide +kernel
theorem dX4_readDigit_7 : decode cX4_readDigit 7 = .ok (.iload_n 2, 1) := by decide +kernel
theorem dX4_readDigit_8 : decode cX4_readDigit 8 = .ok (.iload_n 1, 1) := by decide +kernel
theorem dX4_readDigit_9 : decode cX4_readDigit 9 = .ok (.isub, 1) := by decide +kernel
theorem dX4_readDigit_10 : decode cX4_readDigit 10 = .ok (.iconst 1, 1) := by decide +kernel
theorem dX4_readDigit_11 : decode cX4_readDigit 11 = .ok (.if_icmp .ne 11, 3) := by decide +kernel
theorem dX4_readDigit_14 : decode cX4_readDigit 14 = .ok (.iload 4, 2) := by decide +kernel
theorem dX4_readDigit_16 : decode cX4_readDigit 16 = .ok (.invokestatic 33, 3) := by decide +kernel
theorem dX4_readDigit_19 : decode cX4_readDigit 19 = .ok (.ifCond .ne 5, 3) := by decide +kernel
theorem dX4_readDigit_22 : decode cX4_readDigit 22 = .ok (.iconst (-1), 1) := by decide +kernel
theorem dX4_readDigit_23 : decode cX4_readDigit 23 = .ok (.ireturn, 1) := by decide +kernel
theorem dX4_readDigit_24 : decode cX4_readDigit 24 = .ok (.iload 4, 2) := by decide +kernel
theorem dX4_readDigit_26 : decode cX4_readDigit 26 = .ok (.bipush 48, 2) := by decide +kernel
theorem dX4_readDigit_28 : decode cX4_readDigit 28 = .ok (.isub, 1) := by decide +kernel
theorem dX4_readDigit_29 : decode cX4_readDigit 29 = .ok (.istore 5, 2) := by decide +kernel
theorem dX4_readDigit_31 : decode cX4_readDigit 31 = .ok (.iload 5, 2) := by decide +kernel
theorem dX4_readDigit_33 : decode cX4_readDigit 33 = .ok (.iload_n 3, 1) := by decide +kernel
theorem dX4_readDigit_34 : decode cX4_readDigit 34 = .ok (.if_icmp .gt 8, 3) := by decide +kernel
theorem dX4_readDigit_37 : decode cX4_readDigit 37 = .ok (.iload 5, 2) := by decide +kernel
theorem dX4_readDigit_39 : decode cX4_readDigit 39 = .ok (.goto 4, 3) := by decide +kernel
theorem dX4_readDigit_42 : decode cX4_readDigit 42 = .ok (.iconst (-1), 1) := by decide +kernel
theorem dX4_readDigit_43 : decode cX4_readDigit 43 = .ok (.ireturn, 1) := by decide +kernel
theorem dX4_readWeight_0 : decode cX4_readWeight 0 = .ok (.iload_n 2, 1) := by decide +kernel
theorem dX4_readWeight_1 : decode cX4_readWeight 1 = .ok (.iload_n 1, 1) := by decide +kernel
theorem dX4_readWeight_2 : decode cX4_readWeight 2 = .ok (.isub, 1) := by decide +kernel
theorem dX4_readWeight_3 : decode cX4_readWeight 3 = .ok (.iconst 1, 1) := by decide +kernel
theorem dX4_readWeight_4 : decode cX4_readWeight 4 = .ok (.iconst 5, 1) := by decide +kernel
theorem dX4_readWeight_5 : decode cX4_readWeight 5 = .ok (.invokestatic 116, 3) := by decide +kernel
theorem dX4_readWeight_8 : decode cX4_readWeight 8 = .ok (.ifCond .ne 5, 3) := by decide +kernel
theorem dX4_readWeight_11 : decode cX4_readWeight 11 = .ok (.iconst (-1), 1) := by decide +kernel
theorem dX4_readWeight_12 : decode cX4_readWeight 12 = .ok (.ireturn, 1) := by decide +kernel
theorem dX4_readWeight_13 : decode cX4_readWeight 13 = .ok (.iconst 0, 1) := by decide +kernel
theorem dX4_readWeight_14 : decode cX4_readWeight 14 = .ok (.istore_n 3, 1) := by decide +kernel
theorem dX4_readWeight_15 : decode cX4_readWeight 15 = .ok (.iload_n 1, 1) := by decide +kernel
theorem dX4_readWeight_16 : decode cX4_readWeight 16 = .ok (.istore 4, 2) := by decide +kernel
theorem dX4_readWeight_18 : decode cX4_readWeight 18 = .ok (.iload 4, 2) := by decide +kernel
theorem dX4_readWeight_20 : decode cX4_readWeight 20 = .ok (.iload_n 2, 1) := by decide +kernel
theorem dX4_readWeight_21 : decode cX4_readWeight 21 = .ok (.if_icmp .ge 38, 3) := by decide +kernel
theorem dX4_readWeight_24 : decode cX4_readWeight 24 = .ok (.aload_n 0, 1) := by decide +kernel
theorem dX4_readWeight_25 : decode cX4_readWeight 25 = .ok (.iload 4, 2) := by decide +kernel
theorem dX4_readWeight_27 : decode cX4_readWeight 27 = .ok (.invokevirtual 77, 3) := by decide +kernel
theorem dX4_readWeight_30 : decode cX4_readWeight 30 = .ok (.istore 5, 2) := by decide +kernel
theorem dX4_readWeight_32 : decode cX4_readWeight 32 = .ok (.iload 5, 2) := by decide +kernel
theorem dX4_readWeight_34 : decode cX4_readWeight 34 = .ok (.invokestatic 33, 3) := by decide +kernel
theorem dX4_readWeight_37 : decode cX4_readWeight 37 = .ok (.ifCond .ne 5, 3) := by decide +kernel
theorem dX4_readWeight_40 : decode cX4_readWeight 40 = .ok (.iconst (-1), 1) := by decide +kernel
theorem dX4_readWeight_41 : decode cX4_readWeight 41 = .ok (.ireturn, 1) := by decide +kernel
theorem dX4_readWeight_42 : decode cX4_readWeight 42 = .ok (.iload_n 3, 1) := by decide +kernel
theorem dX4_readWeight_43 : decode cX4_readWeight 43 = .ok (.bipush 10, 2) := by decide +kernel
theorem dX4_readWeight_45 : decode cX4_readWeight 45 = .ok (.imul, 1) := by decide +kernel
theorem dX4_readWeight_46 : decode cX4_readWeight 46 = .ok (.iload 5, 2) := by decide +kernel
theorem dX4_readWeight_48 : decode cX4_readWeight 48 = .ok (.bipush 48, 2) := by decide +kernel
theorem dX4_readWeight_50 : decode cX4_readWeight 50 = .ok (.isub, 1) := by decide +kernel
theorem dX4_readWeight_51 : decode cX4_readWeight 51 = .ok (.iadd, 1) := by decide +kernel
theorem dX4_readWeight_52 : decode cX4_readWeight 52 = .ok (.istore_n 3, 1) := by decide +kernel
theorem dX4_readWeight_53 : decode cX4_readWeight 53 = .ok (.iinc 4 1, 3) := by decide +kernel
theorem dX4_readWeight_56 : decode cX4_readWeight 56 = .ok (.goto (-38), 3) := by decide +kernel
theorem dX4_readWeight_59 : decode cX4_readWeight 59 = .ok (.iload_n 3, 1) := by decide +kernel
theorem dX4_readWeight_60 : decode cX4_readWeight 60 = .ok (.iconst 1, 1) := by decide +kernel
theorem dX4_readWeight_61 : decode cX4_readWeight 61 = .ok (.sipush 30000, 3) := by decide +kernel
theorem dX4_readWeight_64 : decode cX4_readWeight 64 = .ok (.invokestatic 116, 3) := by decide +kernel
theorem dX4_readWeight_67 : decode cX4_readWeight 67 = .ok (.ifCond .eq 7, 3) := by decide +kernel
theorem dX4_readWeight_70 : decode cX4_readWeight 70 = .ok (.iload_n 3, 1) := by decide +kernel
theorem dX4_readWeight_71 : decode cX4_readWeight 71 = .ok (.goto 4, 3) := by decide +kernel
theorem dX4_readWeight_74 : decode cX4_readWeight 74 = .ok (.iconst (-1), 1) := by decide +kernel
theorem dX4_readWeight_75 : decode cX4_readWeight 75 = .ok (.ireturn, 1) := by decide +kernel
theorem dX4_readExpress_0 : decode cX4_readExpress 0 = .ok (.aload_n 0, 1) := by decide +kernel
theorem dX4_readExpress_1 : decode cX4_readExpress 1 = .ok (.iload_n 1, 1) := by decide +kernel
theorem dX4_readExpress_2 : decode cX4_readExpress 2 = .ok (.invokevirtual 77, 3) := by decide +kernel
theorem dX4_readExpress_5 : decode cX4_readExpress 5 = .ok (.istore_n 3, 1) := by decide +kernel
theorem dX4_readExpress_6 : decode cX4_readExpress 6 = .ok (.iload_n 2, 1) := by decide +kernel
theorem dX4_readExpress_7 : decode cX4_readExpress 7 = .ok (.iload_n 1, 1) := by decide +kernel
theorem dX4_readExpress_8 : decode cX4_readExpress 8 = .ok (.isub, 1) := by decide +kernel
theorem dX4_readExpress_9 : decode cX4_readExpress 9 = .ok (.iconst 1, 1) := by decide +kernel
theorem dX4_readExpress_10 : decode cX4_readExpress 10 = .ok (.if_icmp .ne 15, 3) := by decide +kernel
theorem dX4_readExpress_13 : decode cX4_readExpress 13 = .ok (.iload_n 3, 1) := by decide +kernel
theorem dX4_readExpress_14 : decode cX4_readExpress 14 = .ok (.bipush 89, 2) := by decide +kernel
theorem dX4_readExpress_16 : decode cX4_readExpress 16 = .ok (.if_icmp .eq 11, 3) := by decide +kernel
theorem dX4_readExpress_19 : decode cX4_readExpress 19 = .ok (.iload_n 3, 1) := by decide +kernel
theorem dX4_readExpress_20 : decode cX4_readExpress 20 = .ok (.bipush 78, 2) := by decide +kernel
theorem dX4_readExpress_22 : decode cX4_readExpress 22 = .ok (.if_icmp .eq 5, 3) := by decide +kernel
theorem dX4_readExpress_25 : decode cX4_readExpress 25 = .ok (.iconst (-1), 1) := by decide +kernel
theorem dX4_readExpress_26 : decode cX4_readExpress 26 = .ok (.ireturn, 1) := by decide +kernel
theorem dX4_readExpress_27 : decode cX4_readExpress 27 = .ok (.iload_n 3, 1) := by decide +kernel
theorem dX4_readExpress_28 : decode cX4_readExpress 28 = .ok (.bipush 89, 2) := by decide +kernel
theorem dX4_readExpress_30 : decode cX4_readExpress 30 = .ok (.if_icmp .ne 7, 3) := by decide +kernel
theorem dX4_readExpress_33 : decode cX4_readExpress 33 = .ok (.iconst 1, 1) := by decide +kernel
theorem dX4_readExpress_34 : decode cX4_readExpress 34 = .ok (.goto 4, 3) := by decide +kernel
theorem dX4_readExpress_37 : decode cX4_readExpress 37 = .ok (.iconst 0, 1) := by decide +kernel
theorem dX4_readExpress_38 : decode cX4_readExpress 38 = .ok (.ireturn, 1) := by decide +kernel
theorem dX4_findMissingKey_0 : decode cX4_findMissingKey 0 = .ok (.iconst 0, 1) := by decide +kernel
theorem dX4_findMissingKey_1 : decode cX4_findMissingKey 1 = .ok (.istore_n 1, 1) := by decide +kernel
theorem dX4_findMissingKey_2 : decode cX4_findMissingKey 2 = .ok (.iload_n 1, 1) := by decide +kernel
theorem dX4_findMissingKey_3 : decode cX4_findMissingKey 3 = .ok (.iconst 5, 1) := by decide +kernel
theorem dX4_findMissingKey_4 : decode cX4_findMissingKey 4 = .ok (.if_icmp .ge 40, 3) := by decide +kernel
theorem dX4_findMissingKey_7 : decode cX4_findMissingKey 7 = .ok (.aload_n 0, 1) := by decide +kernel
theorem dX4_findMissingKey_8 : decode cX4_findMissingKey 8 = .ok (.getfield 25, 3) := by decide +kernel
theorem dX4_findMissingKey_11 : decode cX4_findMissingKey 11 = .ok (.invokevirtual 40, 3) := by decide +kernel
theorem dX4_findMissingKey_14 : decode cX4_findMissingKey 14 = .ok (.ifCond .eq 30, 3) := by decide +kernel
theorem dX4_findMissingKey_17 : decode cX4_findMissingKey 17 = .ok (.aload_n 0, 1) := by decide +kernel
theorem dX4_findMissingKey_18 : decode cX4_findMissingKey 18 = .ok (.iload_n 1, 1) := by decide +kernel
theorem dX4_findMissingKey_19 : decode cX4_findMissingKey 19 = .ok (.invokevirtual 120, 3) := by decide +kernel
theorem dX4_findMissingKey_22 : decode cX4_findMissingKey 22 = .ok (.iconst (-1), 1) := by decide +kernel
theorem dX4_findMissingKey_23 : decode cX4_findMissingKey 23 = .ok (.if_icmp .ne 15, 3) := by decide +kernel
theorem dX4_findMissingKey_26 : decode cX4_findMissingKey 26 = .ok (.aload_n 0, 1) := by decide +kernel
theorem dX4_findMissingKey_27 : decode cX4_findMissingKey 27 = .ok (.ldc 123, 2) := by decide +kernel
theorem dX4_findMissingKey_29 : decode cX4_findMissingKey 29 = .ok (.ldc 93, 2) := by decide +kernel
theorem dX4_findMissingKey_31 : decode cX4_findMissingKey 31 = .ok (.iload_n 1, 1) := by decide +kernel
theorem dX4_findMissingKey_32 : decode cX4_findMissingKey 32 = .ok (.invokevirtual 95, 3) := by decide +kernel
theorem dX4_findMissingKey_35 : decode cX4_findMissingKey 35 = .ok (.invokevirtual 87, 3) := by decide +kernel
theorem dX4_findMissingKey_38 : decode cX4_findMissingKey 38 = .ok (.iinc 1 1, 3) := by decide +kernel
theorem dX4_findMissingKey_41 : decode cX4_findMissingKey 41 = .ok (.goto (-39), 3) := by decide +kernel
theorem dX4_findMissingKey_44 : decode cX4_findMissingKey 44 = .ok (.return_, 1) := by decide +kernel
theorem dX4_setFault_0 : decode cX4_setFault 0 = .ok (.aload_n 0, 1) := by decide +kernel
theorem dX4_setFault_1 : decode cX4_setFault 1 = .ok (.aload_n 1, 1) := by decide +kernel
theorem dX4_setFault_2 : decode cX4_setFault 2 = .ok (.putfield 25, 3) := by decide +kernel
theorem dX4_setFault_5 : decode cX4_setFault 5 = .ok (.aload_n 0, 1) := by decide +kernel
theorem dX4_setFault_6 : decode cX4_setFault 6 = .ok (.iload_n 2, 1) := by decide +kernel
theorem dX4_setFault_7 : decode cX4_setFault 7 = .ok (.putfield 29, 3) := by decide +kernel
theorem dX4_setFault_10 : decode cX4_setFault 10 = .ok (.return_, 1) := by decide +kernel
theorem dX4_signAt_0 : decode cX4_signAt 0 = .ok (.iload_n 1, 1) := by decide +kernel
theorem dX4_signAt_1 : decode cX4_signAt 1 = .ok (.ifCond .lt 29, 3) := by decide +kernel
theorem dX4_signAt_4 : decode cX4_signAt 4 = .ok (.iload_n 1, 1) := by decide +kernel
theorem dX4_signAt_5 : decode cX4_signAt 5 = .ok (.aload_n 0, 1) := by decide +kernel
theorem dX4_signAt_6 : decode cX4_signAt 6 = .ok (.getfield 19, 3) := by decide +kernel
theorem dX4_signAt_9 : decode cX4_signAt 9 = .ok (.if_icmp .ge 21, 3) := by decide +kernel
theorem dX4_signAt_12 : decode cX4_signAt 12 = .ok (.iload_n 1, 1) := by decide +kernel
theorem dX4_signAt_13 : decode cX4_signAt 13 = .ok (.aload_n 0, 1) := by decide +kernel
theorem dX4_signAt_14 : decode cX4_signAt 14 = .ok (.getfield 11, 3) := by decide +kernel
theorem dX4_signAt_17 : decode cX4_signAt 17 = .ok (.arraylength, 1) := by decide +kernel
theorem dX4_signAt_18 : decode cX4_signAt 18 = .ok (.if_icmp .ge 12, 3) := by decide +kernel
theorem dX4_signAt_21 : decode cX4_signAt 21 = .ok (.aload_n 0, 1) := by decide +kernel
theorem dX4_signAt_22 : decode cX4_signAt 22 = .ok (.getfield 11, 3) := by decide +kernel
theorem dX4_signAt_25 : decode cX4_signAt 25 = .ok (.iload_n 1, 1) := by decide +kernel
theorem dX4_signAt_26 : decode cX4_signAt 26 = .ok (.caload, 1) := by decide +kernel
theorem dX4_signAt_27 : decode cX4_signAt 27 = .ok (.goto 5, 3) := by decide +kernel
theorem dX4_signAt_30 : decode cX4_signAt 30 = .ok (.bipush 32, 2) := by decide +kernel
theorem dX4_signAt_32 : decode cX4_signAt 32 = .ok (.ireturn, 1) := by decide +kernel
theorem dX4_isDigit_0 : decode cX4_isDigit 0 = .ok (.iload_n 0, 1) := by decide +kernel
theorem dX4_isDigit_1 : decode cX4_isDigit 1 = .ok (.bipush 48, 2) := by decide +kernel
theorem dX4_isDigit_3 : decode cX4_isDigit 3 = .ok (.if_icmp .lt 13, 3) := by decide +kernel
theorem dX4_isDigit_6 : decode cX4_isDigit 6 = .ok (.iload_n 0, 1) := by decide +kernel
theorem dX4_isDigit_7 : decode cX4_isDigit 7 = .ok (.bipush 57, 2) := by decide +kernel
theorem dX4_isDigit_9 : decode cX4_isDigit 9 = .ok (.if_icmp .gt 7, 3) := by decide +kernel
theorem dX4_isDigit_12 : decode cX4_isDigit 12 = .ok (.iconst 1, 1) := by decide +kernel
theorem dX4_isDigit_13 : decode cX4_isDigit 13 = .ok (.goto 4, 3) := by decide +kernel
theorem dX4_isDigit_16 : decode cX4_isDigit 16 = .ok (.iconst 0, 1) := by decide +kernel
theorem dX4_isDigit_17 : decode cX4_isDigit 17 = .ok (.ireturn, 1) := by decide +kernel
theorem dX5_init_0 : decode cX5_init 0 = .ok (.aload_n 0, 1) := by decide +kernel
theorem dX5_init_1 : decode cX5_init 1 = .ok (.invokespecial 3, 3) := by decide +kernel
theorem dX5_init_4 : decode cX5_init 4 = .ok (.aload_n 0, 1) := by decide +kernel
theorem dX5_init_5 : decode cX5_init 5 = .ok (.bipush 10, 2) := by decide +kernel
theorem dX5_init_7 : decode cX5_init 7 = .ok (.putfield 9, 3) := by decide +kernel
theorem dX5_init_10 : decode cX5_init 10 = .ok (.aload_n 0, 1) := by decide +kernel
theorem dX5_init_11 : decode cX5_init 11 = .ok (.bipush 60, 2) := by decide +kernel
theorem dX5_init_13 : decode cX5_init 13 = .ok (.putfield 15, 3) := by decide +kernel
theorem dX5_init_16 : decode cX5_init 16 = .ok (.aload_n 0, 1) := by decide +kernel
theorem dX5_init_17 : decode cX5_init 17 = .ok (.iconst 0, 1) := by decide +kernel
theorem dX5_init_18 : decode cX5_init 18 = .ok (.putfield 18, 3) := by decide +kernel
theorem dX5_init_21 : decode cX5_init 21 = .ok (.aload_n 0, 1) := by decide +kernel
theorem dX5_init_22 : decode cX5_init 22 = .ok (.iconst 0, 1) := by decide +kernel
theorem dX5_init_23 : decode cX5_init 23 = .ok (.putfield 21, 3) := by decide +kernel
theorem dX5_init_26 : decode cX5_init 26 = .ok (.aload_n 0, 1) := by decide +kernel
theorem dX5_init_27 : decode cX5_init 27 = .ok (.bipush 50, 2) := by decide +kernel
theorem dX5_init_29 : decode cX5_init 29 = .ok (.newarray .int, 2) := by decide +kernel
theorem dX5_init_31 : decode cX5_init 31 = .ok (.putfield 24, 3) := by decide +kernel
theorem dX5_init_34 : decode cX5_init 34 = .ok (.aload_n 0, 1) := by decide +kernel
theorem dX5_init_35 : decode cX5_init 35 = .ok (.iconst 0, 1) := by decide +kernel
theorem dX5_init_36 : decode cX5_init 36 = .ok (.putfield 28, 3) := by decide +kernel
theorem dX5_init_39 : decode cX5_init 39 = .ok (.aload_n 0, 1) := by decide +kernel
theorem dX5_init_40 : decode cX5_init 40 = .ok (.iconst 0, 1) := by decide +kernel
theorem dX5_init_41 : decode cX5_init 41 = .ok (.putfield 31, 3) := by decide +kernel
theorem dX5_init_44 : decode cX5_init 44 = .ok (.return_, 1) := by decide +kernel
theorem dX5_callsLeft_0 : decode cX5_callsLeft 0 = .ok (.iconst 0, 1) := by decide +kernel
theorem dX5_callsLeft_1 : decode cX5_callsLeft 1 = .ok (.istore_n 2, 1) := by decide +kernel
theorem dX5_callsLeft_2 : decode cX5_callsLeft 2 = .ok (.iconst 0, 1) := by decide +kernel
theorem dX5_callsLeft_3 : decode cX5_callsLeft 3 = .ok (.istore_n 3, 1) := by decide +kernel
theorem dX5_callsLeft_4 : decode cX5_callsLeft 4 = .ok (.iload_n 3, 1) := by decide +kernel
theorem dX5_callsLeft_5 : decode cX5_callsLeft 5 = .ok (.aload_n 0, 1) := by decide +kernel
theorem dX5_callsLeft_6 : decode cX5_callsLeft 6 = .ok (.getfield 28, 3) := by decide +kernel
theorem dX5_callsLeft_9 : decode cX5_callsLeft 9 = .ok (.if_icmp .ge 36, 3) := by decide +kernel
theorem dX5_callsLeft_12 : decode cX5_callsLeft 12 = .ok (.iload_n 3, 1) := by decide +kernel
theorem dX5_callsLeft_13 : decode cX5_callsLeft 13 = .ok (.aload_n 0, 1) := by decide +kernel
theorem dX5_callsLeft_14 : decode cX5_callsLeft 14 = .ok (.getfield 24, 3) := by decide +kernel
theorem dX5_callsLeft_17 : decode cX5_callsLeft 17 = .ok (.arraylength, 1) := by decide +kernel
theorem dX5_callsLeft_18 : decode cX5_callsLeft 18 = .ok (.if_icmp .ge 27, 3) := by decide +kernel
theorem dX5_callsLeft_21 : decode cX5_callsLeft 21 = .ok (.aload_n 0, 1) := by decide +kernel
theorem dX5_callsLeft_22 : decode cX5_callsLeft 22 = .ok (.getfield 24, 3) := by decide +kernel
theorem dX5_callsLeft_25 : decode cX5_callsLeft 25 = .ok (.iload_n 3, 1) := by decide +kernel
theorem dX5_callsLeft_26 : decode cX5_callsLeft 26 = .ok (.iaload, 1) := by decide +kernel
theorem dX5_callsLeft_27 : decode cX5_callsLeft 27 = .ok (.iload_n 1, 1) := by decide +kernel
theorem dX5_callsLeft_28 : decode cX5_callsLeft 28 = .ok (.aload_n 0, 1) := by decide +kernel
theorem dX5_callsLeft_29 : decode cX5_callsLeft 29 = .ok (.getfield 15, 3) := by decide +kernel
theorem dX5_callsLeft_32 : decode cX5_callsLeft 32 = .ok (.isub, 1) := by decide +kernel
theorem dX5_callsLeft_33 : decode cX5_callsLeft 33 = .ok (.if_icmp .le 6, 3) := by decide +kernel
theorem dX5_callsLeft_36 : decode cX5_callsLeft 36 = .ok (.iinc 2 1, 3) := by decide +kernel
theorem dX5_callsLeft_39 : decode cX5_callsLeft 39 = .ok (.iinc 3 1, 3) := by decide +kernel
theorem dX5_callsLeft_42 : decode cX5_callsLeft 42 = .ok (.goto (-38), 3) := by decide +kernel
theorem dX5_callsLeft_45 : decode cX5_callsLeft 45 = .ok (.iconst 0, 1) := by decide +kernel
theorem dX5_callsLeft_46 : decode cX5_callsLeft 46 = .ok (.aload_n 0, 1) := by decide +kernel
theorem dX5_callsLeft_47 : decode cX5_callsLeft 47 = .ok (.getfield 9, 3) := by decide +kernel
theorem dX5_callsLeft_50 : decode cX5_callsLeft 50 = .ok (.iload_n 2, 1) := by decide +kernel
theorem dX5_callsLeft_51 : decode cX5_callsLeft 51 = .ok (.isub, 1) := by decide +kernel
theorem dX5_callsLeft_52 : decode cX5_callsLeft 52 = .ok (.invokestatic 34, 3) := by decide +kernel
theorem dX5_callsLeft_55 : decode cX5_callsLeft 55 = .ok (.ireturn, 1) := by decide +kernel
theorem dX5_keepCall_0 : decode cX5_keepCall 0 = .ok (.aload_n 0, 1) := by decide +kernel
theorem dX5_keepCall_1 : decode cX5_keepCall 1 = .ok (.getfield 31, 3) := by decide +kernel
theorem dX5_keepCall_4 : decode cX5_keepCall 4 = .ok (.ifCond .lt 15, 3) := by decide +kernel
theorem dX5_keepCall_7 : decode cX5_keepCall 7 = .ok (.aload_n 0, 1) := by decide +kernel
theorem dX5_keepCall_8 : decode cX5_keepCall 8 = .ok (.getfield 31, 3) := by decide +kernel
theorem dX5_keepCall_11 : decode cX5_keepCall 11 = .ok (.aload_n 0, 1) := by decide +kernel
theorem dX5_keepCall_12 : decode cX5_keepCall 12 = .ok (.getfield 24, 3) := by decide +kernel
theorem dX5_keepCall_15 : decode cX5_keepCall 15 = .ok (.arraylength, 1) := by decide +kernel
theorem dX5_keepCall_16 : decode cX5_keepCall 16 = .ok (.if_icmp .lt 8, 3) := by decide +kernel
theorem dX5_keepCall_19 : decode cX5_keepCall 19 = .ok (.aload_n 0, 1) := by decide +kernel
theorem dX5_keepCall_20 : decode cX5_keepCall 20 = .ok (.iconst 0, 1) := by decide +kernel
theorem dX5_keepCall_21 : decode cX5_keepCall 21 = .ok (.putfield 31, 3) := by decide +kernel
theorem dX5_keepCall_24 : decode cX5_keepCall 24 = .ok (.aload_n 0, 1) := by decide +kernel
theorem dX5_keepCall_25 : decode cX5_keepCall 25 = .ok (.getfield 24, 3) := by decide +kernel
theorem dX5_keepCall_28 : decode cX5_keepCall 28 = .ok (.aload_n 0, 1) := by decide +kernel
theorem dX5_keepCall_29 : decode cX5_keepCall 29 = .ok (.getfield 31, 3) := by decide +kernel
theorem dX5_keepCall_32 : decode cX5_keepCall 32 = .ok (.iload_n 1, 1) := by decide +kernel
theorem dX5_keepCall_33 : decode cX5_keepCall 33 = .ok (.iastore, 1) := by decide +kernel
theorem dX5_keepCall_34 : decode cX5_keepCall 34 = .ok (.aload_n 0, 1) := by decide +kernel
theorem dX5_keepCall_35 : decode cX5_keepCall 35 = .ok (.dup, 1) := by decide +kernel
theorem dX5_keepCall_36 : decode cX5_keepCall 36 = .ok (.getfield 31, 3) := by decide +kernel
theorem dX5_keepCall_39 : decode cX5_keepCall 39 = .ok (.iconst 1, 1) := by decide +kernel
theorem dX5_keepCall_40 : decode cX5_keepCall 40 = .ok (.iadd, 1) := by decide +kernel
theorem dX5_keepCall_41 : decode cX5_keepCall 41 = .ok (.putfield 31, 3) := by decide +kernel
theorem dX5_keepCall_44 : decode cX5_keepCall 44 = .ok (.aload_n 0, 1) := by decide +kernel
theorem dX5_keepCall_45 : decode cX5_keepCall 45 = .ok (.aload_n 0, 1) := by decide +kernel
theorem dX5_keepCall_46 : decode cX5_keepCall 46 = .ok (.getfield 28, 3) := by decide +kernel
theorem dX5_keepCall_49 : decode cX5_keepCall 49 = .ok (.aload_n 0, 1) := by decide +kernel
theorem dX5_keepCall_50 : decode cX5_keepCall 50 = .ok (.getfield 31, 3) := by decide +kernel
theorem dX5_keepCall_53 : decode cX5_keepCall 53 = .ok (.invokestatic 34, 3) := by decide +kernel
theorem dX5_keepCall_56 : decode cX5_keepCall 56 = .ok (.putfield 28, 3) := by decide +kernel
theorem dX5_keepCall_59 : decode cX5_keepCall 59 = .ok (.return_, 1) := by decide +kernel
theorem dX6_init_0 : decode cX6_init 0 = .ok (.aload_n 0, 1) := by decide +kernel
theorem dX6_init_1 : decode cX6_init 1 = .ok (.invokespecial 1, 3) := by decide +kernel
theorem dX6_init_4 : decode cX6_init 4 = .ok (.aload_n 0, 1) := by decide +kernel
theorem dX6_init_5 : decode cX6_init 5 = .ok (.iload_n 1, 1) := by decide +kernel
theorem dX6_init_6 : decode cX6_init 6 = .ok (.putfield 7, 3) := by decide +kernel
theorem dX6_init_9 : decode cX6_init 9 = .ok (.aload_n 0, 1) := by decide +kernel
theorem dX6_init_10 : decode cX6_init 10 = .ok (.iload_n 2, 1) := by decide +kernel
theorem dX6_init_11 : decode cX6_init 11 = .ok (.putfield 13, 3) := by decide +kernel
theorem dX6_init_14 : decode cX6_init 14 = .ok (.aload_n 0, 1) := by decide +kernel
theorem dX6_init_15 : decode cX6_init 15 = .ok (.iload_n 3, 1) := by decide +kernel
theorem dX6_init_16 : decode cX6_init 16 = .ok (.putfield 16, 3) := by decide +kernel
theorem dX6_init_19 : decode cX6_init 19 = .ok (.return_, 1) := by decide +kernel
theorem dX7_init_0 : decode cX7_init 0 = .ok (.aload_n 0, 1) := by decide +kernel
theorem dX7_init_1 : decode cX7_init 1 = .ok (.invokespecial 1, 3) := by decide +kernel
theorem dX7_init_4 : decode cX7_init 4 = .ok (.aload_n 0, 1) := by decide +kernel
theorem dX7_init_5 : decode cX7_init 5 = .ok (.new 7, 3) := by decide +kernel
theorem dX7_init_8 : decode cX7_init 8 = .ok (.dup, 1) := by decide +kernel
theorem dX7_init_9 : decode cX7_init 9 = .ok (.invokespecial 9, 3) := by decide +kernel
theorem dX7_init_12 : decode cX7_init 12 = .ok (.putfield 10, 3) := by decide +kernel
theorem dX7_init_15 : decode cX7_init 15 = .ok (.aload_n 0, 1) := by decide +kernel
theorem dX7_init_16 : decode cX7_init 16 = .ok (.new 16, 3) := by decide +kernel
theorem dX7_init_19 : decode cX7_init 19 = .ok (.dup, 1) := by decide +kernel
theorem dX7_init_20 : decode cX7_init 20 = .ok (.invokespecial 18, 3) := by decide +kernel
theorem dX7_init_23 : decode cX7_init 23 = .ok (.putfield 19, 3) := by decide +kernel
theorem dX7_init_26 : decode cX7_init 26 = .ok (.aload_n 0, 1) := by decide +kernel
theorem dX7_init_27 : decode cX7_init 27 = .ok (.bipush 6, 2) := by decide +kernel
theorem dX7_init_29 : decode cX7_init 29 = .ok (.anewarray 23, 3) := by decide +kernel
theorem dX7_init_32 : decode cX7_init 32 = .ok (.putfield 25, 3) := by decide +kernel
theorem dX7_init_35 : decode cX7_init 35 = .ok (.aload_n 0, 1) := by decide +kernel
theorem dX7_init_36 : decode cX7_init 36 = .ok (.iconst 4, 1) := by decide +kernel
theorem dX7_init_37 : decode cX7_init 37 = .ok (.anewarray 29, 3) := by decide +kernel
theorem dX7_init_40 : decode cX7_init 40 = .ok (.putfield 31, 3) := by decide +kernel
theorem dX7_init_43 : decode cX7_init 43 = .ok (.aload_n 0, 1) := by decide +kernel
theorem dX7_init_44 : decode cX7_init 44 = .ok (.new 35, 3) := by decide +kernel
theorem dX7_init_47 : decode cX7_init 47 = .ok (.dup, 1) := by decide +kernel
theorem dX7_init_48 : decode cX7_init 48 = .ok (.invokespecial 37, 3) := by decide +kernel
theorem dX7_init_51 : decode cX7_init 51 = .ok (.putfield 38, 3) := by decide +kernel
theorem dX7_init_54 : decode cX7_init 54 = .ok (.aload_n 0, 1) := by decide +kernel
theorem dX7_init_55 : decode cX7_init 55 = .ok (.new 35, 3) := by decide +kernel
theorem dX7_init_58 : decode cX7_init 58 = .ok (.dup, 1) := by decide +kernel
theorem dX7_init_59 : decode cX7_init 59 = .ok (.invokespecial 37, 3) := by decide +kernel
theorem dX7_init_62 : decode cX7_init 62 = .ok (.putfield 42, 3) := by decide +kernel
theorem dX7_init_65 : decode cX7_init 65 = .ok (.aload_n 0, 1) := by decide +kernel
theorem dX7_init_66 : decode cX7_init 66 = .ok (.iconst 0, 1) := by decide +kernel
theorem dX7_init_67 : decode cX7_init 67 = .ok (.putfield 45, 3) := by decide +kernel
theorem dX7_init_70 : decode cX7_init 70 = .ok (.iconst 0, 1) := by decide +kernel
theorem dX7_init_71 : decode cX7_init 71 = .ok (.istore_n 1, 1) := by decide +kernel
theorem dX7_init_72 : decode cX7_init 72 = .ok (.iload_n 1, 1) := by decide +kernel
theorem dX7_init_73 : decode cX7_init 73 = .ok (.bipush 6, 2) := by decide +kernel
theorem dX7_init_75 : decode cX7_init 75 = .ok (.if_icmp .ge 22, 3) := by decide +kernel
theorem dX7_init_78 : decode cX7_init 78 = .ok (.aload_n 0, 1) := by decide +kernel
theorem dX7_init_79 : decode cX7_init 79 = .ok (.getfield 25, 3) := by decide +kernel
theorem dX7_init_82 : decode cX7_init 82 = .ok (.iload_n 1, 1) := by decide +kernel
theorem dX7_init_83 : decode cX7_init 83 = .ok (.new 23, 3) := by decide +kernel
theorem dX7_init_86 : decode cX7_init 86 = .ok (.dup, 1) := by decide +kernel
theorem dX7_init_87 : decode cX7_init 87 = .ok (.invokespecial 49, 3) := by decide +kernel
theorem dX7_init_90 : decode cX7_init 90 = .ok (.aastore, 1) := by decide +kernel
theorem dX7_init_91 : decode cX7_init 91 = .ok (.iinc 1 1, 3) := by decide +kernel
theorem dX7_init_94 : decode cX7_init 94 = .ok (.goto (-22), 3) := by decide +kernel
theorem dX7_init_97 : decode cX7_init 97 = .ok (.iconst 0, 1) := by decide +kernel
theorem dX7_init_98 : decode cX7_init 98 = .ok (.istore_n 1, 1) := by decide +kernel
theorem dX7_init_99 : decode cX7_init 99 = .ok (.iload_n 1, 1) := by decide +kernel
theorem dX7_init_100 : decode cX7_init 100 = .ok (.iconst 4, 1) := by decide +kernel
theorem dX7_init_101 : decode cX7_init 101 = .ok (.if_icmp .ge 22, 3) := by decide +kernel
theorem dX7_init_104 : decode cX7_init 104 = .ok (.aload_n 0, 1) := by decide +kernel
theorem dX7_init_105 : decode cX7_init 105 = .ok (.getfield 31, 3) := by decide +kernel
theorem dX7_init_108 : decode cX7_init 108 = .ok (.iload_n 1, 1) := by decide +kernel
theorem dX7_init_109 : decode cX7_init 109 = .ok (.new 29, 3) := by decide +kernel
theorem dX7_init_112 : decode cX7_init 112 = .ok (.dup, 1) := by decide +kernel
theorem dX7_init_113 : decode cX7_init 113 = .ok (.invokespecial 50, 3) := by decide +kernel
theorem dX7_init_116 : decode cX7_init 116 = .ok (.aastore, 1) := by decide +kernel
theorem dX7_init_117 : decode cX7_init 117 = .ok (.iinc 1 1, 3) := by decide +kernel
theorem dX7_init_120 : decode cX7_init 120 = .ok (.goto (-21), 3) := by decide +kernel
theorem dX7_init_123 : decode cX7_init 123 = .ok (.return_, 1) := by decide +kernel
theorem dX7_type_0 : decode cX7_type 0 = .ok (.iload_n 1, 1) := by decide +kernel
theorem dX7_type_1 : decode cX7_type 1 = .ok (.invokestatic 51, 3) := by decide +kernel
theorem dX7_type_4 : decode cX7_type 4 = .ok (.ifCond .ne 13, 3) := by decide +kernel
theorem dX7_type_7 : decode cX7_type 7 = .ok (.new 55, 3) := by decide +kernel
theorem dX7_type_10 : decode cX7_type 10 = .ok (.dup, 1) := by decide +kernel
theorem dX7_type_11 : decode cX7_type 11 = .ok (.ldc 57, 2) := by decide +kernel
theorem dX7_type_13 : decode cX7_type 13 = .ok (.invokespecial 59, 3) := by decide +kernel
theorem dX7_type_16 : decode cX7_type 16 = .ok (.athrow, 1) := by decide +kernel
theorem dX7_type_17 : decode cX7_type 17 = .ok (.aload_n 0, 1) := by decide +kernel
theorem dX7_type_18 : decode cX7_type 18 = .ok (.getfield 10, 3) := by decide +kernel
theorem dX7_type_21 : decode cX7_type 21 = .ok (.invokevirtual 62, 3) := by decide +kernel
theorem dX7_type_24 : decode cX7_type 24 = .ok (.ifCond .eq 13, 3) := by decide +kernel
theorem dX7_type_27 : decode cX7_type 27 = .ok (.new 66, 3) := by decide +kernel
theorem dX7_type_30 : decode cX7_type 30 = .ok (.dup, 1) := by decide +kernel
theorem dX7_type_31 : decode cX7_type 31 = .ok (.ldc 68, 2) := by decide +kernel
theorem dX7_type_33 : decode cX7_type 33 = .ok (.invokespecial 70, 3) := by decide +kernel
theorem dX7_type_36 : decode cX7_type 36 = .ok (.athrow, 1) := by decide +kernel
theorem dX7_type_37 : decode cX7_type 37 = .ok (.aload_n 0, 1) := by decide +kernel
theorem dX7_type_38 : decode cX7_type 38 = .ok (.getfield 10, 3) := by decide +kernel
theorem dX7_type_41 : decode cX7_type 41 = .ok (.iload_n 1, 1) := by decide +kernel
theorem dX7_type_42 : decode cX7_type 42 = .ok (.invokevirtual 71, 3) := by decide +kernel
theorem dX7_type_45 : decode cX7_type 45 = .ok (.ireturn, 1) := by decide +kernel
theorem dX7_wipe_0 : decode cX7_wipe 0 = .ok (.aload_n 0, 1) := by decide +kernel
theorem dX7_wipe_1 : decode cX7_wipe 1 = .ok (.getfield 10, 3) := by decide +kernel
theorem dX7_wipe_4 : decode cX7_wipe 4 = .ok (.invokevirtual 75, 3) := by decide +kernel
theorem dX7_wipe_7 : decode cX7_wipe 7 = .ok (.ireturn, 1) := by decide +kernel
theorem dX7_isRight_0 : decode cX7_isRight 0 = .ok (.aload_n 0, 1) := by decide +kernel
theorem dX7_isRight_1 : decode cX7_isRight 1 = .ok (.getfield 10, 3) := by decide +kernel
theorem dX7_isRight_4 : decode cX7_isRight 4 = .ok (.invokevirtual 79, 3) := by decide +kernel
theorem dX7_isRight_7 : decode cX7_isRight 7 = .ok (.invokevirtual 83, 3) := by decide +kernel
theorem dX7_isRight_10 : decode cX7_isRight 10 = .ok (.ireturn, 1) := by decide +kernel
theorem dX7_faultLength_0 : decode cX7_faultLength 0 = .ok (.aload_n 0, 1) := by decide +kernel
theorem dX7_faultLength_1 : decode cX7_faultLength 1 = .ok (.getfield 10, 3) := by decide +kernel
theorem dX7_faultLength_4 : decode cX7_faultLength 4 = .ok (.invokevirtual 79, 3) := by decide +kernel
theorem dX7_faultLength_7 : decode cX7_faultLength 7 = .ok (.invokevirtual 88, 3) := by decide +kernel
theorem dX7_faultLength_10 : decode cX7_faultLength 10 = .ok (.ireturn, 1) := by decide +kernel
theorem dX7_fault_0 : decode cX7_fault 0 = .ok (.aload_n 0, 1) := by decide +kernel
theorem dX7_fault_1 : decode cX7_fault 1 = .ok (.getfield 10, 3) := by decide +kernel
theorem dX7_fault_4 : decode cX7_fault 4 = .ok (.invokevirtual 79, 3) := by decide +kernel
theorem dX7_fault_7 : decode cX7_fault 7 = .ok (.astore_n 2, 1) := by decide +kernel
theorem dX7_fault_8 : decode cX7_fault 8 = .ok (.iload_n 1, 1) := by decide +kernel
theorem dX7_fault_9 : decode cX7_fault 9 = .ok (.ifCond .lt 11, 3) := by decide +kernel
theorem dX7_fault_12 : decode cX7_fault 12 = .ok (.iload_n 1, 1) := by decide +kernel
theorem dX7_fault_13 : decode cX7_fault 13 = .ok (.aload_n 2, 1) := by decide +kernel
theorem dX7_fault_14 : decode cX7_fault 14 = .ok (.invokevirtual 88, 3) := by decide +kernel
theorem dX7_fault_17 : decode cX7_fault 17 = .ok (.if_icmp .lt 13, 3) := by decide +kernel
theorem dX7_fault_20 : decode cX7_fault 20 = .ok (.new 91, 3) := by decide +kernel
theorem dX7_fault_23 : decode cX7_fault 23 = .ok (.dup, 1) := by decide +kernel
theorem dX7_fault_24 : decode cX7_fault 24 = .ok (.ldc 93, 2) := by decide +kernel
theorem dX7_fault_26 : decode cX7_fault 26 = .ok (.invokespecial 95, 3) := by decide +kernel
theorem dX7_fault_29 : decode cX7_fault 29 = .ok (.athrow, 1) := by decide +kernel
theorem dX7_fault_30 : decode cX7_fault 30 = .ok (.aload_n 2, 1) := by decide +kernel
theorem dX7_fault_31 : decode cX7_fault 31 = .ok (.iload_n 1, 1) := by decide +kernel
theorem dX7_fault_32 : decode cX7_fault 32 = .ok (.invokevirtual 96, 3) := by decide +kernel
theorem dX7_fault_35 : decode cX7_fault 35 = .ok (.ireturn, 1) := by decide +kernel
theorem dX7_pass_0 : decode cX7_pass 0 = .ok (.iload_n 1, 1) := by decide +kernel
theorem dX7_pass_1 : decode cX7_pass 1 = .ok (.iconst 1, 1) := by decide +kernel
theorem dX7_pass_2 : decode cX7_pass 2 = .ok (.sipush 500, 3) := by decide +kernel
theorem dX7_pass_5 : decode cX7_pass 5 = .ok (.invokestatic 100, 3) := by decide +kernel
theorem dX7_pass_8 : decode cX7_pass 8 = .ok (.ifCond .ne 13, 3) := by decide +kernel
theorem dX7_pass_11 : decode cX7_pass 11 = .ok (.new 55, 3) := by decide +kernel
theorem dX7_pass_14 : decode cX7_pass 14 = .ok (.dup, 1) := by decide +kernel
theorem dX7_pass_15 : decode cX7_pass 15 = .ok (.ldc 104, 2) := by decide +kernel
theorem dX7_pass_17 : decode cX7_pass 17 = .ok (.invokespecial 59, 3) := by decide +kernel
theorem dX7_pass_20 : decode cX7_pass 20 = .ok (.athrow, 1) := by decide +kernel
theorem dX7_pass_21 : decode cX7_pass 21 = .ok (.aload_n 0, 1) := by decide +kernel
theorem dX7_pass_22 : decode cX7_pass 22 = .ok (.getfield 45, 3) := by decide +kernel
theorem dX7_pass_25 : decode cX7_pass 25 = .ok (.iload_n 1, 1) := by decide +kernel
theorem dX7_pass_26 : decode cX7_pass 26 = .ok (.iadd, 1) := by decide +kernel
theorem dX7_pass_27 : decode cX7_pass 27 = .ok (.sipush 20000, 3) := by decide +kernel
theorem dX7_pass_30 : decode cX7_pass 30 = .ok (.if_icmp .le 13, 3) := by decide +kernel
theorem dX7_pass_33 : decode cX7_pass 33 = .ok (.new 66, 3) := by decide +kernel
theorem dX7_pass_36 : decode cX7_pass 36 = .ok (.dup, 1) := by decide +kernel
theorem dX7_pass_37 : decode cX7_pass 37 = .ok (.ldc 106, 2) := by decide +kernel
theorem dX7_pass_39 : decode cX7_pass 39 = .ok (.invokespecial 70, 3) := by decide +kernel
theorem dX7_pass_42 : decode cX7_pass 42 = .ok (.athrow, 1) := by decide +kernel
theorem dX7_pass_43 : decode cX7_pass 43 = .ok (.aload_n 0, 1) := by decide +kernel
theorem dX7_pass_44 : decode cX7_pass 44 = .ok (.dup, 1) := by decide +kernel
theorem dX7_pass_45 : decode cX7_pass 45 = .ok (.getfield 45, 3) := by decide +kernel
theorem dX7_pass_48 : decode cX7_pass 48 = .ok (.iload_n 1, 1) := by decide +kernel
theorem dX7_pass_49 : decode cX7_pass 49 = .ok (.iadd, 1) := by decide +kernel
theorem dX7_pass_50 : decode cX7_pass 50 = .ok (.putfield 45, 3) := by decide +kernel
theorem dX7_pass_53 : decode cX7_pass 53 = .ok (.aload_n 0, 1) := by decide +kernel
theorem dX7_pass_54 : decode cX7_pass 54 = .ok (.getfield 45, 3) := by decide +kernel
theorem dX7_pass_57 : decode cX7_pass 57 = .ok (.ireturn, 1) := by decide +kernel
theorem dX7_quota_0 : decode cX7_quota 0 = .ok (.aload_n 0, 1) := by decide +kernel
theorem dX7_quota_1 : decode cX7_quota 1 = .ok (.iload_n 1, 1) := by decide +kernel
theorem dX7_quota_2 : decode cX7_quota 2 = .ok (.invokevirtual 108, 3) := by decide +kernel
theorem dX7_quota_5 : decode cX7_quota 5 = .ok (.astore 4, 2) := by decide +kernel
theorem dX7_quota_7 : decode cX7_quota 7 = .ok (.iload_n 2, 1) := by decide +kernel
theorem dX7_quota_8 : decode cX7_quota 8 = .ok (.iconst 0, 1) := by decide +kernel
theorem dX7_quota_9 : decode cX7_quota 9 = .ok (.bipush 50, 2) := by decide +kernel
theorem dX7_quota_11 : decode cX7_quota 11 = .ok (.invokestatic 100, 3) := by decide +kernel
theorem dX7_quota_14 : decode cX7_quota 14 = .ok (.ifCond .eq 14, 3) := by decide +kernel
theorem dX7_quota_17 : decode cX7_quota 17 = .ok (.iload_n 3, 1) := by decide +kernel
theorem dX7_quota_18 : decode cX7_quota 18 = .ok (.iconst 1, 1) := by decide +kernel
theorem dX7_quota_19 : decode cX7_quota 19 = .ok (.sipush 1440, 3) := by decide +kernel
theorem dX7_quota_22 : decode cX7_quota 22 = .ok (.invokestatic 100, 3) := by decide +kernel
theorem dX7_quota_25 : decode cX7_quota 25 = .ok (.ifCond .ne 13, 3) := by decide +kernel
theorem dX7_quota_28 : decode cX7_quota 28 = .ok (.new 55, 3) := by decide +kernel
theorem dX7_quota_31 : decode cX7_quota 31 = .ok (.dup, 1) := by decide +kernel
theorem dX7_quota_32 : decode cX7_quota 32 = .ok (.ldc 112, 2) := by decide +kernel
theorem dX7_quota_34 : decode cX7_quota 34 = .ok (.invokespecial 59, 3) := by decide +kernel
theorem dX7_quota_37 : decode cX7_quota 37 = .ok (.athrow, 1) := by decide +kernel
theorem dX7_quota_38 : decode cX7_quota 38 = .ok (.aload 4, 2) := by decide +kernel
theorem dX7_quota_40 : decode cX7_quota 40 = .ok (.getfield 114, 3) := by decide +kernel
theorem dX7_quota_43 : decode cX7_quota 43 = .ok (.istore 5, 2) := by decide +kernel
theorem dX7_quota_45 : decode cX7_quota 45 = .ok (.aload 4, 2) := by decide +kernel
theorem dX7_quota_47 : decode cX7_quota 47 = .ok (.iload_n 2, 1) := by decide +kernel
theorem dX7_quota_48 : decode cX7_quota 48 = .ok (.putfield 114, 3) := by decide +kernel
theorem dX7_quota_51 : decode cX7_quota 51 = .ok (.aload 4, 2) := by decide +kernel
theorem dX7_quota_53 : decode cX7_quota 53 = .ok (.iload_n 3, 1) := by decide +kernel
theorem dX7_quota_54 : decode cX7_quota 54 = .ok (.putfield 117, 3) := by decide +kernel
theorem dX7_quota_57 : decode cX7_quota 57 = .ok (.iload 5, 2) := by decide +kernel
theorem dX7_quota_59 : decode cX7_quota 59 = .ok (.ireturn, 1) := by decide +kernel
theorem dX7_carrier_0 : decode cX7_carrier 0 = .ok (.aload_n 0, 1) := by decide +kernel
theorem dX7_carrier_1 : decode cX7_carrier 1 = .ok (.iload_n 1, 1) := by decide +kernel
theorem dX7_carrier_2 : decode cX7_carrier 2 = .ok (.invokevirtual 120, 3) := by decide +kernel
theorem dX7_carrier_5 : decode cX7_carrier 5 = .ok (.astore 4, 2) := by decide +kernel
theorem dX7_carrier_7 : decode cX7_carrier 7 = .ok (.iload_n 3, 1) := by decide +kernel
theorem dX7_carrier_8 : decode cX7_carrier 8 = .ok (.iconst 0, 1) := by decide +kernel
theorem dX7_carrier_9 : decode cX7_carrier 9 = .ok (.bipush 10, 2) := by decide +kernel
theorem dX7_carrier_11 : decode cX7_carrier 11 = .ok (.invokestatic 100, 3) := by decide +kernel
theorem dX7_carrier_14 : decode cX7_carrier 14 = .ok (.ifCond .ne 13, 3) := by decide +kernel
theorem dX7_carrier_17 : decode cX7_carrier 17 = .ok (.new 55, 3) := by decide +kernel
theorem dX7_carrier_20 : decode cX7_carrier 20 = .ok (.dup, 1) := by decide +kernel
theorem dX7_carrier_21 : decode cX7_carrier 21 = .ok (.ldc 124, 2) := by decide +kernel
theorem dX7_carrier_23 : decode cX7_carrier 23 = .ok (.invokespecial 59, 3) := by decide +kernel
theorem dX7_carrier_26 : decode cX7_carrier 26 = .ok (.athrow, 1) := by decide +kernel
theorem dX7_carrier_27 : decode cX7_carrier 27 = .ok (.aload 4, 2) := by decide +kernel
theorem dX7_carrier_29 : decode cX7_carrier 29 = .ok (.getfield 126, 3) := by decide +kernel
theorem dX7_carrier_32 : decode cX7_carrier 32 = .ok (.istore 5, 2) := by decide +kernel
theorem dX7_carrier_34 : decode cX7_carrier 34 = .ok (.aload 4, 2) := by decide +kernel
theorem dX7_carrier_36 : decode cX7_carrier 36 = .ok (.iload_n 2, 1) := by decide +kernel
theorem dX7_carrier_37 : decode cX7_carrier 37 = .ok (.putfield 129, 3) := by decide +kernel
theorem dX7_carrier_40 : decode cX7_carrier 40 = .ok (.aload 4, 2) := by decide +kernel
theorem dX7_carrier_42 : decode cX7_carrier 42 = .ok (.iload_n 3, 1) := by decide +kernel
theorem dX7_carrier_43 : decode cX7_carrier 43 = .ok (.putfield 126, 3) := by decide +kernel
theorem dX7_carrier_46 : decode cX7_carrier 46 = .ok (.iload 5, 2) := by decide +kernel
theorem dX7_carrier_48 : decode cX7_carrier 48 = .ok (.ireturn, 1) := by decide +kernel
theorem dX7_tariff_0 : decode cX7_tariff 0 = .ok (.aload_n 0, 1) := by decide +kernel
theorem dX7_tariff_1 : decode cX7_tariff 1 = .ok (.iload_n 1, 1) := by decide +kernel
theorem dX7_tariff_2 : decode cX7_tariff 2 = .ok (.invokevirtual 120, 3) := by decide +kernel
theorem dX7_tariff_5 : decode cX7_tariff 5 = .ok (.astore 5, 2) := by decide +kernel
theorem dX7_tariff_7 : decode cX7_tariff 7 = .ok (.iload_n 2, 1) := by decide +kernel
theorem dX7_tariff_8 : decode cX7_tariff 8 = .ok (.iconst 0, 1) := by decide +kernel
theorem dX7_tariff_9 : decode cX7_tariff 9 = .ok (.sipush 10000, 3) := by decide +kernel
theorem dX7_tariff_12 : decode cX7_tariff 12 = .ok (.invokestatic 100, 3) := by decide +kernel
theorem dX7_tariff_15 : decode cX7_tariff 15 = .ok (.ifCond .eq 26, 3) := by decide +kernel
theorem dX7_tariff_18 : decode cX7_tariff 18 = .ok (.iload_n 3, 1) := by decide +kernel
theorem dX7_tariff_19 : decode cX7_tariff 19 = .ok (.iconst 0, 1) := by decide +kernel
theorem dX7_tariff_20 : decode cX7_tariff 20 = .ok (.sipush 1000, 3) := by decide +kernel
theorem dX7_tariff_23 : decode cX7_tariff 23 = .ok (.invokestatic 100, 3) := by decide +kernel
theorem dX7_tariff_26 : decode cX7_tariff 26 = .ok (.ifCond .eq 15, 3) := by decide +kernel
theorem dX7_tariff_29 : decode cX7_tariff 29 = .ok (.iload 4, 2) := by decide +kernel
theorem dX7_tariff_31 : decode cX7_tariff 31 = .ok (.iconst 0, 1) := by decide +kernel
theorem dX7_tariff_32 : decode cX7_tariff 32 = .ok (.sipush 1000, 3) := by decide +kernel
theorem dX7_tariff_35 : decode cX7_tariff 35 = .ok (.invokestatic 100, 3) := by decide +kernel
theorem dX7_tariff_38 : decode cX7_tariff 38 = .ok (.ifCond .ne 13, 3) := by decide +kernel
theorem dX7_tariff_41 : decode cX7_tariff 41 = .ok (.new 55, 3) := by decide +kernel
theorem dX7_tariff_44 : decode cX7_tariff 44 = .ok (.dup, 1) := by decide +kernel
theorem dX7_tariff_45 : decode cX7_tariff 45 = .ok (.ldc 133, 2) := by decide +kernel
theorem dX7_tariff_47 : decode cX7_tariff 47 = .ok (.invokespecial 59, 3) := by decide +kernel
theorem dX7_tariff_50 : decode cX7_tariff 50 = .ok (.athrow, 1) := by decide +kernel
theorem dX7_tariff_51 : decode cX7_tariff 51 = .ok (.aload 5, 2) := by decide +kernel
theorem dX7_tariff_53 : decode cX7_tariff 53 = .ok (.getfield 135, 3) := by decide +kernel
theorem dX7_tariff_56 : decode cX7_tariff 56 = .ok (.getfield 139, 3) := by decide +kernel
theorem dX7_tariff_59 : decode cX7_tariff 59 = .ok (.istore 6, 2) := by decide +kernel
theorem dX7_tariff_61 : decode cX7_tariff 61 = .ok (.aload 5, 2) := by decide +kernel
theorem dX7_tariff_63 : decode cX7_tariff 63 = .ok (.new 140, 3) := by decide +kernel
theorem dX7_tariff_66 : decode cX7_tariff 66 = .ok (.dup, 1) := by decide +kernel
theorem dX7_tariff_67 : decode cX7_tariff 67 = .ok (.iload_n 2, 1) := by decide +kernel
theorem dX7_tariff_68 : decode cX7_tariff 68 = .ok (.iload_n 3, 1) := by decide +kernel
theorem dX7_tariff_69 : decode cX7_tariff 69 = .ok (.iload 4, 2) := by decide +kernel
theorem dX7_tariff_71 : decode cX7_tariff 71 = .ok (.invokespecial 144, 3) := by decide +kernel
theorem dX7_tariff_74 : decode cX7_tariff 74 = .ok (.putfield 135, 3) := by decide +kernel
theorem dX7_tariff_77 : decode cX7_tariff 77 = .ok (.iload 6, 2) := by decide +kernel
theorem dX7_tariff_79 : decode cX7_tariff 79 = .ok (.ireturn, 1) := by decide +kernel
theorem dX7_call_0 : decode cX7_call 0 = .ok (.aload_n 0, 1) := by decide +kernel
theorem dX7_call_1 : decode cX7_call 1 = .ok (.getfield 10, 3) := by decide +kernel
theorem dX7_call_4 : decode cX7_call 4 = .ok (.invokevirtual 79, 3) := by decide +kernel
theorem dX7_call_7 : decode cX7_call 7 = .ok (.invokevirtual 83, 3) := by decide +kernel
theorem dX7_call_10 : decode cX7_call 10 = .ok (.ifCond .ne 13, 3) := by decide +kernel
theorem dX7_call_13 : decode cX7_call 13 = .ok (.new 55, 3) := by decide +kernel
theorem dX7_call_16 : decode cX7_call 16 = .ok (.dup, 1) := by decide +kernel
theorem dX7_call_17 : decode cX7_call 17 = .ok (.ldc 147, 2) := by decide +kernel
theorem dX7_call_19 : decode cX7_call 19 = .ok (.invokespecial 59, 3) := by decide +kernel
theorem dX7_call_22 : decode cX7_call 22 = .ok (.athrow, 1) := by decide +kernel
theorem dX7_call_23 : decode cX7_call 23 = .ok (.aload_n 0, 1) := by decide +kernel
theorem dX7_call_24 : decode cX7_call 24 = .ok (.getfield 38, 3) := by decide +kernel
theorem dX7_call_27 : decode cX7_call 27 = .ok (.invokeinterface 149 1, 5) := by decide +kernel
theorem dX7_call_32 : decode cX7_call 32 = .ok (.bipush 100, 2) := by decide +kernel
theorem dX7_call_34 : decode cX7_call 34 = .ok (.if_icmp .lt 13, 3) := by decide +kernel
theorem dX7_call_37 : decode cX7_call 37 = .ok (.new 66, 3) := by decide +kernel
theorem dX7_call_40 : decode cX7_call 40 = .ok (.dup, 1) := by decide +kernel
theorem dX7_call_41 : decode cX7_call 41 = .ok (.ldc 154, 2) := by decide +kernel
theorem dX7_call_43 : decode cX7_call 43 = .ok (.invokespecial 70, 3) := by decide +kernel
theorem dX7_call_46 : decode cX7_call 46 = .ok (.athrow, 1) := by decide +kernel
theorem dX7_call_47 : decode cX7_call 47 = .ok (.aload_n 0, 1) := by decide +kernel
theorem dX7_call_48 : decode cX7_call 48 = .ok (.getfield 10, 3) := by decide +kernel
theorem dX7_call_51 : decode cX7_call 51 = .ok (.iconst 0, 1) := by decide +kernel
theorem dX7_call_52 : decode cX7_call 52 = .ok (.invokevirtual 156, 3) := by decide +kernel
theorem dX7_call_55 : decode cX7_call 55 = .ok (.istore_n 1, 1) := by decide +kernel
theorem dX7_call_56 : decode cX7_call 56 = .ok (.aload_n 0, 1) := by decide +kernel
theorem dX7_call_57 : decode cX7_call 57 = .ok (.aload_n 0, 1) := by decide +kernel
theorem dX7_call_58 : decode cX7_call 58 = .ok (.iload_n 1, 1) := by decide +kernel
theorem dX7_call_59 : decode cX7_call 59 = .ok (.invokevirtual 108, 3) := by decide +kernel
theorem dX7_call_62 : decode cX7_call 62 = .ok (.aload_n 0, 1) := by decide +kernel
theorem dX7_call_63 : decode cX7_call 63 = .ok (.aload_n 0, 1) := by decide +kernel
theorem dX7_call_64 : decode cX7_call 64 = .ok (.getfield 10, 3) := by decide +kernel
theorem dX7_call_67 : decode cX7_call 67 = .ok (.iconst 1, 1) := by decide +kernel
theorem dX7_call_68 : decode cX7_call 68 = .ok (.invokevirtual 156, 3) := by decide +kernel
theorem dX7_call_71 : decode cX7_call 71 = .ok (.invokevirtual 120, 3) := by decide +kernel
theorem dX7_call_74 : decode cX7_call 74 = .ok (.invokevirtual 160, 3) := by decide +kernel
theorem dX7_call_77 : decode cX7_call 77 = .ok (.istore_n 2, 1) := by decide +kernel
theorem dX7_call_78 : decode cX7_call 78 = .ok (.aload_n 0, 1) := by decide +kernel
theorem dX7_call_79 : decode cX7_call 79 = .ok (.getfield 19, 3) := by decide +kernel
theorem dX7_call_82 : decode cX7_call 82 = .ok (.iload_n 1, 1) := by decide +kernel
theorem dX7_call_83 : decode cX7_call 83 = .ok (.aload_n 0, 1) := by decide +kernel
theorem dX7_call_84 : decode cX7_call 84 = .ok (.getfield 45, 3) := by decide +kernel
theorem dX7_call_87 : decode cX7_call 87 = .ok (.iload_n 2, 1) := by decide +kernel
theorem dX7_call_88 : decode cX7_call 88 = .ok (.bipush (-2), 2) := by decide +kernel
theorem dX7_call_90 : decode cX7_call 90 = .ok (.if_icmp .ne 7, 3) := by decide +kernel
theorem dX7_call_93 : decode cX7_call 93 = .ok (.iconst 1, 1) := by decide +kernel
theorem dX7_call_94 : decode cX7_call 94 = .ok (.goto 4, 3) := by decide +kernel
theorem dX7_call_97 : decode cX7_call 97 = .ok (.iconst 0, 1) := by decide +kernel
theorem dX7_call_98 : decode cX7_call 98 = .ok (.invokevirtual 164, 3) := by decide +kernel
theorem dX7_call_101 : decode cX7_call 101 = .ok (.aload_n 0, 1) := by decide +kernel
theorem dX7_call_102 : decode cX7_call 102 = .ok (.getfield 10, 3) := by decide +kernel
theorem dX7_call_105 : decode cX7_call 105 = .ok (.invokevirtual 75, 3) := by decide +kernel
theorem dX7_call_108 : decode cX7_call 108 = .ok (.pop, 1) := by decide +kernel
theorem dX7_call_109 : decode cX7_call 109 = .ok (.iload_n 2, 1) := by decide +kernel
theorem dX7_call_110 : decode cX7_call 110 = .ok (.ireturn, 1) := by decide +kernel
theorem dX7_price_0 : decode cX7_price 0 = .ok (.aload_n 0, 1) := by decide +kernel
theorem dX7_price_1 : decode cX7_price 1 = .ok (.iload_n 1, 1) := by decide +kernel
theorem dX7_price_2 : decode cX7_price 2 = .ok (.invokevirtual 168, 3) := by decide +kernel
theorem dX7_price_5 : decode cX7_price 5 = .ok (.astore_n 2, 1) := by decide +kernel
theorem dX7_price_6 : decode cX7_price 6 = .ok (.aload_n 2, 1) := by decide +kernel
theorem dX7_price_7 : decode cX7_price 7 = .ok (.aload_n 2, 1) := by decide +kernel
theorem dX7_price_8 : decode cX7_price 8 = .ok (.getfield 172, 3) := by decide +kernel
theorem dX7_price_11 : decode cX7_price 11 = .ok (.aload_n 2, 1) := by decide +kernel
theorem dX7_price_12 : decode cX7_price 12 = .ok (.getfield 175, 3) := by decide +kernel
theorem dX7_price_15 : decode cX7_price 15 = .ok (.invokevirtual 178, 3) := by decide +kernel
theorem dX7_price_18 : decode cX7_price 18 = .ok (.ireturn, 1) := by decide +kernel
theorem dX7_fixed_0 : decode cX7_fixed 0 = .ok (.iconst 0, 1) := by decide +kernel
theorem dX7_fixed_1 : decode cX7_fixed 1 = .ok (.aload_n 0, 1) := by decide +kernel
theorem dX7_fixed_2 : decode cX7_fixed 2 = .ok (.iload_n 1, 1) := by decide +kernel
theorem dX7_fixed_3 : decode cX7_fixed 3 = .ok (.invokevirtual 168, 3) := by decide +kernel
theorem dX7_fixed_6 : decode cX7_fixed 6 = .ok (.getfield 182, 3) := by decide +kernel
theorem dX7_fixed_9 : decode cX7_fixed 9 = .ok (.aload_n 0, 1) := by decide +kernel
theorem dX7_fixed_10 : decode cX7_fixed 10 = .ok (.getfield 45, 3) := by decide +kernel
theorem dX7_fixed_13 : decode cX7_fixed 13 = .ok (.isub, 1) := by decide +kernel
theorem dX7_fixed_14 : decode cX7_fixed 14 = .ok (.invokestatic 185, 3) := by decide +kernel
theorem dX7_fixed_17 : decode cX7_fixed 17 = .ok (.ireturn, 1) := by decide +kernel
theorem dX7_left_0 : decode cX7_left 0 = .ok (.aload_n 0, 1) := by decide +kernel
theorem dX7_left_1 : decode cX7_left 1 = .ok (.iload_n 1, 1) := by decide +kernel
theorem dX7_left_2 : decode cX7_left 2 = .ok (.invokevirtual 108, 3) := by decide +kernel
theorem dX7_left_5 : decode cX7_left 5 = .ok (.aload_n 0, 1) := by decide +kernel
theorem dX7_left_6 : decode cX7_left 6 = .ok (.getfield 45, 3) := by decide +kernel
theorem dX7_left_9 : decode cX7_left 9 = .ok (.invokevirtual 191, 3) := by decide +kernel
theorem dX7_left_12 : decode cX7_left 12 = .ok (.ireturn, 1) := by decide +kernel
theorem dX7_leftByLog_0 : decode cX7_leftByLog 0 = .ok (.aload_n 0, 1) := by decide +kernel
theorem dX7_leftByLog_1 : decode cX7_leftByLog 1 = .ok (.iload_n 1, 1) := by decide +kernel
theorem dX7_leftByLog_2 : decode cX7_leftByLog 2 = .ok (.invokevirtual 108, 3) := by decide +kernel
theorem dX7_leftByLog_5 : decode cX7_leftByLog 5 = .ok (.astore_n 2, 1) := by decide +kernel
theorem dX7_leftByLog_6 : decode cX7_leftByLog 6 = .ok (.aload_n 0, 1) := by decide +kernel
theorem dX7_leftByLog_7 : decode cX7_leftByLog 7 = .ok (.getfield 19, 3) := by decide +kernel
theorem dX7_leftByLog_10 : decode cX7_leftByLog 10 = .ok (.iload_n 1, 1) := by decide +kernel
theorem dX7_leftByLog_11 : decode cX7_leftByLog 11 = .ok (.aload_n 0, 1) := by decide +kernel
theorem dX7_leftByLog_12 : decode cX7_leftByLog 12 = .ok (.getfield 45, 3) := by decide +kernel
theorem dX7_leftByLog_15 : decode cX7_leftByLog 15 = .ok (.aload_n 2, 1) := by decide +kernel
theorem dX7_leftByLog_16 : decode cX7_leftByLog 16 = .ok (.getfield 117, 3) := by decide +kernel
theorem dX7_leftByLog_19 : decode cX7_leftByLog 19 = .ok (.isub, 1) := by decide +kernel
theorem dX7_leftByLog_20 : decode cX7_leftByLog 20 = .ok (.invokevirtual 194, 3) := by decide +kernel
theorem dX7_leftByLog_23 : decode cX7_leftByLog 23 = .ok (.istore_n 3, 1) := by decide +kernel
theorem dX7_leftByLog_24 : decode cX7_leftByLog 24 = .ok (.iconst 0, 1) := by decide +kernel
theorem dX7_leftByLog_25 : decode cX7_leftByLog 25 = .ok (.aload_n 2, 1) := by decide +kernel
theorem dX7_leftByLog_26 : decode cX7_leftByLog 26 = .ok (.getfield 114, 3) := by decide +kernel
theorem dX7_leftByLog_29 : decode cX7_leftByLog 29 = .ok (.iload_n 3, 1) := by decide +kernel
theorem dX7_leftByLog_30 : decode cX7_leftByLog 30 = .ok (.isub, 1) := by decide +kernel
theorem dX7_leftByLog_31 : decode cX7_leftByLog 31 = .ok (.invokestatic 185, 3) := by decide +kernel
theorem dX7_leftByLog_34 : decode cX7_leftByLog 34 = .ok (.ireturn, 1) := by decide +kernel
theorem dX7_circuit_0 : decode cX7_circuit 0 = .ok (.aload_n 0, 1) := by decide +kernel
theorem dX7_circuit_1 : decode cX7_circuit 1 = .ok (.iload_n 1, 1) := by decide +kernel
theorem dX7_circuit_2 : decode cX7_circuit 2 = .ok (.invokevirtual 120, 3) := by decide +kernel
theorem dX7_circuit_5 : decode cX7_circuit 5 = .ok (.aload_n 0, 1) := by decide +kernel
theorem dX7_circuit_6 : decode cX7_circuit 6 = .ok (.getfield 45, 3) := by decide +kernel
theorem dX7_circuit_9 : decode cX7_circuit 9 = .ok (.invokevirtual 197, 3) := by decide +kernel
theorem dX7_circuit_12 : decode cX7_circuit 12 = .ok (.ireturn, 1) := by decide +kernel
theorem dX7_tries_0 : decode cX7_tries 0 = .ok (.aload_n 0, 1) := by decide +kernel
theorem dX7_tries_1 : decode cX7_tries 1 = .ok (.iload_n 1, 1) := by decide +kernel
theorem dX7_tries_2 : decode cX7_tries 2 = .ok (.invokevirtual 120, 3) := by decide +kernel
theorem dX7_tries_5 : decode cX7_tries 5 = .ok (.getfield 200, 3) := by decide +kernel
theorem dX7_tries_8 : decode cX7_tries 8 = .ok (.ireturn, 1) := by decide +kernel
theorem dX7_calls_0 : decode cX7_calls 0 = .ok (.aload_n 0, 1) := by decide +kernel
theorem dX7_calls_1 : decode cX7_calls 1 = .ok (.getfield 19, 3) := by decide +kernel
theorem dX7_calls_4 : decode cX7_calls 4 = .ok (.getfield 203, 3) := by decide +kernel
theorem dX7_calls_7 : decode cX7_calls 7 = .ok (.ireturn, 1) := by decide +kernel
theorem dX7_book_0 : decode cX7_book 0 = .ok (.aload_n 0, 1) := by decide +kernel
theorem dX7_book_1 : decode cX7_book 1 = .ok (.iload_n 1, 1) := by decide +kernel
theorem dX7_book_2 : decode cX7_book 2 = .ok (.invokevirtual 168, 3) := by decide +kernel
theorem dX7_book_5 : decode cX7_book 5 = .ok (.astore_n 2, 1) := by decide +kernel
theorem dX7_book_6 : decode cX7_book 6 = .ok (.aload_n 2, 1) := by decide +kernel
theorem dX7_book_7 : decode cX7_book 7 = .ok (.aload_n 2, 1) := by decide +kernel
theorem dX7_book_8 : decode cX7_book 8 = .ok (.getfield 172, 3) := by decide +kernel
theorem dX7_book_11 : decode cX7_book 11 = .ok (.aload_n 2, 1) := by decide +kernel
theorem dX7_book_12 : decode cX7_book 12 = .ok (.getfield 175, 3) := by decide +kernel
theorem dX7_book_15 : decode cX7_book 15 = .ok (.invokevirtual 178, 3) := by decide +kernel
theorem dX7_book_18 : decode cX7_book 18 = .ok (.istore_n 3, 1) := by decide +kernel
theorem dX7_book_19 : decode cX7_book 19 = .ok (.aload_n 2, 1) := by decide +kernel
theorem dX7_book_20 : decode cX7_book 20 = .ok (.aload_n 0, 1) := by decide +kernel
theorem dX7_book_21 : decode cX7_book 21 = .ok (.aload_n 2, 1) := by decide +kernel
theorem dX7_book_22 : decode cX7_book 22 = .ok (.getfield 206, 3) := by decide +kernel
theorem dX7_book_25 : decode cX7_book 25 = .ok (.invokevirtual 120, 3) := by decide +kernel
theorem dX7_book_28 : decode cX7_book 28 = .ok (.getfield 135, 3) := by decide +kernel
theorem dX7_book_31 : decode cX7_book 31 = .ok (.aload_n 2, 1) := by decide +kernel
theorem dX7_book_32 : decode cX7_book 32 = .ok (.getfield 175, 3) := by decide +kernel
theorem dX7_book_35 : decode cX7_book 35 = .ok (.invokevirtual 178, 3) := by decide +kernel
theorem dX7_book_38 : decode cX7_book 38 = .ok (.istore 4, 2) := by decide +kernel
theorem dX7_book_40 : decode cX7_book 40 = .ok (.aload_n 2, 1) := by decide +kernel
theorem dX7_book_41 : decode cX7_book 41 = .ok (.aload_n 0, 1) := by decide +kernel
theorem dX7_book_42 : decode cX7_book 42 = .ok (.getfield 45, 3) := by decide +kernel
theorem dX7_book_45 : decode cX7_book 45 = .ok (.invokevirtual 209, 3) := by decide +kernel
theorem dX7_book_48 : decode cX7_book 48 = .ok (.ifCond .ne 19, 3) := by decide +kernel
theorem dX7_book_51 : decode cX7_book 51 = .ok (.iload 4, 2) := by decide +kernel
theorem dX7_book_53 : decode cX7_book 53 = .ok (.iload_n 3, 1) := by decide +kernel
theorem dX7_book_54 : decode cX7_book 54 = .ok (.if_icmp .eq 13, 3) := by decide +kernel
theorem dX7_book_57 : decode cX7_book 57 = .ok (.new 66, 3) := by decide +kernel
theorem dX7_book_60 : decode cX7_book 60 = .ok (.dup, 1) := by decide +kernel
theorem dX7_book_61 : decode cX7_book 61 = .ok (.ldc 213, 2) := by decide +kernel
theorem dX7_book_63 : decode cX7_book 63 = .ok (.invokespecial 70, 3) := by decide +kernel
theorem dX7_book_66 : decode cX7_book 66 = .ok (.athrow, 1) := by decide +kernel
theorem dX7_book_67 : decode cX7_book 67 = .ok (.aload_n 0, 1) := by decide +kernel
theorem dX7_book_68 : decode cX7_book 68 = .ok (.getfield 42, 3) := by decide +kernel
theorem dX7_book_71 : decode cX7_book 71 = .ok (.invokeinterface 149 1, 5) := by decide +kernel
theorem dX7_book_76 : decode cX7_book 76 = .ok (.bipush 50, 2) := by decide +kernel
theorem dX7_book_78 : decode cX7_book 78 = .ok (.if_icmp .lt 13, 3) := by decide +kernel
theorem dX7_book_81 : decode cX7_book 81 = .ok (.new 66, 3) := by decide +kernel
theorem dX7_book_84 : decode cX7_book 84 = .ok (.dup, 1) := by decide +kernel
theorem dX7_book_85 : decode cX7_book 85 = .ok (.ldc 215, 2) := by decide +kernel
theorem dX7_book_87 : decode cX7_book 87 = .ok (.invokespecial 70, 3) := by decide +kernel
theorem dX7_book_90 : decode cX7_book 90 = .ok (.athrow, 1) := by decide +kernel
theorem dX7_book_91 : decode cX7_book 91 = .ok (.aload_n 0, 1) := by decide +kernel
theorem dX7_book_92 : decode cX7_book 92 = .ok (.getfield 42, 3) := by decide +kernel
theorem dX7_book_95 : decode cX7_book 95 = .ok (.new 217, 3) := by decide +kernel
theorem dX7_book_98 : decode cX7_book 98 = .ok (.dup, 1) := by decide +kernel
theorem dX7_book_99 : decode cX7_book 99 = .ok (.aload_n 2, 1) := by decide +kernel
theorem dX7_book_100 : decode cX7_book 100 = .ok (.iload_n 3, 1) := by decide +kernel
theorem dX7_book_101 : decode cX7_book 101 = .ok (.aload_n 0, 1) := by decide +kernel
theorem dX7_book_102 : decode cX7_book 102 = .ok (.getfield 45, 3) := by decide +kernel
theorem dX7_book_105 : decode cX7_book 105 = .ok (.invokespecial 219, 3) := by decide +kernel
theorem dX7_book_108 : decode cX7_book 108 = .ok (.invokeinterface 222 2, 5) := by decide +kernel
theorem dX7_book_113 : decode cX7_book 113 = .ok (.pop, 1) := by decide +kernel
theorem dX7_book_114 : decode cX7_book 114 = .ok (.aload_n 0, 1) := by decide +kernel
theorem dX7_book_115 : decode cX7_book 115 = .ok (.getfield 42, 3) := by decide +kernel
theorem dX7_book_118 : decode cX7_book 118 = .ok (.invokeinterface 149 1, 5) := by decide +kernel
theorem dX7_book_123 : decode cX7_book 123 = .ok (.iconst 1, 1) := by decide +kernel
theorem dX7_book_124 : decode cX7_book 124 = .ok (.isub, 1) := by decide +kernel
theorem dX7_book_125 : decode cX7_book 125 = .ok (.ireturn, 1) := by decide +kernel
theorem dX7_weigh_0 : decode cX7_weigh 0 = .ok (.aload_n 0, 1) := by decide +kernel
theorem dX7_weigh_1 : decode cX7_weigh 1 = .ok (.iload_n 1, 1) := by decide +kernel
theorem dX7_weigh_2 : decode cX7_weigh 2 = .ok (.invokevirtual 225, 3) := by decide +kernel
theorem dX7_weigh_5 : decode cX7_weigh 5 = .ok (.astore_n 3, 1) := by decide +kernel
theorem dX7_weigh_6 : decode cX7_weigh 6 = .ok (.iload_n 2, 1) := by decide +kernel
theorem dX7_weigh_7 : decode cX7_weigh 7 = .ok (.iconst 1, 1) := by decide +kernel
theorem dX7_weigh_8 : decode cX7_weigh 8 = .ok (.sipush 30000, 3) := by decide +kernel
theorem dX7_weigh_11 : decode cX7_weigh 11 = .ok (.invokestatic 100, 3) := by decide +kernel
theorem dX7_weigh_14 : decode cX7_weigh 14 = .ok (.ifCond .ne 13, 3) := by decide +kernel
theorem dX7_weigh_17 : decode cX7_weigh 17 = .ok (.new 55, 3) := by decide +kernel
theorem dX7_weigh_20 : decode cX7_weigh 20 = .ok (.dup, 1) := by decide +kernel
theorem dX7_weigh_21 : decode cX7_weigh 21 = .ok (.ldc 229, 2) := by decide +kernel
theorem dX7_weigh_23 : decode cX7_weigh 23 = .ok (.invokespecial 59, 3) := by decide +kernel
theorem dX7_weigh_26 : decode cX7_weigh 26 = .ok (.athrow, 1) := by decide +kernel
theorem dX7_weigh_27 : decode cX7_weigh 27 = .ok (.aload_n 3, 1) := by decide +kernel
theorem dX7_weigh_28 : decode cX7_weigh 28 = .ok (.getfield 231, 3) := by decide +kernel
theorem dX7_weigh_31 : decode cX7_weigh 31 = .ok (.ifCond .eq 13, 3) := by decide +kernel
theorem dX7_weigh_34 : decode cX7_weigh 34 = .ok (.new 66, 3) := by decide +kernel
theorem dX7_weigh_37 : decode cX7_weigh 37 = .ok (.dup, 1) := by decide +kernel
theorem dX7_weigh_38 : decode cX7_weigh 38 = .ok (.ldc 234, 2) := by decide +kernel
theorem dX7_weigh_40 : decode cX7_weigh 40 = .ok (.invokespecial 70, 3) := by decide +kernel
theorem dX7_weigh_43 : decode cX7_weigh 43 = .ok (.athrow, 1) := by decide +kernel
theorem dX7_weigh_44 : decode cX7_weigh 44 = .ok (.aload_n 3, 1) := by decide +kernel
theorem dX7_weigh_45 : decode cX7_weigh 45 = .ok (.getfield 236, 3) := by decide +kernel
theorem dX7_weigh_48 : decode cX7_weigh 48 = .ok (.istore 4, 2) := by decide +kernel
theorem dX7_weigh_50 : decode cX7_weigh 50 = .ok (.aload_n 3, 1) := by decide +kernel
theorem dX7_weigh_51 : decode cX7_weigh 51 = .ok (.aload_n 3, 1) := by decide +kernel
theorem dX7_weigh_52 : decode cX7_weigh 52 = .ok (.getfield 239, 3) := by decide +kernel
theorem dX7_weigh_55 : decode cX7_weigh 55 = .ok (.aload_n 3, 1) := by decide +kernel
theorem dX7_weigh_56 : decode cX7_weigh 56 = .ok (.getfield 239, 3) := by decide +kernel
theorem dX7_weigh_59 : decode cX7_weigh 59 = .ok (.getfield 172, 3) := by decide +kernel
theorem dX7_weigh_62 : decode cX7_weigh 62 = .ok (.iload_n 2, 1) := by decide +kernel
theorem dX7_weigh_63 : decode cX7_weigh 63 = .ok (.invokevirtual 178, 3) := by decide +kernel
theorem dX7_weigh_66 : decode cX7_weigh 66 = .ok (.putfield 236, 3) := by decide +kernel
theorem dX7_weigh_69 : decode cX7_weigh 69 = .ok (.aload_n 3, 1) := by decide +kernel
theorem dX7_weigh_70 : decode cX7_weigh 70 = .ok (.getfield 236, 3) := by decide +kernel
theorem dX7_weigh_73 : decode cX7_weigh 73 = .ok (.iload 4, 2) := by decide +kernel
theorem dX7_weigh_75 : decode cX7_weigh 75 = .ok (.isub, 1) := by decide +kernel
theorem dX7_weigh_76 : decode cX7_weigh 76 = .ok (.ireturn, 1) := by decide +kernel
theorem dX7_cancel_0 : decode cX7_cancel 0 = .ok (.aload_n 0, 1) := by decide +kernel
theorem dX7_cancel_1 : decode cX7_cancel 1 = .ok (.iload_n 1, 1) := by decide +kernel
theorem dX7_cancel_2 : decode cX7_cancel 2 = .ok (.invokevirtual 225, 3) := by decide +kernel
theorem dX7_cancel_5 : decode cX7_cancel 5 = .ok (.astore_n 2, 1) := by decide +kernel
theorem dX7_cancel_6 : decode cX7_cancel 6 = .ok (.aload_n 2, 1) := by decide +kernel
theorem dX7_cancel_7 : decode cX7_cancel 7 = .ok (.getfield 231, 3) := by decide +kernel
theorem dX7_cancel_10 : decode cX7_cancel 10 = .ok (.ifCond .ne 14, 3) := by decide +kernel
theorem dX7_cancel_13 : decode cX7_cancel 13 = .ok (.aload_n 2, 1) := by decide +kernel
theorem dX7_cancel_14 : decode cX7_cancel 14 = .ok (.aload_n 0, 1) := by decide +kernel
theorem dX7_cancel_15 : decode cX7_cancel 15 = .ok (.getfield 45, 3) := by decide +kernel
theorem dX7_cancel_18 : decode cX7_cancel 18 = .ok (.invokevirtual 243, 3) := by decide +kernel
theorem dX7_cancel_21 : decode cX7_cancel 21 = .ok (.ifCond .eq 13, 3) := by decide +kernel
theorem dX7_cancel_24 : decode cX7_cancel 24 = .ok (.new 66, 3) := by decide +kernel
theorem dX7_cancel_27 : decode cX7_cancel 27 = .ok (.dup, 1) := by decide +kernel
theorem dX7_cancel_28 : decode cX7_cancel 28 = .ok (.ldc 246, 2) := by decide +kernel
theorem dX7_cancel_30 : decode cX7_cancel 30 = .ok (.invokespecial 70, 3) := by decide +kernel
theorem dX7_cancel_33 : decode cX7_cancel 33 = .ok (.athrow, 1) := by decide +kernel
theorem dX7_cancel_34 : decode cX7_cancel 34 = .ok (.aload_n 2, 1) := by decide +kernel
theorem dX7_cancel_35 : decode cX7_cancel 35 = .ok (.iconst 1, 1) := by decide +kernel
theorem dX7_cancel_36 : decode cX7_cancel 36 = .ok (.putfield 231, 3) := by decide +kernel
theorem dX7_cancel_39 : decode cX7_cancel 39 = .ok (.aload_n 2, 1) := by decide +kernel
theorem dX7_cancel_40 : decode cX7_cancel 40 = .ok (.getfield 236, 3) := by decide +kernel
theorem dX7_cancel_43 : decode cX7_cancel 43 = .ok (.ireturn, 1) := by decide +kernel
theorem dX7_state_0 : decode cX7_state 0 = .ok (.aload_n 0, 1) := by decide +kernel
theorem dX7_state_1 : decode cX7_state 1 = .ok (.iload_n 1, 1) := by decide +kernel
theorem dX7_state_2 : decode cX7_state 2 = .ok (.invokevirtual 225, 3) := by decide +kernel
theorem dX7_state_5 : decode cX7_state 5 = .ok (.getfield 231, 3) := by decide +kernel
theorem dX7_state_8 : decode cX7_state 8 = .ok (.ireturn, 1) := by decide +kernel
theorem dX7_cost_0 : decode cX7_cost 0 = .ok (.aload_n 0, 1) := by decide +kernel
theorem dX7_cost_1 : decode cX7_cost 1 = .ok (.iload_n 1, 1) := by decide +kernel
theorem dX7_cost_2 : decode cX7_cost 2 = .ok (.invokevirtual 225, 3) := by decide +kernel
theorem dX7_cost_5 : decode cX7_cost 5 = .ok (.getfield 236, 3) := by decide +kernel
theorem dX7_cost_8 : decode cX7_cost 8 = .ok (.ireturn, 1) := by decide +kernel
theorem dX7_bill_0 : decode cX7_bill 0 = .ok (.aload_n 0, 1) := by decide +kernel
theorem dX7_bill_1 : decode cX7_bill 1 = .ok (.iload_n 1, 1) := by decide +kernel
theorem dX7_bill_2 : decode cX7_bill 2 = .ok (.invokevirtual 108, 3) := by decide +kernel
theorem dX7_bill_5 : decode cX7_bill 5 = .ok (.getfield 248, 3) := by decide +kernel
theorem dX7_bill_8 : decode cX7_bill 8 = .ok (.aload_n 0, 1) := by decide +kernel
theorem dX7_bill_9 : decode cX7_bill 9 = .ok (.iload_n 1, 1) := by decide +kernel
theorem dX7_bill_10 : decode cX7_bill 10 = .ok (.invokevirtual 251, 3) := by decide +kernel
theorem dX7_bill_13 : decode cX7_bill 13 = .ok (.iadd, 1) := by decide +kernel
theorem dX7_bill_14 : decode cX7_bill 14 = .ok (.ireturn, 1) := by decide +kernel
theorem dX7_close_0 : decode cX7_close 0 = .ok (.aload_n 0, 1) := by decide +kernel
theorem dX7_close_1 : decode cX7_close 1 = .ok (.iload_n 1, 1) := by decide +kernel
theorem dX7_close_2 : decode cX7_close 2 = .ok (.invokevirtual 108, 3) := by decide +kernel
theorem dX7_close_5 : decode cX7_close 5 = .ok (.astore_n 2, 1) := by decide +kernel
theorem dX7_close_6 : decode cX7_close 6 = .ok (.aload_n 2, 1) := by decide +kernel
theorem dX7_close_7 : decode cX7_close 7 = .ok (.getfield 248, 3) := by decide +kernel
theorem dX7_close_10 : decode cX7_close 10 = .ok (.aload_n 0, 1) := by decide +kernel
theorem dX7_close_11 : decode cX7_close 11 = .ok (.iload_n 1, 1) := by decide +kernel
theorem dX7_close_12 : decode cX7_close 12 = .ok (.invokevirtual 251, 3) := by decide +kernel
theorem dX7_close_15 : decode cX7_close 15 = .ok (.iadd, 1) := by decide +kernel
theorem dX7_close_16 : decode cX7_close 16 = .ok (.istore_n 3, 1) := by decide +kernel
theorem dX7_close_17 : decode cX7_close 17 = .ok (.aload_n 0, 1) := by decide +kernel
theorem dX7_close_18 : decode cX7_close 18 = .ok (.iload_n 1, 1) := by decide +kernel
theorem dX7_close_19 : decode cX7_close 19 = .ok (.invokevirtual 254, 3) := by decide +kernel
theorem dX7_close_22 : decode cX7_close 22 = .ok (.aload_n 2, 1) := by decide +kernel
theorem dX7_close_23 : decode cX7_close 23 = .ok (.iconst 0, 1) := by decide +kernel
theorem dX7_close_24 : decode cX7_close 24 = .ok (.putfield 248, 3) := by decide +kernel
theorem dX7_close_27 : decode cX7_close 27 = .ok (.aload_n 2, 1) := by decide +kernel
theorem dX7_close_28 : decode cX7_close 28 = .ok (.dup, 1) := by decide +kernel
theorem dX7_close_29 : decode cX7_close 29 = .ok (.getfield 258, 3) := by decide +kernel
theorem dX7_close_32 : decode cX7_close 32 = .ok (.iload_n 3, 1) := by decide +kernel
theorem dX7_close_33 : decode cX7_close 33 = .ok (.iadd, 1) := by decide +kernel
theorem dX7_close_34 : decode cX7_close 34 = .ok (.putfield 258, 3) := by decide +kernel
theorem dX7_close_37 : decode cX7_close 37 = .ok (.iload_n 3, 1) := by decide +kernel
theorem dX7_close_38 : decode cX7_close 38 = .ok (.ireturn, 1) := by decide +kernel
theorem dX7_billed_0 : decode cX7_billed 0 = .ok (.aload_n 0, 1) := by decide +kernel
theorem dX7_billed_1 : decode cX7_billed 1 = .ok (.iload_n 1, 1) := by decide +kernel
theorem dX7_billed_2 : decode cX7_billed 2 = .ok (.invokevirtual 108, 3) := by decide +kernel
theorem dX7_billed_5 : decode cX7_billed 5 = .ok (.getfield 258, 3) := by decide +kernel
theorem dX7_billed_8 : decode cX7_billed 8 = .ok (.ireturn, 1) := by decide +kernel
theorem dX7_isWithin_0 : decode cX7_isWithin 0 = .ok (.iload_n 0, 1) := by decide +kernel
theorem dX7_isWithin_1 : decode cX7_isWithin 1 = .ok (.iload_n 1, 1) := by decide +kernel
theorem dX7_isWithin_2 : decode cX7_isWithin 2 = .ok (.if_icmp .lt 12, 3) := by decide +kernel
theorem dX7_isWithin_5 : decode cX7_isWithin 5 = .ok (.iload_n 0, 1) := by decide +kernel
theorem dX7_isWithin_6 : decode cX7_isWithin 6 = .ok (.iload_n 2, 1) := by decide +kernel
theorem dX7_isWithin_7 : decode cX7_isWithin 7 = .ok (.if_icmp .gt 7, 3) := by decide +kernel
theorem dX7_isWithin_10 : decode cX7_isWithin 10 = .ok (.iconst 1, 1) := by decide +kernel
theorem dX7_isWithin_11 : decode cX7_isWithin 11 = .ok (.goto 4, 3) := by decide +kernel
theorem dX7_isWithin_14 : decode cX7_isWithin 14 = .ok (.iconst 0, 1) := by decide +kernel
theorem dX7_isWithin_15 : decode cX7_isWithin 15 = .ok (.ireturn, 1) := by decide +kernel
theorem dX7_shipperAt_0 : decode cX7_shipperAt 0 = .ok (.iload_n 1, 1) := by decide +kernel
theorem dX7_shipperAt_1 : decode cX7_shipperAt 1 = .ok (.ifCond .lt 12, 3) := by decide +kernel
theorem dX7_shipperAt_4 : decode cX7_shipperAt 4 = .ok (.iload_n 1, 1) := by decide +kernel
theorem dX7_shipperAt_5 : decode cX7_shipperAt 5 = .ok (.aload_n 0, 1) := by decide +kernel
theorem dX7_shipperAt_6 : decode cX7_shipperAt 6 = .ok (.getfield 25, 3) := by decide +kernel
theorem dX7_shipperAt_9 : decode cX7_shipperAt 9 = .ok (.arraylength, 1) := by decide +kernel
theorem dX7_shipperAt_10 : decode cX7_shipperAt 10 = .ok (.if_icmp .lt 14, 3) := by decide +kernel
theorem dX7_shipperAt_13 : decode cX7_shipperAt 13 = .ok (.new 91, 3) := by decide +kernel
theorem dX7_shipperAt_16 : decode cX7_shipperAt 16 = .ok (.dup, 1) := by decide +kernel
theorem dX7_shipperAt_17 : decode cX7_shipperAt 17 = .ok (.ldc_w 261, 3) := by decide +kernel
theorem dX7_shipperAt_20 : decode cX7_shipperAt 20 = .ok (.invokespecial 95, 3) := by decide +kernel
theorem dX7_shipperAt_23 : decode cX7_shipperAt 23 = .ok (.athrow, 1) := by decide +kernel
theorem dX7_shipperAt_24 : decode cX7_shipperAt 24 = .ok (.aload_n 0, 1) := by decide +kernel
theorem dX7_shipperAt_25 : decode cX7_shipperAt 25 = .ok (.getfield 25, 3) := by decide +kernel
theorem dX7_shipperAt_28 : decode cX7_shipperAt 28 = .ok (.iload_n 1, 1) := by decide +kernel
theorem dX7_shipperAt_29 : decode cX7_shipperAt 29 = .ok (.aaload, 1) := by decide +kernel
theorem dX7_shipperAt_30 : decode cX7_shipperAt 30 = .ok (.areturn, 1) := by decide +kernel
theorem dX7_carrierAt_0 : decode cX7_carrierAt 0 = .ok (.iload_n 1, 1) := by decide +kernel
theorem dX7_carrierAt_1 : decode cX7_carrierAt 1 = .ok (.ifCond .lt 12, 3) := by decide +kernel
theorem dX7_carrierAt_4 : decode cX7_carrierAt 4 = .ok (.iload_n 1, 1) := by decide +kernel
theorem dX7_carrierAt_5 : decode cX7_carrierAt 5 = .ok (.aload_n 0, 1) := by decide +kernel
theorem dX7_carrierAt_6 : decode cX7_carrierAt 6 = .ok (.getfield 31, 3) := by decide +kernel
theorem dX7_carrierAt_9 : decode cX7_carrierAt 9 = .ok (.arraylength, 1) := by decide +kernel
theorem dX7_carrierAt_10 : decode cX7_carrierAt 10 = .ok (.if_icmp .lt 14, 3) := by decide +kernel
theorem dX7_carrierAt_13 : decode cX7_carrierAt 13 = .ok (.new 91, 3) := by decide +kernel
theorem dX7_carrierAt_16 : decode cX7_carrierAt 16 = .ok (.dup, 1) := by decide +kernel
theorem dX7_carrierAt_17 : decode cX7_carrierAt 17 = .ok (.ldc_w 263, 3) := by decide +kernel
theorem dX7_carrierAt_20 : decode cX7_carrierAt 20 = .ok (.invokespecial 95, 3) := by decide +kernel
theorem dX7_carrierAt_23 : decode cX7_carrierAt 23 = .ok (.athrow, 1) := by decide +kernel
theorem dX7_carrierAt_24 : decode cX7_carrierAt 24 = .ok (.aload_n 0, 1) := by decide +kernel
theorem dX7_carrierAt_25 : decode cX7_carrierAt 25 = .ok (.getfield 31, 3) := by decide +kernel
theorem dX7_carrierAt_28 : decode cX7_carrierAt 28 = .ok (.iload_n 1, 1) := by decide +kernel
theorem dX7_carrierAt_29 : decode cX7_carrierAt 29 = .ok (.aaload, 1) := by decide +kernel
theorem dX7_carrierAt_30 : decode cX7_carrierAt 30 = .ok (.areturn, 1) := by decide +kernel
theorem dX7_quoteAt_0 : decode cX7_quoteAt 0 = .ok (.iload_n 1, 1) := by decide +kernel
theorem dX7_quoteAt_1 : decode cX7_quoteAt 1 = .ok (.ifCond .lt 16, 3) := by decide +kernel
theorem dX7_quoteAt_4 : decode cX7_quoteAt 4 = .ok (.iload_n 1, 1) := by decide +kernel
theorem dX7_quoteAt_5 : decode cX7_quoteAt 5 = .ok (.aload_n 0, 1) := by decide +kernel
theorem dX7_quoteAt_6 : decode cX7_quoteAt 6 = .ok (.getfield 38, 3) := by decide +kernel
theorem dX7_quoteAt_9 : decode cX7_quoteAt 9 = .ok (.invokeinterface 149 1, 5) := by decide +kernel
theorem dX7_quoteAt_14 : decode cX7_quoteAt 14 = .ok (.if_icmp .lt 14, 3) := by decide +kernel
theorem dX7_quoteAt_17 : decode cX7_quoteAt 17 = .ok (.new 91, 3) := by decide +kernel
theorem dX7_quoteAt_20 : decode cX7_quoteAt 20 = .ok (.dup, 1) := by decide +kernel
theorem dX7_quoteAt_21 : decode cX7_quoteAt 21 = .ok (.ldc_w 265, 3) := by decide +kernel
theorem dX7_quoteAt_24 : decode cX7_quoteAt 24 = .ok (.invokespecial 95, 3) := by decide +kernel
theorem dX7_quoteAt_27 : decode cX7_quoteAt 27 = .ok (.athrow, 1) := by decide +kernel
theorem dX7_quoteAt_28 : decode cX7_quoteAt 28 = .ok (.aload_n 0, 1) := by decide +kernel
theorem dX7_quoteAt_29 : decode cX7_quoteAt 29 = .ok (.getfield 38, 3) := by decide +kernel
theorem dX7_quoteAt_32 : decode cX7_quoteAt 32 = .ok (.iload_n 1, 1) := by decide +kernel
theorem dX7_quoteAt_33 : decode cX7_quoteAt 33 = .ok (.invokeinterface 267 2, 5) := by decide +kernel
theorem dX7_quoteAt_38 : decode cX7_quoteAt 38 = .ok (.checkcast 173, 3) := by decide +kernel
theorem dX7_quoteAt_41 : decode cX7_quoteAt 41 = .ok (.areturn, 1) := by decide +kernel
theorem dX7_parcelAt_0 : decode cX7_parcelAt 0 = .ok (.iload_n 1, 1) := by decide +kernel
theorem dX7_parcelAt_1 : decode cX7_parcelAt 1 = .ok (.ifCond .lt 16, 3) := by decide +kernel
theorem dX7_parcelAt_4 : decode cX7_parcelAt 4 = .ok (.iload_n 1, 1) := by decide +kernel
theorem dX7_parcelAt_5 : decode cX7_parcelAt 5 = .ok (.aload_n 0, 1) := by decide +kernel
theorem dX7_parcelAt_6 : decode cX7_parcelAt 6 = .ok (.getfield 42, 3) := by decide +kernel
theorem dX7_parcelAt_9 : decode cX7_parcelAt 9 = .ok (.invokeinterface 149 1, 5) := by decide +kernel
theorem dX7_parcelAt_14 : decode cX7_parcelAt 14 = .ok (.if_icmp .lt 14, 3) := by decide +kernel
theorem dX7_parcelAt_17 : decode cX7_parcelAt 17 = .ok (.new 91, 3) := by decide +kernel
theorem dX7_parcelAt_20 : decode cX7_parcelAt 20 = .ok (.dup, 1) := by decide +kernel
theorem dX7_parcelAt_21 : decode cX7_parcelAt 21 = .ok (.ldc_w 271, 3) := by decide +kernel
theorem dX7_parcelAt_24 : decode cX7_parcelAt 24 = .ok (.invokespecial 95, 3) := by decide +kernel
theorem dX7_parcelAt_27 : decode cX7_parcelAt 27 = .ok (.athrow, 1) := by decide +kernel
theorem dX7_parcelAt_28 : decode cX7_parcelAt 28 = .ok (.aload_n 0, 1) := by decide +kernel
theorem dX7_parcelAt_29 : decode cX7_parcelAt 29 = .ok (.getfield 42, 3) := by decide +kernel
theorem dX7_parcelAt_32 : decode cX7_parcelAt 32 = .ok (.iload_n 1, 1) := by decide +kernel
theorem dX7_parcelAt_33 : decode cX7_parcelAt 33 = .ok (.invokeinterface 267 2, 5) := by decide +kernel
theorem dX7_parcelAt_38 : decode cX7_parcelAt 38 = .ok (.checkcast 217, 3) := by decide +kernel
theorem dX7_parcelAt_41 : decode cX7_parcelAt 41 = .ok (.areturn, 1) := by decide +kernel
theorem dX7_answerTo_0 : decode cX7_answerTo 0 = .ok (.aload_n 1, 1) := by decide +kernel
theorem dX7_answerTo_1 : decode cX7_answerTo 1 = .ok (.aload_n 0, 1) := by decide +kernel
theorem dX7_answerTo_2 : decode cX7_answerTo 2 = .ok (.getfield 45, 3) := by decide +kernel
theorem dX7_answerTo_5 : decode cX7_answerTo 5 = .ok (.invokevirtual 191, 3) := by decide +kernel
theorem dX7_answerTo_8 : decode cX7_answerTo 8 = .ok (.ifCond .ne 6, 3) := by decide +kernel
theorem dX7_answerTo_11 : decode cX7_answerTo 11 = .ok (.bipush (-2), 2) := by decide +kernel
theorem dX7_answerTo_13 : decode cX7_answerTo 13 = .ok (.ireturn, 1) := by decide +kernel
theorem dX7_answerTo_14 : decode cX7_answerTo 14 = .ok (.aload_n 1, 1) := by decide +kernel
theorem dX7_answerTo_15 : decode cX7_answerTo 15 = .ok (.aload_n 0, 1) := by decide +kernel
theorem dX7_answerTo_16 : decode cX7_answerTo 16 = .ok (.getfield 45, 3) := by decide +kernel
theorem dX7_answerTo_19 : decode cX7_answerTo 19 = .ok (.invokevirtual 273, 3) := by decide +kernel
theorem dX7_answerTo_22 : decode cX7_answerTo 22 = .ok (.aload_n 0, 1) := by decide +kernel
theorem dX7_answerTo_23 : decode cX7_answerTo 23 = .ok (.invokevirtual 276, 3) := by decide +kernel
theorem dX7_answerTo_26 : decode cX7_answerTo 26 = .ok (.astore_n 3, 1) := by decide +kernel
theorem dX7_answerTo_27 : decode cX7_answerTo 27 = .ok (.aload_n 3, 1) := by decide +kernel
theorem dX7_answerTo_28 : decode cX7_answerTo 28 = .ok (.ifnull 26, 3) := by decide +kernel
theorem dX7_answerTo_31 : decode cX7_answerTo 31 = .ok (.aload_n 1, 1) := by decide +kernel
theorem dX7_answerTo_32 : decode cX7_answerTo 32 = .ok (.dup, 1) := by decide +kernel
theorem dX7_answerTo_33 : decode cX7_answerTo 33 = .ok (.getfield 248, 3) := by decide +kernel
theorem dX7_answerTo_36 : decode cX7_answerTo 36 = .ok (.iconst 1, 1) := by decide +kernel
theorem dX7_answerTo_37 : decode cX7_answerTo 37 = .ok (.iadd, 1) := by decide +kernel
theorem dX7_answerTo_38 : decode cX7_answerTo 38 = .ok (.putfield 248, 3) := by decide +kernel
theorem dX7_answerTo_41 : decode cX7_answerTo 41 = .ok (.aload_n 0, 1) := by decide +kernel
theorem dX7_answerTo_42 : decode cX7_answerTo 42 = .ok (.aload_n 3, 1) := by decide +kernel
theorem dX7_answerTo_43 : decode cX7_answerTo 43 = .ok (.getfield 172, 3) := by decide +kernel
theorem dX7_answerTo_46 : decode cX7_answerTo 46 = .ok (.aload_n 3, 1) := by decide +kernel
theorem dX7_answerTo_47 : decode cX7_answerTo 47 = .ok (.getfield 182, 3) := by decide +kernel
theorem dX7_answerTo_50 : decode cX7_answerTo 50 = .ok (.invokevirtual 280, 3) := by decide +kernel
theorem dX7_answerTo_53 : decode cX7_answerTo 53 = .ok (.ireturn, 1) := by decide +kernel
theorem dX7_answerTo_54 : decode cX7_answerTo 54 = .ok (.aload_n 2, 1) := by decide +kernel
theorem dX7_answerTo_55 : decode cX7_answerTo 55 = .ok (.aload_n 0, 1) := by decide +kernel
theorem dX7_answerTo_56 : decode cX7_answerTo 56 = .ok (.getfield 45, 3) := by decide +kernel
theorem dX7_answerTo_59 : decode cX7_answerTo 59 = .ok (.invokevirtual 197, 3) := by decide +kernel
theorem dX7_answerTo_62 : decode cX7_answerTo 62 = .ok (.iconst 1, 1) := by decide +kernel
theorem dX7_answerTo_63 : decode cX7_answerTo 63 = .ok (.if_icmp .ne 16, 3) := by decide +kernel
theorem dX7_answerTo_66 : decode cX7_answerTo 66 = .ok (.aload_n 1, 1) := by decide +kernel
theorem dX7_answerTo_67 : decode cX7_answerTo 67 = .ok (.dup, 1) := by decide +kernel
theorem dX7_answerTo_68 : decode cX7_answerTo 68 = .ok (.getfield 248, 3) := by decide +kernel
theorem dX7_answerTo_71 : decode cX7_answerTo 71 = .ok (.iconst 1, 1) := by decide +kernel
theorem dX7_answerTo_72 : decode cX7_answerTo 72 = .ok (.iadd, 1) := by decide +kernel
theorem dX7_answerTo_73 : decode cX7_answerTo 73 = .ok (.putfield 248, 3) := by decide +kernel
theorem dX7_answerTo_76 : decode cX7_answerTo 76 = .ok (.bipush (-3), 2) := by decide +kernel
theorem dX7_answerTo_78 : decode cX7_answerTo 78 = .ok (.ireturn, 1) := by decide +kernel
theorem dX7_answerTo_79 : decode cX7_answerTo 79 = .ok (.aload_n 2, 1) := by decide +kernel
theorem dX7_answerTo_80 : decode cX7_answerTo 80 = .ok (.aload_n 0, 1) := by decide +kernel
theorem dX7_answerTo_81 : decode cX7_answerTo 81 = .ok (.getfield 45, 3) := by decide +kernel
theorem dX7_answerTo_84 : decode cX7_answerTo 84 = .ok (.invokevirtual 283, 3) := by decide +kernel
theorem dX7_answerTo_87 : decode cX7_answerTo 87 = .ok (.ifCond .ne 16, 3) := by decide +kernel
theorem dX7_answerTo_90 : decode cX7_answerTo 90 = .ok (.aload_n 1, 1) := by decide +kernel
theorem dX7_answerTo_91 : decode cX7_answerTo 91 = .ok (.dup, 1) := by decide +kernel
theorem dX7_answerTo_92 : decode cX7_answerTo 92 = .ok (.getfield 248, 3) := by decide +kernel
theorem dX7_answerTo_95 : decode cX7_answerTo 95 = .ok (.iconst 1, 1) := by decide +kernel
theorem dX7_answerTo_96 : decode cX7_answerTo 96 = .ok (.iadd, 1) := by decide +kernel
theorem dX7_answerTo_97 : decode cX7_answerTo 97 = .ok (.putfield 248, 3) := by decide +kernel
theorem dX7_answerTo_100 : decode cX7_answerTo 100 = .ok (.bipush (-4), 2) := by decide +kernel
theorem dX7_answerTo_102 : decode cX7_answerTo 102 = .ok (.ireturn, 1) := by decide +kernel
theorem dX7_answerTo_103 : decode cX7_answerTo 103 = .ok (.aload_n 1, 1) := by decide +kernel
theorem dX7_answerTo_104 : decode cX7_answerTo 104 = .ok (.dup, 1) := by decide +kernel
theorem dX7_answerTo_105 : decode cX7_answerTo 105 = .ok (.getfield 248, 3) := by decide +kernel
theorem dX7_answerTo_108 : decode cX7_answerTo 108 = .ok (.iconst 3, 1) := by decide +kernel
theorem dX7_answerTo_109 : decode cX7_answerTo 109 = .ok (.iadd, 1) := by decide +kernel
theorem dX7_answerTo_110 : decode cX7_answerTo 110 = .ok (.putfield 248, 3) := by decide +kernel
theorem dX7_answerTo_113 : decode cX7_answerTo 113 = .ok (.aload_n 0, 1) := by decide +kernel
theorem dX7_answerTo_114 : decode cX7_answerTo 114 = .ok (.aload_n 2, 1) := by decide +kernel
theorem dX7_answerTo_115 : decode cX7_answerTo 115 = .ok (.getfield 135, 3) := by decide +kernel
theorem dX7_answerTo_118 : decode cX7_answerTo 118 = .ok (.aload_n 0, 1) := by decide +kernel
theorem dX7_answerTo_119 : decode cX7_answerTo 119 = .ok (.getfield 45, 3) := by decide +kernel
theorem dX7_answerTo_122 : decode cX7_answerTo 122 = .ok (.bipush 60, 2) := by decide +kernel
theorem dX7_answerTo_124 : decode cX7_answerTo 124 = .ok (.iadd, 1) := by decide +kernel
theorem dX7_answerTo_125 : decode cX7_answerTo 125 = .ok (.invokevirtual 280, 3) := by decide +kernel
theorem dX7_answerTo_128 : decode cX7_answerTo 128 = .ok (.ireturn, 1) := by decide +kernel
theorem dX7_quoteFixingRequest_0 : decode cX7_quoteFixingRequest 0 = .ok (.iconst 0, 1) := by decide +kernel
theorem dX7_quoteFixingRequest_1 : decode cX7_quoteFixingRequest 1 = .ok (.istore_n 1, 1) := by decide +kernel
theorem dX7_quoteFixingRequest_2 : decode cX7_quoteFixingRequest 2 = .ok (.iload_n 1, 1) := by decide +kernel
theorem dX7_quoteFixingRequest_3 : decode cX7_quoteFixingRequest 3 = .ok (.aload_n 0, 1) := by decide +kernel
theorem dX7_quoteFixingRequest_4 : decode cX7_quoteFixingRequest 4 = .ok (.getfield 38, 3) := by decide +kernel
theorem dX7_quoteFixingRequest_7 : decode cX7_quoteFixingRequest 7 = .ok (.invokeinterface 149 1, 5) := by decide +kernel
theorem dX7_quoteFixingRequest_12 : decode cX7_quoteFixingRequest 12 = .ok (.if_icmp .ge 47, 3) := by decide +kernel
theorem dX7_quoteFixingRequest_15 : decode cX7_quoteFixingRequest 15 = .ok (.aload_n 0, 1) := by decide +kernel
theorem dX7_quoteFixingRequest_16 : decode cX7_quoteFixingRequest 16 = .ok (.getfield 38, 3) := by decide +kernel
theorem dX7_quoteFixingRequest_19 : decode cX7_quoteFixingRequest 19 = .ok (.iload_n 1, 1) := by decide +kernel
theorem dX7_quoteFixingRequest_20 : decode cX7_quoteFixingRequest 20 = .ok (.invokeinterface 267 2, 5) := by decide +kernel
theorem dX7_quoteFixingRequest_25 : decode cX7_quoteFixingRequest 25 = .ok (.checkcast 173, 3) := by decide +kernel
theorem dX7_quoteFixingRequest_28 : decode cX7_quoteFixingRequest 28 = .ok (.astore_n 2, 1) := by decide +kernel
theorem dX7_quoteFixingRequest_29 : decode cX7_quoteFixingRequest 29 = .ok (.aload_n 2, 1) := by decide +kernel
theorem dX7_quoteFixingRequest_30 : decode cX7_quoteFixingRequest 30 = .ok (.aload_n 0, 1) := by decide +kernel
theorem dX7_quoteFixingRequest_31 : decode cX7_quoteFixingRequest 31 = .ok (.getfield 45, 3) := by decide +kernel
theorem dX7_quoteFixingRequest_34 : decode cX7_quoteFixingRequest 34 = .ok (.invokevirtual 209, 3) := by decide +kernel
theorem dX7_quoteFixingRequest_37 : decode cX7_quoteFixingRequest 37 = .ok (.ifCond .eq 16, 3) := by decide +kernel
theorem dX7_quoteFixingRequest_40 : decode cX7_quoteFixingRequest 40 = .ok (.aload_n 2, 1) := by decide +kernel
theorem dX7_quoteFixingRequest_41 : decode cX7_quoteFixingRequest 41 = .ok (.aload_n 0, 1) := by decide +kernel
theorem dX7_quoteFixingRequest_42 : decode cX7_quoteFixingRequest 42 = .ok (.getfield 10, 3) := by decide +kernel
theorem dX7_quoteFixingRequest_45 : decode cX7_quoteFixingRequest 45 = .ok (.invokevirtual 286, 3) := by decide +kernel
theorem dX7_quoteFixingRequest_48 : decode cX7_quoteFixingRequest 48 = .ok (.ifCond .eq 5, 3) := by decide +kernel
theorem dX7_quoteFixingRequest_51 : decode cX7_quoteFixingRequest 51 = .ok (.aload_n 2, 1) := by decide +kernel
theorem dX7_quoteFixingRequest_52 : decode cX7_quoteFixingRequest 52 = .ok (.areturn, 1) := by decide +kernel
theorem dX7_quoteFixingRequest_53 : decode cX7_quoteFixingRequest 53 = .ok (.iinc 1 1, 3) := by decide +kernel
theorem dX7_quoteFixingRequest_56 : decode cX7_quoteFixingRequest 56 = .ok (.goto (-54), 3) := by decide +kernel
theorem dX7_quoteFixingRequest_59 : decode cX7_quoteFixingRequest 59 = .ok (.aconst_null, 1) := by decide +kernel
theorem dX7_quoteFixingRequest_60 : decode cX7_quoteFixingRequest 60 = .ok (.areturn, 1) := by decide +kernel
theorem dX7_addQuote_0 : decode cX7_addQuote 0 = .ok (.aload_n 0, 1) := by decide +kernel
theorem dX7_addQuote_1 : decode cX7_addQuote 1 = .ok (.getfield 38, 3) := by decide +kernel
theorem dX7_addQuote_4 : decode cX7_addQuote 4 = .ok (.new 173, 3) := by decide +kernel
theorem dX7_addQuote_7 : decode cX7_addQuote 7 = .ok (.dup, 1) := by decide +kernel
theorem dX7_addQuote_8 : decode cX7_addQuote 8 = .ok (.aload_n 0, 1) := by decide +kernel
theorem dX7_addQuote_9 : decode cX7_addQuote 9 = .ok (.getfield 10, 3) := by decide +kernel
theorem dX7_addQuote_12 : decode cX7_addQuote 12 = .ok (.aload_n 1, 1) := by decide +kernel
theorem dX7_addQuote_13 : decode cX7_addQuote 13 = .ok (.iload_n 2, 1) := by decide +kernel
theorem dX7_addQuote_14 : decode cX7_addQuote 14 = .ok (.invokespecial 290, 3) := by decide +kernel
theorem dX7_addQuote_17 : decode cX7_addQuote 17 = .ok (.invokeinterface 222 2, 5) := by decide +kernel
theorem dX7_addQuote_22 : decode cX7_addQuote 22 = .ok (.pop, 1) := by decide +kernel
theorem dX7_addQuote_23 : decode cX7_addQuote 23 = .ok (.aload_n 0, 1) := by decide +kernel
theorem dX7_addQuote_24 : decode cX7_addQuote 24 = .ok (.getfield 38, 3) := by decide +kernel
theorem dX7_addQuote_27 : decode cX7_addQuote 27 = .ok (.invokeinterface 149 1, 5) := by decide +kernel
theorem dX7_addQuote_32 : decode cX7_addQuote 32 = .ok (.iconst 1, 1) := by decide +kernel
theorem dX7_addQuote_33 : decode cX7_addQuote 33 = .ok (.isub, 1) := by decide +kernel
theorem dX7_addQuote_34 : decode cX7_addQuote 34 = .ok (.ireturn, 1) := by decide +kernel
theorem dX7_dueParcelCosts_0 : decode cX7_dueParcelCosts 0 = .ok (.iconst 0, 1) := by decide +kernel
theorem dX7_dueParcelCosts_1 : decode cX7_dueParcelCosts 1 = .ok (.istore_n 2, 1) := by decide +kernel
theorem dX7_dueParcelCosts_2 : decode cX7_dueParcelCosts 2 = .ok (.iconst 0, 1) := by decide +kernel
theorem dX7_dueParcelCosts_3 : decode cX7_dueParcelCosts 3 = .ok (.istore_n 3, 1) := by decide +kernel
theorem dX7_dueParcelCosts_4 : decode cX7_dueParcelCosts 4 = .ok (.iload_n 3, 1) := by decide +kernel
theorem dX7_dueParcelCosts_5 : decode cX7_dueParcelCosts 5 = .ok (.aload_n 0, 1) := by decide +kernel
theorem dX7_dueParcelCosts_6 : decode cX7_dueParcelCosts 6 = .ok (.getfield 42, 3) := by decide +kernel
theorem dX7_dueParcelCosts_9 : decode cX7_dueParcelCosts 9 = .ok (.invokeinterface 149 1, 5) := by decide +kernel
theorem dX7_dueParcelCosts_14 : decode cX7_dueParcelCosts 14 = .ok (.if_icmp .ge 45, 3) := by decide +kernel
theorem dX7_dueParcelCosts_17 : decode cX7_dueParcelCosts 17 = .ok (.aload_n 0, 1) := by decide +kernel
theorem dX7_dueParcelCosts_18 : decode cX7_dueParcelCosts 18 = .ok (.getfield 42, 3) := by decide +kernel
theorem dX7_dueParcelCosts_21 : decode cX7_dueParcelCosts 21 = .ok (.iload_n 3, 1) := by decide +kernel
theorem dX7_dueParcelCosts_22 : decode cX7_dueParcelCosts 22 = .ok (.invokeinterface 267 2, 5) := by decide +kernel
theorem dX7_dueParcelCosts_27 : decode cX7_dueParcelCosts 27 = .ok (.checkcast 217, 3) := by decide +kernel
theorem dX7_dueParcelCosts_30 : decode cX7_dueParcelCosts 30 = .ok (.astore 4, 2) := by decide +kernel
theorem dX7_dueParcelCosts_32 : decode cX7_dueParcelCosts 32 = .ok (.aload 4, 2) := by decide +kernel
theorem dX7_dueParcelCosts_34 : decode cX7_dueParcelCosts 34 = .ok (.iload_n 1, 1) := by decide +kernel
theorem dX7_dueParcelCosts_35 : decode cX7_dueParcelCosts 35 = .ok (.aload_n 0, 1) := by decide +kernel
theorem dX7_dueParcelCosts_36 : decode cX7_dueParcelCosts 36 = .ok (.getfield 45, 3) := by decide +kernel
theorem dX7_dueParcelCosts_39 : decode cX7_dueParcelCosts 39 = .ok (.invokevirtual 293, 3) := by decide +kernel
theorem dX7_dueParcelCosts_42 : decode cX7_dueParcelCosts 42 = .ok (.ifCond .eq 11, 3) := by decide +kernel
theorem dX7_dueParcelCosts_45 : decode cX7_dueParcelCosts 45 = .ok (.iload_n 2, 1) := by decide +kernel
theorem dX7_dueParcelCosts_46 : decode cX7_dueParcelCosts 46 = .ok (.aload 4, 2) := by decide +kernel
theorem dX7_dueParcelCosts_48 : decode cX7_dueParcelCosts 48 = .ok (.getfield 236, 3) := by decide +kernel
theorem dX7_dueParcelCosts_51 : decode cX7_dueParcelCosts 51 = .ok (.iadd, 1) := by decide +kernel
theorem dX7_dueParcelCosts_52 : decode cX7_dueParcelCosts 52 = .ok (.istore_n 2, 1) := by decide +kernel
theorem dX7_dueParcelCosts_53 : decode cX7_dueParcelCosts 53 = .ok (.iinc 3 1, 3) := by decide +kernel
theorem dX7_dueParcelCosts_56 : decode cX7_dueParcelCosts 56 = .ok (.goto (-52), 3) := by decide +kernel
theorem dX7_dueParcelCosts_59 : decode cX7_dueParcelCosts 59 = .ok (.iload_n 2, 1) := by decide +kernel
theorem dX7_dueParcelCosts_60 : decode cX7_dueParcelCosts 60 = .ok (.ireturn, 1) := by decide +kernel
theorem dX7_markDueParcels_0 : decode cX7_markDueParcels 0 = .ok (.iconst 0, 1) := by decide +kernel
theorem dX7_markDueParcels_1 : decode cX7_markDueParcels 1 = .ok (.istore_n 2, 1) := by decide +kernel
theorem dX7_markDueParcels_2 : decode cX7_markDueParcels 2 = .ok (.iload_n 2, 1) := by decide +kernel
theorem dX7_markDueParcels_3 : decode cX7_markDueParcels 3 = .ok (.aload_n 0, 1) := by decide +kernel
theorem dX7_markDueParcels_4 : decode cX7_markDueParcels 4 = .ok (.getfield 42, 3) := by decide +kernel
theorem dX7_markDueParcels_7 : decode cX7_markDueParcels 7 = .ok (.invokeinterface 149 1, 5) := by decide +kernel
theorem dX7_markDueParcels_12 : decode cX7_markDueParcels 12 = .ok (.if_icmp .ge 40, 3) := by decide +kernel
theorem dX7_markDueParcels_15 : decode cX7_markDueParcels 15 = .ok (.aload_n 0, 1) := by decide +kernel
theorem dX7_markDueParcels_16 : decode cX7_markDueParcels 16 = .ok (.getfield 42, 3) := by decide +kernel
theorem dX7_markDueParcels_19 : decode cX7_markDueParcels 19 = .ok (.iload_n 2, 1) := by decide +kernel
theorem dX7_markDueParcels_20 : decode cX7_markDueParcels 20 = .ok (.invokeinterface 267 2, 5) := by decide +kernel
theorem dX7_markDueParcels_25 : decode cX7_markDueParcels 25 = .ok (.checkcast 217, 3) := by decide +kernel
theorem dX7_markDueParcels_28 : decode cX7_markDueParcels 28 = .ok (.astore_n 3, 1) := by decide +kernel
theorem dX7_markDueParcels_29 : decode cX7_markDueParcels 29 = .ok (.aload_n 3, 1) := by decide +kernel
theorem dX7_markDueParcels_30 : decode cX7_markDueParcels 30 = .ok (.iload_n 1, 1) := by decide +kernel
theorem dX7_markDueParcels_31 : decode cX7_markDueParcels 31 = .ok (.aload_n 0, 1) := by decide +kernel
theorem dX7_markDueParcels_32 : decode cX7_markDueParcels 32 = .ok (.getfield 45, 3) := by decide +kernel
theorem dX7_markDueParcels_35 : decode cX7_markDueParcels 35 = .ok (.invokevirtual 293, 3) := by decide +kernel
theorem dX7_markDueParcels_38 : decode cX7_markDueParcels 38 = .ok (.ifCond .eq 8, 3) := by decide +kernel
theorem dX7_markDueParcels_41 : decode cX7_markDueParcels 41 = .ok (.aload_n 3, 1) := by decide +kernel
theorem dX7_markDueParcels_42 : decode cX7_markDueParcels 42 = .ok (.iconst 2, 1) := by decide +kernel
theorem dX7_markDueParcels_43 : decode cX7_markDueParcels 43 = .ok (.putfield 231, 3) := by decide +kernel
theorem dX7_markDueParcels_46 : decode cX7_markDueParcels 46 = .ok (.iinc 2 1, 3) := by decide +kernel
theorem dX7_markDueParcels_49 : decode cX7_markDueParcels 49 = .ok (.goto (-47), 3) := by decide +kernel
theorem dX7_markDueParcels_52 : decode cX7_markDueParcels 52 = .ok (.return_, 1) := by decide +kernel
end
section
theorem dX8_init_0 : decode cX8_init 0 = .ok (.aload_n 0, 1) := by decide +kernel
theorem dX8_init_1 : decode cX8_init 1 = .ok (.invokespecial 1, 3) := by decide +kernel
theorem dX8_init_4 : decode cX8_init 4 = .ok (.aload_n 0, 1) := by decide +kernel
theorem dX8_init_5 : decode cX8_init 5 = .ok (.bipush 60, 2) := by decide +kernel
theorem dX8_init_7 : decode cX8_init 7 = .ok (.newarray .char, 2) := by decide +kernel
theorem dX8_init_9 : decode cX8_init 9 = .ok (.putfield 7, 3) := by decide +kernel
theorem dX8_init_12 : decode cX8_init 12 = .ok (.aload_n 0, 1) := by decide +kernel
theorem dX8_init_13 : decode cX8_init 13 = .ok (.bipush 6, 2) := by decide +kernel
theorem dX8_init_15 : decode cX8_init 15 = .ok (.newarray .char, 2) := by decide +kernel
theorem dX8_init_17 : decode cX8_init 17 = .ok (.dup, 1) := by decide +kernel
theorem dX8_init_18 : decode cX8_init 18 = .ok (.iconst 0, 1) := by decide +kernel
theorem dX8_init_19 : decode cX8_init 19 = .ok (.bipush 83, 2) := by decide +kernel
theorem dX8_init_21 : decode cX8_init 21 = .ok (.castore, 1) := by decide +kernel
theorem dX8_init_22 : decode cX8_init 22 = .ok (.dup, 1) := by decide +kernel
theorem dX8_init_23 : decode cX8_init 23 = .ok (.iconst 1, 1) := by decide +kernel
theorem dX8_init_24 : decode cX8_init 24 = .ok (.bipush 67, 2) := by decide +kernel
theorem dX8_init_26 : decode cX8_init 26 = .ok (.castore, 1) := by decide +kernel
theorem dX8_init_27 : decode cX8_init 27 = .ok (.dup, 1) := by decide +kernel
theorem dX8_init_28 : decode cX8_init 28 = .ok (.iconst 2, 1) := by decide +kernel
theorem dX8_init_29 : decode cX8_init 29 = .ok (.bipush 70, 2) := by decide +kernel
theorem dX8_init_31 : decode cX8_init 31 = .ok (.castore, 1) := by decide +kernel
theorem dX8_init_32 : decode cX8_init 32 = .ok (.dup, 1) := by decide +kernel
theorem dX8_init_33 : decode cX8_init 33 = .ok (.iconst 3, 1) := by decide +kernel
theorem dX8_init_34 : decode cX8_init 34 = .ok (.bipush 84, 2) := by decide +kernel
theorem dX8_init_36 : decode cX8_init 36 = .ok (.castore, 1) := by decide +kernel
theorem dX8_init_37 : decode cX8_init 37 = .ok (.dup, 1) := by decide +kernel
theorem dX8_init_38 : decode cX8_init 38 = .ok (.iconst 4, 1) := by decide +kernel
theorem dX8_init_39 : decode cX8_init 39 = .ok (.bipush 87, 2) := by decide +kernel
theorem dX8_init_41 : decode cX8_init 41 = .ok (.castore, 1) := by decide +kernel
theorem dX8_init_42 : decode cX8_init 42 = .ok (.dup, 1) := by decide +kernel
theorem dX8_init_43 : decode cX8_init 43 = .ok (.iconst 5, 1) := by decide +kernel
theorem dX8_init_44 : decode cX8_init 44 = .ok (.bipush 88, 2) := by decide +kernel
theorem dX8_init_46 : decode cX8_init 46 = .ok (.castore, 1) := by decide +kernel
theorem dX8_init_47 : decode cX8_init 47 = .ok (.putfield 13, 3) := by decide +kernel
theorem dX8_init_50 : decode cX8_init 50 = .ok (.aload_n 0, 1) := by decide +kernel
theorem dX8_init_51 : decode cX8_init 51 = .ok (.bipush 24, 2) := by decide +kernel
theorem dX8_init_53 : decode cX8_init 53 = .ok (.newarray .char, 2) := by decide +kernel
theorem dX8_init_55 : decode cX8_init 55 = .ok (.dup, 1) := by decide +kernel
theorem dX8_init_56 : decode cX8_init 56 = .ok (.iconst 0, 1) := by decide +kernel
theorem dX8_init_57 : decode cX8_init 57 = .ok (.bipush 85, 2) := by decide +kernel
theorem dX8_init_59 : decode cX8_init 59 = .ok (.castore, 1) := by decide +kernel
theorem dX8_init_60 : decode cX8_init 60 = .ok (.dup, 1) := by decide +kernel
theorem dX8_init_61 : decode cX8_init 61 = .ok (.iconst 1, 1) := by decide +kernel
theorem dX8_init_62 : decode cX8_init 62 = .ok (.bipush 78, 2) := by decide +kernel
theorem dX8_init_64 : decode cX8_init 64 = .ok (.castore, 1) := by decide +kernel
theorem dX8_init_65 : decode cX8_init 65 = .ok (.dup, 1) := by decide +kernel
theorem dX8_init_66 : decode cX8_init 66 = .ok (.iconst 2, 1) := by decide +kernel
theorem dX8_init_67 : decode cX8_init 67 = .ok (.bipush 75, 2) := by decide +kernel
theorem dX8_init_69 : decode cX8_init 69 = .ok (.castore, 1) := by decide +kernel
theorem dX8_init_70 : decode cX8_init 70 = .ok (.dup, 1) := by decide +kernel
theorem dX8_init_71 : decode cX8_init 71 = .ok (.iconst 3, 1) := by decide +kernel
theorem dX8_init_72 : decode cX8_init 72 = .ok (.bipush 78, 2) := by decide +kernel
theorem dX8_init_74 : decode cX8_init 74 = .ok (.castore, 1) := by decide +kernel
theorem dX8_init_75 : decode cX8_init 75 = .ok (.dup, 1) := by decide +kernel
theorem dX8_init_76 : decode cX8_init 76 = .ok (.iconst 4, 1) := by decide +kernel
theorem dX8_init_77 : decode cX8_init 77 = .ok (.bipush 79, 2) := by decide +kernel
theorem dX8_init_79 : decode cX8_init 79 = .ok (.castore, 1) := by decide +kernel
theorem dX8_init_80 : decode cX8_init 80 = .ok (.dup, 1) := by decide +kernel
theorem dX8_init_81 : decode cX8_init 81 = .ok (.iconst 5, 1) := by decide +kernel
theorem dX8_init_82 : decode cX8_init 82 = .ok (.bipush 87, 2) := by decide +kernel
theorem dX8_init_84 : decode cX8_init 84 = .ok (.castore, 1) := by decide +kernel
theorem dX8_init_85 : decode cX8_init 85 = .ok (.dup, 1) := by decide +kernel
theorem dX8_init_86 : decode cX8_init 86 = .ok (.bipush 6, 2) := by decide +kernel
theorem dX8_init_88 : decode cX8_init 88 = .ok (.bipush 78, 2) := by decide +kernel
theorem dX8_init_90 : decode cX8_init 90 = .ok (.castore, 1) := by decide +kernel
theorem dX8_init_91 : decode cX8_init 91 = .ok (.dup, 1) := by decide +kernel
theorem dX8_init_92 : decode cX8_init 92 = .ok (.bipush 7, 2) := by decide +kernel
theorem dX8_init_94 : decode cX8_init 94 = .ok (.bipush 68, 2) := by decide +kernel
theorem dX8_init_96 : decode cX8_init 96 = .ok (.castore, 1) := by decide +kernel
theorem dX8_init_97 : decode cX8_init 97 = .ok (.dup, 1) := by decide +kernel
theorem dX8_init_98 : decode cX8_init 98 = .ok (.bipush 8, 2) := by decide +kernel
theorem dX8_init_100 : decode cX8_init 100 = .ok (.bipush 79, 2) := by decide +kernel
theorem dX8_init_102 : decode cX8_init 102 = .ok (.castore, 1) := by decide +kernel
theorem dX8_init_103 : decode cX8_init 103 = .ok (.dup, 1) := by decide +kernel
theorem dX8_init_104 : decode cX8_init 104 = .ok (.bipush 9, 2) := by decide +kernel
theorem dX8_init_106 : decode cX8_init 106 = .ok (.bipush 85, 2) := by decide +kernel
theorem dX8_init_108 : decode cX8_init 108 = .ok (.castore, 1) := by decide +kernel
theorem dX8_init_109 : decode cX8_init 109 = .ok (.dup, 1) := by decide +kernel
theorem dX8_init_110 : decode cX8_init 110 = .ok (.bipush 10, 2) := by decide +kernel
theorem dX8_init_112 : decode cX8_init 112 = .ok (.bipush 66, 2) := by decide +kernel
theorem dX8_init_114 : decode cX8_init 114 = .ok (.castore, 1) := by decide +kernel
theorem dX8_init_115 : decode cX8_init 115 = .ok (.dup, 1) := by decide +kernel
theorem dX8_init_116 : decode cX8_init 116 = .ok (.bipush 11, 2) := by decide +kernel
theorem dX8_init_118 : decode cX8_init 118 = .ok (.bipush 76, 2) := by decide +kernel
theorem dX8_init_120 : decode cX8_init 120 = .ok (.castore, 1) := by decide +kernel
theorem dX8_init_121 : decode cX8_init 121 = .ok (.dup, 1) := by decide +kernel
theorem dX8_init_122 : decode cX8_init 122 = .ok (.bipush 12, 2) := by decide +kernel
theorem dX8_init_124 : decode cX8_init 124 = .ok (.bipush 69, 2) := by decide +kernel
theorem dX8_init_126 : decode cX8_init 126 = .ok (.castore, 1) := by decide +kernel
theorem dX8_init_127 : decode cX8_init 127 = .ok (.dup, 1) := by decide +kernel
theorem dX8_init_128 : decode cX8_init 128 = .ok (.bipush 13, 2) := by decide +kernel
theorem dX8_init_130 : decode cX8_init 130 = .ok (.bipush 68, 2) := by decide +kernel
theorem dX8_init_132 : decode cX8_init 132 = .ok (.castore, 1) := by decide +kernel
theorem dX8_init_133 : decode cX8_init 133 = .ok (.dup, 1) := by decide +kernel
theorem dX8_init_134 : decode cX8_init 134 = .ok (.bipush 14, 2) := by decide +kernel
theorem dX8_init_136 : decode cX8_init 136 = .ok (.bipush 66, 2) := by decide +kernel
theorem dX8_init_138 : decode cX8_init 138 = .ok (.castore, 1) := by decide +kernel
theorem dX8_init_139 : decode cX8_init 139 = .ok (.dup, 1) := by decide +kernel
theorem dX8_init_140 : decode cX8_init 140 = .ok (.bipush 15, 2) := by decide +kernel
theorem dX8_init_142 : decode cX8_init 142 = .ok (.bipush 65, 2) := by decide +kernel
theorem dX8_init_144 : decode cX8_init 144 = .ok (.castore, 1) := by decide +kernel
theorem dX8_init_145 : decode cX8_init 145 = .ok (.dup, 1) := by decide +kernel
theorem dX8_init_146 : decode cX8_init 146 = .ok (.bipush 16, 2) := by decide +kernel
theorem dX8_init_148 : decode cX8_init 148 = .ok (.bipush 68, 2) := by decide +kernel
theorem dX8_init_150 : decode cX8_init 150 = .ok (.castore, 1) := by decide +kernel
theorem dX8_init_151 : decode cX8_init 151 = .ok (.dup, 1) := by decide +kernel
theorem dX8_init_152 : decode cX8_init 152 = .ok (.bipush 17, 2) := by decide +kernel
theorem dX8_init_154 : decode cX8_init 154 = .ok (.bipush 77, 2) := by decide +kernel
theorem dX8_init_156 : decode cX8_init 156 = .ok (.castore, 1) := by decide +kernel
theorem dX8_init_157 : decode cX8_init 157 = .ok (.dup, 1) := by decide +kernel
theorem dX8_init_158 : decode cX8_init 158 = .ok (.bipush 18, 2) := by decide +kernel
theorem dX8_init_160 : decode cX8_init 160 = .ok (.bipush 73, 2) := by decide +kernel
theorem dX8_init_162 : decode cX8_init 162 = .ok (.castore, 1) := by decide +kernel
theorem dX8_init_163 : decode cX8_init 163 = .ok (.dup, 1) := by decide +kernel
theorem dX8_init_164 : decode cX8_init 164 = .ok (.bipush 19, 2) := by decide +kernel
theorem dX8_init_166 : decode cX8_init 166 = .ok (.bipush 83, 2) := by decide +kernel
theorem dX8_init_168 : decode cX8_init 168 = .ok (.castore, 1) := by decide +kernel
theorem dX8_init_169 : decode cX8_init 169 = .ok (.dup, 1) := by decide +kernel
theorem dX8_init_170 : decode cX8_init 170 = .ok (.bipush 20, 2) := by decide +kernel
theorem dX8_init_172 : decode cX8_init 172 = .ok (.bipush 83, 2) := by decide +kernel
theorem dX8_init_174 : decode cX8_init 174 = .ok (.castore, 1) := by decide +kernel
theorem dX8_init_175 : decode cX8_init 175 = .ok (.dup, 1) := by decide +kernel
theorem dX8_init_176 : decode cX8_init 176 = .ok (.bipush 21, 2) := by decide +kernel
theorem dX8_init_178 : decode cX8_init 178 = .ok (.bipush 73, 2) := by decide +kernel
theorem dX8_init_180 : decode cX8_init 180 = .ok (.castore, 1) := by decide +kernel
theorem dX8_init_181 : decode cX8_init 181 = .ok (.dup, 1) := by decide +kernel
theorem dX8_init_182 : decode cX8_init 182 = .ok (.bipush 22, 2) := by decide +kernel
theorem dX8_init_184 : decode cX8_init 184 = .ok (.bipush 78, 2) := by decide +kernel
theorem dX8_init_186 : decode cX8_init 186 = .ok (.castore, 1) := by decide +kernel
theorem dX8_init_187 : decode cX8_init 187 = .ok (.dup, 1) := by decide +kernel
theorem dX8_init_188 : decode cX8_init 188 = .ok (.bipush 23, 2) := by decide +kernel
theorem dX8_init_190 : decode cX8_init 190 = .ok (.bipush 71, 2) := by decide +kernel
theorem dX8_init_192 : decode cX8_init 192 = .ok (.castore, 1) := by decide +kernel
theorem dX8_init_193 : decode cX8_init 193 = .ok (.putfield 16, 3) := by decide +kernel
theorem dX8_init_196 : decode cX8_init 196 = .ok (.aload_n 0, 1) := by decide +kernel
theorem dX8_init_197 : decode cX8_init 197 = .ok (.bipush 6, 2) := by decide +kernel
theorem dX8_init_199 : decode cX8_init 199 = .ok (.newarray .int, 2) := by decide +kernel
theorem dX8_init_201 : decode cX8_init 201 = .ok (.putfield 19, 3) := by decide +kernel
theorem dX8_init_204 : decode cX8_init 204 = .ok (.aload_n 0, 1) := by decide +kernel
theorem dX8_init_205 : decode cX8_init 205 = .ok (.bipush 20, 2) := by decide +kernel
theorem dX8_init_207 : decode cX8_init 207 = .ok (.newarray .char, 2) := by decide +kernel
theorem dX8_init_209 : decode cX8_init 209 = .ok (.putfield 23, 3) := by decide +kernel
theorem dX8_init_212 : decode cX8_init 212 = .ok (.aload_n 0, 1) := by decide +kernel
theorem dX8_init_213 : decode cX8_init 213 = .ok (.bipush 6, 2) := by decide +kernel
theorem dX8_init_215 : decode cX8_init 215 = .ok (.newarray .int, 2) := by decide +kernel
theorem dX8_init_217 : decode cX8_init 217 = .ok (.putfield 26, 3) := by decide +kernel
theorem dX8_init_220 : decode cX8_init 220 = .ok (.aload_n 0, 1) := by decide +kernel
theorem dX8_init_221 : decode cX8_init 221 = .ok (.bipush 6, 2) := by decide +kernel
theorem dX8_init_223 : decode cX8_init 223 = .ok (.newarray .int, 2) := by decide +kernel
theorem dX8_init_225 : decode cX8_init 225 = .ok (.putfield 29, 3) := by decide +kernel
theorem dX8_init_228 : decode cX8_init 228 = .ok (.aload_n 0, 1) := by decide +kernel
theorem dX8_init_229 : decode cX8_init 229 = .ok (.iconst 4, 1) := by decide +kernel
theorem dX8_init_230 : decode cX8_init 230 = .ok (.newarray .boolean, 2) := by decide +kernel
theorem dX8_init_232 : decode cX8_init 232 = .ok (.putfield 32, 3) := by decide +kernel
theorem dX8_init_235 : decode cX8_init 235 = .ok (.aload_n 0, 1) := by decide +kernel
theorem dX8_init_236 : decode cX8_init 236 = .ok (.iconst 4, 1) := by decide +kernel
theorem dX8_init_237 : decode cX8_init 237 = .ok (.newarray .int, 2) := by decide +kernel
theorem dX8_init_239 : decode cX8_init 239 = .ok (.putfield 36, 3) := by decide +kernel
theorem dX8_init_242 : decode cX8_init 242 = .ok (.aload_n 0, 1) := by decide +kernel
theorem dX8_init_243 : decode cX8_init 243 = .ok (.iconst 4, 1) := by decide +kernel
theorem dX8_init_244 : decode cX8_init 244 = .ok (.newarray .int, 2) := by decide +kernel
theorem dX8_init_246 : decode cX8_init 246 = .ok (.putfield 39, 3) := by decide +kernel
theorem dX8_init_249 : decode cX8_init 249 = .ok (.aload_n 0, 1) := by decide +kernel
theorem dX8_init_250 : decode cX8_init 250 = .ok (.iconst 4, 1) := by decide +kernel
theorem dX8_init_251 : decode cX8_init 251 = .ok (.newarray .int, 2) := by decide +kernel
theorem dX8_init_253 : decode cX8_init 253 = .ok (.putfield 42, 3) := by decide +kernel
theorem dX8_init_256 : decode cX8_init 256 = .ok (.aload_n 0, 1) := by decide +kernel
theorem dX8_init_257 : decode cX8_init 257 = .ok (.iconst 4, 1) := by decide +kernel
theorem dX8_init_258 : decode cX8_init 258 = .ok (.newarray .boolean, 2) := by decide +kernel
theorem dX8_init_260 : decode cX8_init 260 = .ok (.putfield 45, 3) := by decide +kernel
theorem dX8_init_263 : decode cX8_init 263 = .ok (.aload_n 0, 1) := by decide +kernel
theorem dX8_init_264 : decode cX8_init 264 = .ok (.iconst 4, 1) := by decide +kernel
theorem dX8_init_265 : decode cX8_init 265 = .ok (.newarray .int, 2) := by decide +kernel
theorem dX8_init_267 : decode cX8_init 267 = .ok (.putfield 48, 3) := by decide +kernel
theorem dX8_init_270 : decode cX8_init 270 = .ok (.aload_n 0, 1) := by decide +kernel
theorem dX8_init_271 : decode cX8_init 271 = .ok (.iconst 4, 1) := by decide +kernel
theorem dX8_init_272 : decode cX8_init 272 = .ok (.newarray .int, 2) := by decide +kernel
theorem dX8_init_274 : decode cX8_init 274 = .ok (.putfield 51, 3) := by decide +kernel
theorem dX8_init_277 : decode cX8_init 277 = .ok (.aload_n 0, 1) := by decide +kernel
theorem dX8_init_278 : decode cX8_init 278 = .ok (.iconst 4, 1) := by decide +kernel
theorem dX8_init_279 : decode cX8_init 279 = .ok (.newarray .int, 2) := by decide +kernel
theorem dX8_init_281 : decode cX8_init 281 = .ok (.putfield 54, 3) := by decide +kernel
theorem dX8_init_284 : decode cX8_init 284 = .ok (.aload_n 0, 1) := by decide +kernel
theorem dX8_init_285 : decode cX8_init 285 = .ok (.iconst 4, 1) := by decide +kernel
theorem dX8_init_286 : decode cX8_init 286 = .ok (.newarray .int, 2) := by decide +kernel
theorem dX8_init_288 : decode cX8_init 288 = .ok (.putfield 57, 3) := by decide +kernel
theorem dX8_init_291 : decode cX8_init 291 = .ok (.aload_n 0, 1) := by decide +kernel
theorem dX8_init_292 : decode cX8_init 292 = .ok (.sipush 2000, 3) := by decide +kernel
theorem dX8_init_295 : decode cX8_init 295 = .ok (.newarray .int, 2) := by decide +kernel
theorem dX8_init_297 : decode cX8_init 297 = .ok (.putfield 60, 3) := by decide +kernel
theorem dX8_init_300 : decode cX8_init 300 = .ok (.aload_n 0, 1) := by decide +kernel
theorem dX8_init_301 : decode cX8_init 301 = .ok (.sipush 2000, 3) := by decide +kernel
theorem dX8_init_304 : decode cX8_init 304 = .ok (.newarray .int, 2) := by decide +kernel
theorem dX8_init_306 : decode cX8_init 306 = .ok (.putfield 63, 3) := by decide +kernel
theorem dX8_init_309 : decode cX8_init 309 = .ok (.aload_n 0, 1) := by decide +kernel
theorem dX8_init_310 : decode cX8_init 310 = .ok (.bipush 6, 2) := by decide +kernel
theorem dX8_init_312 : decode cX8_init 312 = .ok (.newarray .int, 2) := by decide +kernel
theorem dX8_init_314 : decode cX8_init 314 = .ok (.putfield 66, 3) := by decide +kernel
theorem dX8_init_317 : decode cX8_init 317 = .ok (.aload_n 0, 1) := by decide +kernel
theorem dX8_init_318 : decode cX8_init 318 = .ok (.bipush 6, 2) := by decide +kernel
theorem dX8_init_320 : decode cX8_init 320 = .ok (.newarray .int, 2) := by decide +kernel
theorem dX8_init_322 : decode cX8_init 322 = .ok (.putfield 69, 3) := by decide +kernel
theorem dX8_init_325 : decode cX8_init 325 = .ok (.aload_n 0, 1) := by decide +kernel
theorem dX8_init_326 : decode cX8_init 326 = .ok (.sipush 1536, 3) := by decide +kernel
theorem dX8_init_329 : decode cX8_init 329 = .ok (.newarray .int, 2) := by decide +kernel
theorem dX8_init_331 : decode cX8_init 331 = .ok (.putfield 72, 3) := by decide +kernel
theorem dX8_init_334 : decode cX8_init 334 = .ok (.aload_n 0, 1) := by decide +kernel
theorem dX8_init_335 : decode cX8_init 335 = .ok (.sipush 1536, 3) := by decide +kernel
theorem dX8_init_338 : decode cX8_init 338 = .ok (.newarray .int, 2) := by decide +kernel
theorem dX8_init_340 : decode cX8_init 340 = .ok (.putfield 75, 3) := by decide +kernel
theorem dX8_init_343 : decode cX8_init 343 = .ok (.aload_n 0, 1) := by decide +kernel
theorem dX8_init_344 : decode cX8_init 344 = .ok (.sipush 1536, 3) := by decide +kernel
theorem dX8_init_347 : decode cX8_init 347 = .ok (.newarray .int, 2) := by decide +kernel
theorem dX8_init_349 : decode cX8_init 349 = .ok (.putfield 78, 3) := by decide +kernel
theorem dX8_init_352 : decode cX8_init 352 = .ok (.aload_n 0, 1) := by decide +kernel
theorem dX8_init_353 : decode cX8_init 353 = .ok (.sipush 1536, 3) := by decide +kernel
theorem dX8_init_356 : decode cX8_init 356 = .ok (.newarray .int, 2) := by decide +kernel
theorem dX8_init_358 : decode cX8_init 358 = .ok (.putfield 81, 3) := by decide +kernel
theorem dX8_init_361 : decode cX8_init 361 = .ok (.aload_n 0, 1) := by decide +kernel
theorem dX8_init_362 : decode cX8_init 362 = .ok (.bipush 100, 2) := by decide +kernel
theorem dX8_init_364 : decode cX8_init 364 = .ok (.newarray .int, 2) := by decide +kernel
theorem dX8_init_366 : decode cX8_init 366 = .ok (.putfield 84, 3) := by decide +kernel
theorem dX8_init_369 : decode cX8_init 369 = .ok (.aload_n 0, 1) := by decide +kernel
theorem dX8_init_370 : decode cX8_init 370 = .ok (.bipush 100, 2) := by decide +kernel
theorem dX8_init_372 : decode cX8_init 372 = .ok (.newarray .int, 2) := by decide +kernel
theorem dX8_init_374 : decode cX8_init 374 = .ok (.putfield 87, 3) := by decide +kernel
theorem dX8_init_377 : decode cX8_init 377 = .ok (.aload_n 0, 1) := by decide +kernel
theorem dX8_init_378 : decode cX8_init 378 = .ok (.bipush 100, 2) := by decide +kernel
theorem dX8_init_380 : decode cX8_init 380 = .ok (.newarray .int, 2) := by decide +kernel
theorem dX8_init_382 : decode cX8_init 382 = .ok (.putfield 90, 3) := by decide +kernel
theorem dX8_init_385 : decode cX8_init 385 = .ok (.aload_n 0, 1) := by decide +kernel
theorem dX8_init_386 : decode cX8_init 386 = .ok (.bipush 100, 2) := by decide +kernel
theorem dX8_init_388 : decode cX8_init 388 = .ok (.newarray .int, 2) := by decide +kernel
theorem dX8_init_390 : decode cX8_init 390 = .ok (.putfield 93, 3) := by decide +kernel
theorem dX8_init_393 : decode cX8_init 393 = .ok (.aload_n 0, 1) := by decide +kernel
theorem dX8_init_394 : decode cX8_init 394 = .ok (.bipush 100, 2) := by decide +kernel
theorem dX8_init_396 : decode cX8_init 396 = .ok (.newarray .boolean, 2) := by decide +kernel
theorem dX8_init_398 : decode cX8_init 398 = .ok (.putfield 96, 3) := by decide +kernel
theorem dX8_init_401 : decode cX8_init 401 = .ok (.aload_n 0, 1) := by decide +kernel
theorem dX8_init_402 : decode cX8_init 402 = .ok (.bipush 100, 2) := by decide +kernel
theorem dX8_init_404 : decode cX8_init 404 = .ok (.newarray .int, 2) := by decide +kernel
theorem dX8_init_406 : decode cX8_init 406 = .ok (.putfield 99, 3) := by decide +kernel
theorem dX8_init_409 : decode cX8_init 409 = .ok (.aload_n 0, 1) := by decide +kernel
theorem dX8_init_410 : decode cX8_init 410 = .ok (.bipush 100, 2) := by decide +kernel
theorem dX8_init_412 : decode cX8_init 412 = .ok (.newarray .int, 2) := by decide +kernel
theorem dX8_init_414 : decode cX8_init 414 = .ok (.putfield 102, 3) := by decide +kernel
theorem dX8_init_417 : decode cX8_init 417 = .ok (.aload_n 0, 1) := by decide +kernel
theorem dX8_init_418 : decode cX8_init 418 = .ok (.bipush 100, 2) := by decide +kernel
theorem dX8_init_420 : decode cX8_init 420 = .ok (.newarray .int, 2) := by decide +kernel
theorem dX8_init_422 : decode cX8_init 422 = .ok (.putfield 105, 3) := by decide +kernel
theorem dX8_init_425 : decode cX8_init 425 = .ok (.aload_n 0, 1) := by decide +kernel
theorem dX8_init_426 : decode cX8_init 426 = .ok (.bipush 100, 2) := by decide +kernel
theorem dX8_init_428 : decode cX8_init 428 = .ok (.newarray .int, 2) := by decide +kernel
theorem dX8_init_430 : decode cX8_init 430 = .ok (.putfield 108, 3) := by decide +kernel
theorem dX8_init_433 : decode cX8_init 433 = .ok (.aload_n 0, 1) := by decide +kernel
theorem dX8_init_434 : decode cX8_init 434 = .ok (.bipush 50, 2) := by decide +kernel
theorem dX8_init_436 : decode cX8_init 436 = .ok (.newarray .int, 2) := by decide +kernel
theorem dX8_init_438 : decode cX8_init 438 = .ok (.putfield 111, 3) := by decide +kernel
theorem dX8_init_441 : decode cX8_init 441 = .ok (.aload_n 0, 1) := by decide +kernel
theorem dX8_init_442 : decode cX8_init 442 = .ok (.bipush 50, 2) := by decide +kernel
theorem dX8_init_444 : decode cX8_init 444 = .ok (.newarray .int, 2) := by decide +kernel
theorem dX8_init_446 : decode cX8_init 446 = .ok (.putfield 114, 3) := by decide +kernel
theorem dX8_init_449 : decode cX8_init 449 = .ok (.aload_n 0, 1) := by decide +kernel
theorem dX8_init_450 : decode cX8_init 450 = .ok (.bipush 50, 2) := by decide +kernel
theorem dX8_init_452 : decode cX8_init 452 = .ok (.newarray .int, 2) := by decide +kernel
theorem dX8_init_454 : decode cX8_init 454 = .ok (.putfield 117, 3) := by decide +kernel
theorem dX8_init_457 : decode cX8_init 457 = .ok (.aload_n 0, 1) := by decide +kernel
theorem dX8_init_458 : decode cX8_init 458 = .ok (.bipush 50, 2) := by decide +kernel
theorem dX8_init_460 : decode cX8_init 460 = .ok (.newarray .int, 2) := by decide +kernel
theorem dX8_init_462 : decode cX8_init 462 = .ok (.putfield 120, 3) := by decide +kernel
theorem dX8_init_465 : decode cX8_init 465 = .ok (.iconst 0, 1) := by decide +kernel
theorem dX8_init_466 : decode cX8_init 466 = .ok (.istore_n 1, 1) := by decide +kernel
theorem dX8_init_467 : decode cX8_init 467 = .ok (.iload_n 1, 1) := by decide +kernel
theorem dX8_init_468 : decode cX8_init 468 = .ok (.bipush 6, 2) := by decide +kernel
theorem dX8_init_470 : decode cX8_init 470 = .ok (.if_icmp .ge 25, 3) := by decide +kernel
theorem dX8_init_473 : decode cX8_init 473 = .ok (.aload_n 0, 1) := by decide +kernel
theorem dX8_init_474 : decode cX8_init 474 = .ok (.getfield 26, 3) := by decide +kernel
theorem dX8_init_477 : decode cX8_init 477 = .ok (.iload_n 1, 1) := by decide +kernel
theorem dX8_init_478 : decode cX8_init 478 = .ok (.bipush 10, 2) := by decide +kernel
theorem dX8_init_480 : decode cX8_init 480 = .ok (.iastore, 1) := by decide +kernel
theorem dX8_init_481 : decode cX8_init 481 = .ok (.aload_n 0, 1) := by decide +kernel
theorem dX8_init_482 : decode cX8_init 482 = .ok (.getfield 29, 3) := by decide +kernel
theorem dX8_init_485 : decode cX8_init 485 = .ok (.iload_n 1, 1) := by decide +kernel
theorem dX8_init_486 : decode cX8_init 486 = .ok (.bipush 60, 2) := by decide +kernel
theorem dX8_init_488 : decode cX8_init 488 = .ok (.iastore, 1) := by decide +kernel
theorem dX8_init_489 : decode cX8_init 489 = .ok (.iinc 1 1, 3) := by decide +kernel
theorem dX8_init_492 : decode cX8_init 492 = .ok (.goto (-25), 3) := by decide +kernel
theorem dX8_init_495 : decode cX8_init 495 = .ok (.iconst 0, 1) := by decide +kernel
theorem dX8_init_496 : decode cX8_init 496 = .ok (.istore_n 1, 1) := by decide +kernel
theorem dX8_init_497 : decode cX8_init 497 = .ok (.iload_n 1, 1) := by decide +kernel
theorem dX8_init_498 : decode cX8_init 498 = .ok (.iconst 4, 1) := by decide +kernel
theorem dX8_init_499 : decode cX8_init 499 = .ok (.if_icmp .ge 34, 3) := by decide +kernel
theorem dX8_init_502 : decode cX8_init 502 = .ok (.aload_n 0, 1) := by decide +kernel
theorem dX8_init_503 : decode cX8_init 503 = .ok (.getfield 51, 3) := by decide +kernel
theorem dX8_init_506 : decode cX8_init 506 = .ok (.iload_n 1, 1) := by decide +kernel
theorem dX8_init_507 : decode cX8_init 507 = .ok (.sipush 500, 3) := by decide +kernel
theorem dX8_init_510 : decode cX8_init 510 = .ok (.iastore, 1) := by decide +kernel
theorem dX8_init_511 : decode cX8_init 511 = .ok (.aload_n 0, 1) := by decide +kernel
theorem dX8_init_512 : decode cX8_init 512 = .ok (.getfield 54, 3) := by decide +kernel
theorem dX8_init_515 : decode cX8_init 515 = .ok (.iload_n 1, 1) := by decide +kernel
theorem dX8_init_516 : decode cX8_init 516 = .ok (.bipush 100, 2) := by decide +kernel
theorem dX8_init_518 : decode cX8_init 518 = .ok (.iastore, 1) := by decide +kernel
theorem dX8_init_519 : decode cX8_init 519 = .ok (.aload_n 0, 1) := by decide +kernel
theorem dX8_init_520 : decode cX8_init 520 = .ok (.getfield 57, 3) := by decide +kernel
theorem dX8_init_523 : decode cX8_init 523 = .ok (.iload_n 1, 1) := by decide +kernel
theorem dX8_init_524 : decode cX8_init 524 = .ok (.bipush 20, 2) := by decide +kernel
theorem dX8_init_526 : decode cX8_init 526 = .ok (.iastore, 1) := by decide +kernel
theorem dX8_init_527 : decode cX8_init 527 = .ok (.iinc 1 1, 3) := by decide +kernel
theorem dX8_init_530 : decode cX8_init 530 = .ok (.goto (-33), 3) := by decide +kernel
theorem dX8_init_533 : decode cX8_init 533 = .ok (.iconst 0, 1) := by decide +kernel
theorem dX8_init_534 : decode cX8_init 534 = .ok (.istore_n 1, 1) := by decide +kernel
theorem dX8_init_535 : decode cX8_init 535 = .ok (.iload_n 1, 1) := by decide +kernel
theorem dX8_init_536 : decode cX8_init 536 = .ok (.sipush 1536, 3) := by decide +kernel
theorem dX8_init_539 : decode cX8_init 539 = .ok (.if_icmp .ge 16, 3) := by decide +kernel
theorem dX8_init_542 : decode cX8_init 542 = .ok (.aload_n 0, 1) := by decide +kernel
theorem dX8_init_543 : decode cX8_init 543 = .ok (.getfield 72, 3) := by decide +kernel
theorem dX8_init_546 : decode cX8_init 546 = .ok (.iload_n 1, 1) := by decide +kernel
theorem dX8_init_547 : decode cX8_init 547 = .ok (.iconst (-1), 1) := by decide +kernel
theorem dX8_init_548 : decode cX8_init 548 = .ok (.iastore, 1) := by decide +kernel
theorem dX8_init_549 : decode cX8_init 549 = .ok (.iinc 1 1, 3) := by decide +kernel
theorem dX8_init_552 : decode cX8_init 552 = .ok (.goto (-17), 3) := by decide +kernel
theorem dX8_init_555 : decode cX8_init 555 = .ok (.return_, 1) := by decide +kernel
theorem dX8_thrown_0 : decode cX8_thrown 0 = .ok (.aload_n 0, 1) := by decide +kernel
theorem dX8_thrown_1 : decode cX8_thrown 1 = .ok (.getfield 123, 3) := by decide +kernel
theorem dX8_thrown_4 : decode cX8_thrown 4 = .ok (.ireturn, 1) := by decide +kernel
theorem dX8_isIn_0 : decode cX8_isIn 0 = .ok (.iload_n 0, 1) := by decide +kernel
theorem dX8_isIn_1 : decode cX8_isIn 1 = .ok (.iload_n 1, 1) := by decide +kernel
theorem dX8_isIn_2 : decode cX8_isIn 2 = .ok (.if_icmp .lt 12, 3) := by decide +kernel
theorem dX8_isIn_5 : decode cX8_isIn 5 = .ok (.iload_n 0, 1) := by decide +kernel
theorem dX8_isIn_6 : decode cX8_isIn 6 = .ok (.iload_n 2, 1) := by decide +kernel
theorem dX8_isIn_7 : decode cX8_isIn 7 = .ok (.if_icmp .gt 7, 3) := by decide +kernel
theorem dX8_isIn_10 : decode cX8_isIn 10 = .ok (.iconst 1, 1) := by decide +kernel
theorem dX8_isIn_11 : decode cX8_isIn 11 = .ok (.goto 4, 3) := by decide +kernel
theorem dX8_isIn_14 : decode cX8_isIn 14 = .ok (.iconst 0, 1) := by decide +kernel
theorem dX8_isIn_15 : decode cX8_isIn 15 = .ok (.ireturn, 1) := by decide +kernel
theorem dX8_type_0 : decode cX8_type 0 = .ok (.iload_n 1, 1) := by decide +kernel
theorem dX8_type_1 : decode cX8_type 1 = .ok (.bipush 65, 2) := by decide +kernel
theorem dX8_type_3 : decode cX8_type 3 = .ok (.bipush 90, 2) := by decide +kernel
theorem dX8_type_5 : decode cX8_type 5 = .ok (.invokestatic 127, 3) := by decide +kernel
theorem dX8_type_8 : decode cX8_type 8 = .ok (.ifCond .ne 26, 3) := by decide +kernel
theorem dX8_type_11 : decode cX8_type 11 = .ok (.iload_n 1, 1) := by decide +kernel
theorem dX8_type_12 : decode cX8_type 12 = .ok (.bipush 48, 2) := by decide +kernel
theorem dX8_type_14 : decode cX8_type 14 = .ok (.bipush 57, 2) := by decide +kernel
theorem dX8_type_16 : decode cX8_type 16 = .ok (.invokestatic 127, 3) := by decide +kernel
theorem dX8_type_19 : decode cX8_type 19 = .ok (.ifCond .ne 15, 3) := by decide +kernel
theorem dX8_type_22 : decode cX8_type 22 = .ok (.iload_n 1, 1) := by decide +kernel
theorem dX8_type_23 : decode cX8_type 23 = .ok (.bipush 61, 2) := by decide +kernel
theorem dX8_type_25 : decode cX8_type 25 = .ok (.if_icmp .eq 9, 3) := by decide +kernel
theorem dX8_type_28 : decode cX8_type 28 = .ok (.iload_n 1, 1) := by decide +kernel
theorem dX8_type_29 : decode cX8_type 29 = .ok (.bipush 59, 2) := by decide +kernel
theorem dX8_type_31 : decode cX8_type 31 = .ok (.if_icmp .ne 7, 3) := by decide +kernel
theorem dX8_type_34 : decode cX8_type 34 = .ok (.iconst 1, 1) := by decide +kernel
theorem dX8_type_35 : decode cX8_type 35 = .ok (.goto 4, 3) := by decide +kernel
theorem dX8_type_38 : decode cX8_type 38 = .ok (.iconst 0, 1) := by decide +kernel
theorem dX8_type_39 : decode cX8_type 39 = .ok (.istore_n 2, 1) := by decide +kernel
theorem dX8_type_40 : decode cX8_type 40 = .ok (.aload_n 0, 1) := by decide +kernel
theorem dX8_type_41 : decode cX8_type 41 = .ok (.iload_n 2, 1) := by decide +kernel
theorem dX8_type_42 : decode cX8_type 42 = .ok (.ifCond .ne 7, 3) := by decide +kernel
theorem dX8_type_45 : decode cX8_type 45 = .ok (.iconst 1, 1) := by decide +kernel
theorem dX8_type_46 : decode cX8_type 46 = .ok (.goto 17, 3) := by decide +kernel
theorem dX8_type_49 : decode cX8_type 49 = .ok (.aload_n 0, 1) := by decide +kernel
theorem dX8_type_50 : decode cX8_type 50 = .ok (.getfield 131, 3) := by decide +kernel
theorem dX8_type_53 : decode cX8_type 53 = .ok (.bipush 60, 2) := by decide +kernel
theorem dX8_type_55 : decode cX8_type 55 = .ok (.if_icmp .ne 7, 3) := by decide +kernel
theorem dX8_type_58 : decode cX8_type 58 = .ok (.iconst 2, 1) := by decide +kernel
theorem dX8_type_59 : decode cX8_type 59 = .ok (.goto 4, 3) := by decide +kernel
theorem dX8_type_62 : decode cX8_type 62 = .ok (.iconst 0, 1) := by decide +kernel
theorem dX8_type_63 : decode cX8_type 63 = .ok (.putfield 123, 3) := by decide +kernel
theorem dX8_type_66 : decode cX8_type 66 = .ok (.aload_n 0, 1) := by decide +kernel
theorem dX8_type_67 : decode cX8_type 67 = .ok (.getfield 123, 3) := by decide +kernel
theorem dX8_type_70 : decode cX8_type 70 = .ok (.ifCond .le 5, 3) := by decide +kernel
theorem dX8_type_73 : decode cX8_type 73 = .ok (.iconst 0, 1) := by decide +kernel
theorem dX8_type_74 : decode cX8_type 74 = .ok (.ireturn, 1) := by decide +kernel
theorem dX8_type_75 : decode cX8_type 75 = .ok (.aload_n 0, 1) := by decide +kernel
theorem dX8_type_76 : decode cX8_type 76 = .ok (.getfield 7, 3) := by decide +kernel
theorem dX8_type_79 : decode cX8_type 79 = .ok (.aload_n 0, 1) := by decide +kernel
theorem dX8_type_80 : decode cX8_type 80 = .ok (.getfield 131, 3) := by decide +kernel
theorem dX8_type_83 : decode cX8_type 83 = .ok (.iload_n 1, 1) := by decide +kernel
theorem dX8_type_84 : decode cX8_type 84 = .ok (.castore, 1) := by decide +kernel
theorem dX8_type_85 : decode cX8_type 85 = .ok (.aload_n 0, 1) := by decide +kernel
theorem dX8_type_86 : decode cX8_type 86 = .ok (.dup, 1) := by decide +kernel
theorem dX8_type_87 : decode cX8_type 87 = .ok (.getfield 131, 3) := by decide +kernel
theorem dX8_type_90 : decode cX8_type 90 = .ok (.iconst 1, 1) := by decide +kernel
theorem dX8_type_91 : decode cX8_type 91 = .ok (.iadd, 1) := by decide +kernel
theorem dX8_type_92 : decode cX8_type 92 = .ok (.putfield 131, 3) := by decide +kernel
theorem dX8_type_95 : decode cX8_type 95 = .ok (.aload_n 0, 1) := by decide +kernel
theorem dX8_type_96 : decode cX8_type 96 = .ok (.getfield 131, 3) := by decide +kernel
theorem dX8_type_99 : decode cX8_type 99 = .ok (.ireturn, 1) := by decide +kernel
theorem dX8_wipe_0 : decode cX8_wipe 0 = .ok (.aload_n 0, 1) := by decide +kernel
theorem dX8_wipe_1 : decode cX8_wipe 1 = .ok (.iconst 0, 1) := by decide +kernel
theorem dX8_wipe_2 : decode cX8_wipe 2 = .ok (.putfield 123, 3) := by decide +kernel
theorem dX8_wipe_5 : decode cX8_wipe 5 = .ok (.aload_n 0, 1) := by decide +kernel
theorem dX8_wipe_6 : decode cX8_wipe 6 = .ok (.getfield 131, 3) := by decide +kernel
theorem dX8_wipe_9 : decode cX8_wipe 9 = .ok (.istore_n 1, 1) := by decide +kernel
theorem dX8_wipe_10 : decode cX8_wipe 10 = .ok (.aload_n 0, 1) := by decide +kernel
theorem dX8_wipe_11 : decode cX8_wipe 11 = .ok (.iconst 0, 1) := by decide +kernel
theorem dX8_wipe_12 : decode cX8_wipe 12 = .ok (.putfield 131, 3) := by decide +kernel
theorem dX8_wipe_15 : decode cX8_wipe 15 = .ok (.iload_n 1, 1) := by decide +kernel
theorem dX8_wipe_16 : decode cX8_wipe 16 = .ok (.ireturn, 1) := by decide +kernel
theorem dX8_number_0 : decode cX8_number 0 = .ok (.iconst 0, 1) := by decide +kernel
theorem dX8_number_1 : decode cX8_number 1 = .ok (.istore 4, 2) := by decide +kernel
theorem dX8_number_3 : decode cX8_number 3 = .ok (.iload_n 2, 1) := by decide +kernel
theorem dX8_number_4 : decode cX8_number 4 = .ok (.iload_n 1, 1) := by decide +kernel
theorem dX8_number_5 : decode cX8_number 5 = .ok (.if_icmp .le 14, 3) := by decide +kernel
theorem dX8_number_8 : decode cX8_number 8 = .ok (.iload_n 2, 1) := by decide +kernel
theorem dX8_number_9 : decode cX8_number 9 = .ok (.iload_n 1, 1) := by decide +kernel
theorem dX8_number_10 : decode cX8_number 10 = .ok (.isub, 1) := by decide +kernel
theorem dX8_number_11 : decode cX8_number 11 = .ok (.iload_n 3, 1) := by decide +kernel
theorem dX8_number_12 : decode cX8_number 12 = .ok (.if_icmp .gt 7, 3) := by decide +kernel
theorem dX8_number_15 : decode cX8_number 15 = .ok (.iconst 1, 1) := by decide +kernel
theorem dX8_number_16 : decode cX8_number 16 = .ok (.goto 4, 3) := by decide +kernel
theorem dX8_number_19 : decode cX8_number 19 = .ok (.iconst 0, 1) := by decide +kernel
theorem dX8_number_20 : decode cX8_number 20 = .ok (.istore 5, 2) := by decide +kernel
theorem dX8_number_22 : decode cX8_number 22 = .ok (.iload_n 1, 1) := by decide +kernel
theorem dX8_number_23 : decode cX8_number 23 = .ok (.istore 6, 2) := by decide +kernel
theorem dX8_number_25 : decode cX8_number 25 = .ok (.iload 6, 2) := by decide +kernel
theorem dX8_number_27 : decode cX8_number 27 = .ok (.iload_n 2, 1) := by decide +kernel
theorem dX8_number_28 : decode cX8_number 28 = .ok (.if_icmp .ge 48, 3) := by decide +kernel
theorem dX8_number_31 : decode cX8_number 31 = .ok (.iload 5, 2) := by decide +kernel
theorem dX8_number_33 : decode cX8_number 33 = .ok (.ifCond .eq 43, 3) := by decide +kernel
theorem dX8_number_36 : decode cX8_number 36 = .ok (.aload_n 0, 1) := by decide +kernel
theorem dX8_number_37 : decode cX8_number 37 = .ok (.getfield 7, 3) := by decide +kernel
theorem dX8_number_40 : decode cX8_number 40 = .ok (.iload 6, 2) := by decide +kernel
theorem dX8_number_42 : decode cX8_number 42 = .ok (.caload, 1) := by decide +kernel
theorem dX8_number_43 : decode cX8_number 43 = .ok (.bipush 48, 2) := by decide +kernel
theorem dX8_number_45 : decode cX8_number 45 = .ok (.bipush 57, 2) := by decide +kernel
theorem dX8_number_47 : decode cX8_number 47 = .ok (.invokestatic 127, 3) := by decide +kernel
theorem dX8_number_50 : decode cX8_number 50 = .ok (.istore 5, 2) := by decide +kernel
theorem dX8_number_52 : decode cX8_number 52 = .ok (.bipush 10, 2) := by decide +kernel
theorem dX8_number_54 : decode cX8_number 54 = .ok (.iload 4, 2) := by decide +kernel
theorem dX8_number_56 : decode cX8_number 56 = .ok (.imul, 1) := by decide +kernel
theorem dX8_number_57 : decode cX8_number 57 = .ok (.aload_n 0, 1) := by decide +kernel
theorem dX8_number_58 : decode cX8_number 58 = .ok (.getfield 7, 3) := by decide +kernel
theorem dX8_number_61 : decode cX8_number 61 = .ok (.iload 6, 2) := by decide +kernel
theorem dX8_number_63 : decode cX8_number 63 = .ok (.caload, 1) := by decide +kernel
theorem dX8_number_64 : decode cX8_number 64 = .ok (.iadd, 1) := by decide +kernel
theorem dX8_number_65 : decode cX8_number 65 = .ok (.bipush 48, 2) := by decide +kernel
theorem dX8_number_67 : decode cX8_number 67 = .ok (.isub, 1) := by decide +kernel
theorem dX8_number_68 : decode cX8_number 68 = .ok (.istore 4, 2) := by decide +kernel
theorem dX8_number_70 : decode cX8_number 70 = .ok (.iinc 6 1, 3) := by decide +kernel
theorem dX8_number_73 : decode cX8_number 73 = .ok (.goto (-48), 3) := by decide +kernel
theorem dX8_number_76 : decode cX8_number 76 = .ok (.iload 5, 2) := by decide +kernel
theorem dX8_number_78 : decode cX8_number 78 = .ok (.ifCond .eq 8, 3) := by decide +kernel
theorem dX8_number_81 : decode cX8_number 81 = .ok (.iload 4, 2) := by decide +kernel
theorem dX8_number_83 : decode cX8_number 83 = .ok (.goto 4, 3) := by decide +kernel
theorem dX8_number_86 : decode cX8_number 86 = .ok (.iconst (-1), 1) := by decide +kernel
theorem dX8_number_87 : decode cX8_number 87 = .ok (.ireturn, 1) := by decide +kernel
theorem dX8_valueOf_0 : decode cX8_valueOf 0 = .ok (.iload_n 1, 1) := by decide +kernel
theorem dX8_valueOf_1 : decode cX8_valueOf 1 = .ok (.iconst 5, 1) := by decide +kernel
theorem dX8_valueOf_2 : decode cX8_valueOf 2 = .ok (.if_icmp .ne 65, 3) := by decide +kernel
theorem dX8_valueOf_5 : decode cX8_valueOf 5 = .ok (.iload_n 3, 1) := by decide +kernel
theorem dX8_valueOf_6 : decode cX8_valueOf 6 = .ok (.iload_n 2, 1) := by decide +kernel
theorem dX8_valueOf_7 : decode cX8_valueOf 7 = .ok (.isub, 1) := by decide +kernel
theorem dX8_valueOf_8 : decode cX8_valueOf 8 = .ok (.iconst 1, 1) := by decide +kernel
theorem dX8_valueOf_9 : decode cX8_valueOf 9 = .ok (.if_icmp .ne 29, 3) := by decide +kernel
theorem dX8_valueOf_12 : decode cX8_valueOf 12 = .ok (.aload_n 0, 1) := by decide +kernel
theorem dX8_valueOf_13 : decode cX8_valueOf 13 = .ok (.getfield 7, 3) := by decide +kernel
theorem dX8_valueOf_16 : decode cX8_valueOf 16 = .ok (.iload_n 2, 1) := by decide +kernel
theorem dX8_valueOf_17 : decode cX8_valueOf 17 = .ok (.caload, 1) := by decide +kernel
theorem dX8_valueOf_18 : decode cX8_valueOf 18 = .ok (.bipush 89, 2) := by decide +kernel
theorem dX8_valueOf_20 : decode cX8_valueOf 20 = .ok (.if_icmp .eq 14, 3) := by decide +kernel
theorem dX8_valueOf_23 : decode cX8_valueOf 23 = .ok (.aload_n 0, 1) := by decide +kernel
theorem dX8_valueOf_24 : decode cX8_valueOf 24 = .ok (.getfield 7, 3) := by decide +kernel
theorem dX8_valueOf_27 : decode cX8_valueOf 27 = .ok (.iload_n 2, 1) := by decide +kernel
theorem dX8_valueOf_28 : decode cX8_valueOf 28 = .ok (.caload, 1) := by decide +kernel
theorem dX8_valueOf_29 : decode cX8_valueOf 29 = .ok (.bipush 78, 2) := by decide +kernel
theorem dX8_valueOf_31 : decode cX8_valueOf 31 = .ok (.if_icmp .ne 7, 3) := by decide +kernel
theorem dX8_valueOf_34 : decode cX8_valueOf 34 = .ok (.iconst 1, 1) := by decide +kernel
theorem dX8_valueOf_35 : decode cX8_valueOf 35 = .ok (.goto 4, 3) := by decide +kernel
theorem dX8_valueOf_38 : decode cX8_valueOf 38 = .ok (.iconst 0, 1) := by decide +kernel
theorem dX8_valueOf_39 : decode cX8_valueOf 39 = .ok (.istore 4, 2) := by decide +kernel
theorem dX8_valueOf_41 : decode cX8_valueOf 41 = .ok (.iload 4, 2) := by decide +kernel
theorem dX8_valueOf_43 : decode cX8_valueOf 43 = .ok (.ifCond .ne 7, 3) := by decide +kernel
theorem dX8_valueOf_46 : decode cX8_valueOf 46 = .ok (.iconst (-1), 1) := by decide +kernel
theorem dX8_valueOf_47 : decode cX8_valueOf 47 = .ok (.goto 19, 3) := by decide +kernel
theorem dX8_valueOf_50 : decode cX8_valueOf 50 = .ok (.aload_n 0, 1) := by decide +kernel
theorem dX8_valueOf_51 : decode cX8_valueOf 51 = .ok (.getfield 7, 3) := by decide +kernel
theorem dX8_valueOf_54 : decode cX8_valueOf 54 = .ok (.iload_n 2, 1) := by decide +kernel
theorem dX8_valueOf_55 : decode cX8_valueOf 55 = .ok (.caload, 1) := by decide +kernel
theorem dX8_valueOf_56 : decode cX8_valueOf 56 = .ok (.bipush 89, 2) := by decide +kernel
theorem dX8_valueOf_58 : decode cX8_valueOf 58 = .ok (.if_icmp .ne 7, 3) := by decide +kernel
theorem dX8_valueOf_61 : decode cX8_valueOf 61 = .ok (.iconst 1, 1) := by decide +kernel
theorem dX8_valueOf_62 : decode cX8_valueOf 62 = .ok (.goto 4, 3) := by decide +kernel
theorem dX8_valueOf_65 : decode cX8_valueOf 65 = .ok (.iconst 0, 1) := by decide +kernel
theorem dX8_valueOf_66 : decode cX8_valueOf 66 = .ok (.ireturn, 1) := by decide +kernel
theorem dX8_valueOf_67 : decode cX8_valueOf 67 = .ok (.aload_n 0, 1) := by decide +kernel
theorem dX8_valueOf_68 : decode cX8_valueOf 68 = .ok (.iload_n 2, 1) := by decide +kernel
theorem dX8_valueOf_69 : decode cX8_valueOf 69 = .ok (.iload_n 3, 1) := by decide +kernel
theorem dX8_valueOf_70 : decode cX8_valueOf 70 = .ok (.iload_n 1, 1) := by decide +kernel
theorem dX8_valueOf_71 : decode cX8_valueOf 71 = .ok (.iconst 4, 1) := by decide +kernel
theorem dX8_valueOf_72 : decode cX8_valueOf 72 = .ok (.if_icmp .ne 7, 3) := by decide +kernel
theorem dX8_valueOf_75 : decode cX8_valueOf 75 = .ok (.iconst 5, 1) := by decide +kernel
theorem dX8_valueOf_76 : decode cX8_valueOf 76 = .ok (.goto 4, 3) := by decide +kernel
theorem dX8_valueOf_79 : decode cX8_valueOf 79 = .ok (.iconst 1, 1) := by decide +kernel
theorem dX8_valueOf_80 : decode cX8_valueOf 80 = .ok (.invokevirtual 134, 3) := by decide +kernel
theorem dX8_valueOf_83 : decode cX8_valueOf 83 = .ok (.istore 4, 2) := by decide +kernel
theorem dX8_valueOf_85 : decode cX8_valueOf 85 = .ok (.iload_n 1, 1) := by decide +kernel
theorem dX8_valueOf_86 : decode cX8_valueOf 86 = .ok (.iconst 4, 1) := by decide +kernel
theorem dX8_valueOf_87 : decode cX8_valueOf 87 = .ok (.if_icmp .ne 7, 3) := by decide +kernel
theorem dX8_valueOf_90 : decode cX8_valueOf 90 = .ok (.iconst 1, 1) := by decide +kernel
theorem dX8_valueOf_91 : decode cX8_valueOf 91 = .ok (.goto 4, 3) := by decide +kernel
theorem dX8_valueOf_94 : decode cX8_valueOf 94 = .ok (.iconst 0, 1) := by decide +kernel
theorem dX8_valueOf_95 : decode cX8_valueOf 95 = .ok (.istore 5, 2) := by decide +kernel
theorem dX8_valueOf_97 : decode cX8_valueOf 97 = .ok (.iload_n 1, 1) := by decide +kernel
theorem dX8_valueOf_98 : decode cX8_valueOf 98 = .ok (.ifCond .ne 7, 3) := by decide +kernel
theorem dX8_valueOf_101 : decode cX8_valueOf 101 = .ok (.iconst 5, 1) := by decide +kernel
theorem dX8_valueOf_102 : decode cX8_valueOf 102 = .ok (.goto 25, 3) := by decide +kernel
theorem dX8_valueOf_105 : decode cX8_valueOf 105 = .ok (.iload_n 1, 1) := by decide +kernel
theorem dX8_valueOf_106 : decode cX8_valueOf 106 = .ok (.iconst 1, 1) := by decide +kernel
theorem dX8_valueOf_107 : decode cX8_valueOf 107 = .ok (.if_icmp .ne 7, 3) := by decide +kernel
theorem dX8_valueOf_110 : decode cX8_valueOf 110 = .ok (.iconst 3, 1) := by decide +kernel
theorem dX8_valueOf_111 : decode cX8_valueOf 111 = .ok (.goto 16, 3) := by decide +kernel
theorem dX8_valueOf_114 : decode cX8_valueOf 114 = .ok (.iload_n 1, 1) := by decide +kernel
theorem dX8_valueOf_115 : decode cX8_valueOf 115 = .ok (.iconst 4, 1) := by decide +kernel
theorem dX8_valueOf_116 : decode cX8_valueOf 116 = .ok (.if_icmp .ne 9, 3) := by decide +kernel
theorem dX8_valueOf_119 : decode cX8_valueOf 119 = .ok (.sipush 30000, 3) := by decide +kernel
theorem dX8_valueOf_122 : decode cX8_valueOf 122 = .ok (.goto 5, 3) := by decide +kernel
theorem dX8_valueOf_125 : decode cX8_valueOf 125 = .ok (.bipush 7, 2) := by decide +kernel
theorem dX8_valueOf_127 : decode cX8_valueOf 127 = .ok (.istore 6, 2) := by decide +kernel
theorem dX8_valueOf_129 : decode cX8_valueOf 129 = .ok (.iload 4, 2) := by decide +kernel
theorem dX8_valueOf_131 : decode cX8_valueOf 131 = .ok (.iconst (-1), 1) := by decide +kernel
theorem dX8_valueOf_132 : decode cX8_valueOf 132 = .ok (.if_icmp .eq 20, 3) := by decide +kernel
theorem dX8_valueOf_135 : decode cX8_valueOf 135 = .ok (.iload 4, 2) := by decide +kernel
theorem dX8_valueOf_137 : decode cX8_valueOf 137 = .ok (.iload 5, 2) := by decide +kernel
theorem dX8_valueOf_139 : decode cX8_valueOf 139 = .ok (.iload 6, 2) := by decide +kernel
theorem dX8_valueOf_141 : decode cX8_valueOf 141 = .ok (.invokestatic 127, 3) := by decide +kernel
theorem dX8_valueOf_144 : decode cX8_valueOf 144 = .ok (.ifCond .eq 8, 3) := by decide +kernel
theorem dX8_valueOf_147 : decode cX8_valueOf 147 = .ok (.iload 4, 2) := by decide +kernel
theorem dX8_valueOf_149 : decode cX8_valueOf 149 = .ok (.goto 4, 3) := by decide +kernel
theorem dX8_valueOf_152 : decode cX8_valueOf 152 = .ok (.iconst (-1), 1) := by decide +kernel
theorem dX8_valueOf_153 : decode cX8_valueOf 153 = .ok (.ireturn, 1) := by decide +kernel
theorem dX8_keyOf_0 : decode cX8_keyOf 0 = .ok (.iconst (-1), 1) := by decide +kernel
theorem dX8_keyOf_1 : decode cX8_keyOf 1 = .ok (.istore_n 3, 1) := by decide +kernel
theorem dX8_keyOf_2 : decode cX8_keyOf 2 = .ok (.iconst 0, 1) := by decide +kernel
theorem dX8_keyOf_3 : decode cX8_keyOf 3 = .ok (.istore 4, 2) := by decide +kernel
theorem dX8_keyOf_5 : decode cX8_keyOf 5 = .ok (.iload 4, 2) := by decide +kernel
theorem dX8_keyOf_7 : decode cX8_keyOf 7 = .ok (.bipush 6, 2) := by decide +kernel
theorem dX8_keyOf_9 : decode cX8_keyOf 9 = .ok (.if_icmp .ge 52, 3) := by decide +kernel
theorem dX8_keyOf_12 : decode cX8_keyOf 12 = .ok (.iload_n 2, 1) := by decide +kernel
theorem dX8_keyOf_13 : decode cX8_keyOf 13 = .ok (.iload_n 1, 1) := by decide +kernel
theorem dX8_keyOf_14 : decode cX8_keyOf 14 = .ok (.isub, 1) := by decide +kernel
theorem dX8_keyOf_15 : decode cX8_keyOf 15 = .ok (.iconst 2, 1) := by decide +kernel
theorem dX8_keyOf_16 : decode cX8_keyOf 16 = .ok (.if_icmp .lt 37, 3) := by decide +kernel
theorem dX8_keyOf_19 : decode cX8_keyOf 19 = .ok (.aload_n 0, 1) := by decide +kernel
theorem dX8_keyOf_20 : decode cX8_keyOf 20 = .ok (.getfield 7, 3) := by decide +kernel
theorem dX8_keyOf_23 : decode cX8_keyOf 23 = .ok (.iload_n 1, 1) := by decide +kernel
theorem dX8_keyOf_24 : decode cX8_keyOf 24 = .ok (.caload, 1) := by decide +kernel
theorem dX8_keyOf_25 : decode cX8_keyOf 25 = .ok (.aload_n 0, 1) := by decide +kernel
theorem dX8_keyOf_26 : decode cX8_keyOf 26 = .ok (.getfield 13, 3) := by decide +kernel
theorem dX8_keyOf_29 : decode cX8_keyOf 29 = .ok (.iload 4, 2) := by decide +kernel
theorem dX8_keyOf_31 : decode cX8_keyOf 31 = .ok (.caload, 1) := by decide +kernel
theorem dX8_keyOf_32 : decode cX8_keyOf 32 = .ok (.if_icmp .ne 21, 3) := by decide +kernel
theorem dX8_keyOf_35 : decode cX8_keyOf 35 = .ok (.aload_n 0, 1) := by decide +kernel
theorem dX8_keyOf_36 : decode cX8_keyOf 36 = .ok (.getfield 7, 3) := by decide +kernel
theorem dX8_keyOf_39 : decode cX8_keyOf 39 = .ok (.iload_n 1, 1) := by decide +kernel
theorem dX8_keyOf_40 : decode cX8_keyOf 40 = .ok (.iconst 1, 1) := by decide +kernel
theorem dX8_keyOf_41 : decode cX8_keyOf 41 = .ok (.iadd, 1) := by decide +kernel
theorem dX8_keyOf_42 : decode cX8_keyOf 42 = .ok (.caload, 1) := by decide +kernel
theorem dX8_keyOf_43 : decode cX8_keyOf 43 = .ok (.bipush 61, 2) := by decide +kernel
theorem dX8_keyOf_45 : decode cX8_keyOf 45 = .ok (.if_icmp .ne 8, 3) := by decide +kernel
theorem dX8_keyOf_48 : decode cX8_keyOf 48 = .ok (.iload 4, 2) := by decide +kernel
theorem dX8_keyOf_50 : decode cX8_keyOf 50 = .ok (.goto 4, 3) := by decide +kernel
theorem dX8_keyOf_53 : decode cX8_keyOf 53 = .ok (.iload_n 3, 1) := by decide +kernel
theorem dX8_keyOf_54 : decode cX8_keyOf 54 = .ok (.istore_n 3, 1) := by decide +kernel
theorem dX8_keyOf_55 : decode cX8_keyOf 55 = .ok (.iinc 4 1, 3) := by decide +kernel
theorem dX8_keyOf_58 : decode cX8_keyOf 58 = .ok (.goto (-53), 3) := by decide +kernel
theorem dX8_keyOf_61 : decode cX8_keyOf 61 = .ok (.iload_n 3, 1) := by decide +kernel
theorem dX8_keyOf_62 : decode cX8_keyOf 62 = .ok (.ireturn, 1) := by decide +kernel
theorem dX8_fails_0 : decode cX8_fails 0 = .ok (.aload_n 0, 1) := by decide +kernel
theorem dX8_fails_1 : decode cX8_fails 1 = .ok (.getfield 138, 3) := by decide +kernel
theorem dX8_fails_4 : decode cX8_fails 4 = .ok (.ifCond .ne 13, 3) := by decide +kernel
theorem dX8_fails_7 : decode cX8_fails 7 = .ok (.aload_n 0, 1) := by decide +kernel
theorem dX8_fails_8 : decode cX8_fails 8 = .ok (.iload_n 1, 1) := by decide +kernel
theorem dX8_fails_9 : decode cX8_fails 9 = .ok (.putfield 138, 3) := by decide +kernel
theorem dX8_fails_12 : decode cX8_fails 12 = .ok (.aload_n 0, 1) := by decide +kernel
theorem dX8_fails_13 : decode cX8_fails 13 = .ok (.iload_n 2, 1) := by decide +kernel
theorem dX8_fails_14 : decode cX8_fails 14 = .ok (.putfield 141, 3) := by decide +kernel
theorem dX8_fails_17 : decode cX8_fails 17 = .ok (.return_, 1) := by decide +kernel
theorem dX8_readPart_0 : decode cX8_readPart 0 = .ok (.aload_n 0, 1) := by decide +kernel
theorem dX8_readPart_1 : decode cX8_readPart 1 = .ok (.iload_n 2, 1) := by decide +kernel
theorem dX8_readPart_2 : decode cX8_readPart 2 = .ok (.iload_n 3, 1) := by decide +kernel
theorem dX8_readPart_3 : decode cX8_readPart 3 = .ok (.invokevirtual 144, 3) := by decide +kernel
theorem dX8_readPart_6 : decode cX8_readPart 6 = .ok (.istore 4, 2) := by decide +kernel
theorem dX8_readPart_8 : decode cX8_readPart 8 = .ok (.iload 4, 2) := by decide +kernel
theorem dX8_readPart_10 : decode cX8_readPart 10 = .ok (.iconst (-1), 1) := by decide +kernel
theorem dX8_readPart_11 : decode cX8_readPart 11 = .ok (.if_icmp .ne 12, 3) := by decide +kernel
theorem dX8_readPart_14 : decode cX8_readPart 14 = .ok (.aload_n 0, 1) := by decide +kernel
theorem dX8_readPart_15 : decode cX8_readPart 15 = .ok (.iconst 1, 1) := by decide +kernel
theorem dX8_readPart_16 : decode cX8_readPart 16 = .ok (.iload_n 1, 1) := by decide +kernel
theorem dX8_readPart_17 : decode cX8_readPart 17 = .ok (.invokevirtual 148, 3) := by decide +kernel
theorem dX8_readPart_20 : decode cX8_readPart 20 = .ok (.goto 59, 3) := by decide +kernel
theorem dX8_readPart_23 : decode cX8_readPart 23 = .ok (.aload_n 0, 1) := by decide +kernel
theorem dX8_readPart_24 : decode cX8_readPart 24 = .ok (.getfield 19, 3) := by decide +kernel
theorem dX8_readPart_27 : decode cX8_readPart 27 = .ok (.iload 4, 2) := by decide +kernel
theorem dX8_readPart_29 : decode cX8_readPart 29 = .ok (.iaload, 1) := by decide +kernel
theorem dX8_readPart_30 : decode cX8_readPart 30 = .ok (.iconst (-1), 1) := by decide +kernel
theorem dX8_readPart_31 : decode cX8_readPart 31 = .ok (.if_icmp .eq 13, 3) := by decide +kernel
theorem dX8_readPart_34 : decode cX8_readPart 34 = .ok (.aload_n 0, 1) := by decide +kernel
theorem dX8_readPart_35 : decode cX8_readPart 35 = .ok (.iconst 2, 1) := by decide +kernel
theorem dX8_readPart_36 : decode cX8_readPart 36 = .ok (.iload 4, 2) := by decide +kernel
theorem dX8_readPart_38 : decode cX8_readPart 38 = .ok (.invokevirtual 148, 3) := by decide +kernel
theorem dX8_readPart_41 : decode cX8_readPart 41 = .ok (.goto 38, 3) := by decide +kernel
theorem dX8_readPart_44 : decode cX8_readPart 44 = .ok (.aload_n 0, 1) := by decide +kernel
theorem dX8_readPart_45 : decode cX8_readPart 45 = .ok (.getfield 19, 3) := by decide +kernel
theorem dX8_readPart_48 : decode cX8_readPart 48 = .ok (.iload 4, 2) := by decide +kernel
theorem dX8_readPart_50 : decode cX8_readPart 50 = .ok (.aload_n 0, 1) := by decide +kernel
theorem dX8_readPart_51 : decode cX8_readPart 51 = .ok (.iload 4, 2) := by decide +kernel
theorem dX8_readPart_53 : decode cX8_readPart 53 = .ok (.iload_n 2, 1) := by decide +kernel
theorem dX8_readPart_54 : decode cX8_readPart 54 = .ok (.iconst 2, 1) := by decide +kernel
theorem dX8_readPart_55 : decode cX8_readPart 55 = .ok (.iadd, 1) := by decide +kernel
theorem dX8_readPart_56 : decode cX8_readPart 56 = .ok (.iload_n 3, 1) := by decide +kernel
theorem dX8_readPart_57 : decode cX8_readPart 57 = .ok (.invokevirtual 151, 3) := by decide +kernel
theorem dX8_readPart_60 : decode cX8_readPart 60 = .ok (.iastore, 1) := by decide +kernel
theorem dX8_readPart_61 : decode cX8_readPart 61 = .ok (.aload_n 0, 1) := by decide +kernel
theorem dX8_readPart_62 : decode cX8_readPart 62 = .ok (.getfield 19, 3) := by decide +kernel
theorem dX8_readPart_65 : decode cX8_readPart 65 = .ok (.iload 4, 2) := by decide +kernel
theorem dX8_readPart_67 : decode cX8_readPart 67 = .ok (.iaload, 1) := by decide +kernel
theorem dX8_readPart_68 : decode cX8_readPart 68 = .ok (.iconst (-1), 1) := by decide +kernel
theorem dX8_readPart_69 : decode cX8_readPart 69 = .ok (.if_icmp .ne 10, 3) := by decide +kernel
theorem dX8_readPart_72 : decode cX8_readPart 72 = .ok (.aload_n 0, 1) := by decide +kernel
theorem dX8_readPart_73 : decode cX8_readPart 73 = .ok (.iconst 3, 1) := by decide +kernel
theorem dX8_readPart_74 : decode cX8_readPart 74 = .ok (.iload 4, 2) := by decide +kernel
theorem dX8_readPart_76 : decode cX8_readPart 76 = .ok (.invokevirtual 148, 3) := by decide +kernel
theorem dX8_readPart_79 : decode cX8_readPart 79 = .ok (.return_, 1) := by decide +kernel
theorem dX8_reads_0 : decode cX8_reads 0 = .ok (.aload_n 0, 1) := by decide +kernel
theorem dX8_reads_1 : decode cX8_reads 1 = .ok (.iconst 0, 1) := by decide +kernel
theorem dX8_reads_2 : decode cX8_reads 2 = .ok (.putfield 138, 3) := by decide +kernel
theorem dX8_reads_5 : decode cX8_reads 5 = .ok (.iconst 0, 1) := by decide +kernel
theorem dX8_reads_6 : decode cX8_reads 6 = .ok (.istore_n 1, 1) := by decide +kernel
theorem dX8_reads_7 : decode cX8_reads 7 = .ok (.iload_n 1, 1) := by decide +kernel
theorem dX8_reads_8 : decode cX8_reads 8 = .ok (.bipush 6, 2) := by decide +kernel
theorem dX8_reads_10 : decode cX8_reads 10 = .ok (.if_icmp .ge 16, 3) := by decide +kernel
theorem dX8_reads_13 : decode cX8_reads 13 = .ok (.aload_n 0, 1) := by decide +kernel
theorem dX8_reads_14 : decode cX8_reads 14 = .ok (.getfield 19, 3) := by decide +kernel
theorem dX8_reads_17 : decode cX8_reads 17 = .ok (.iload_n 1, 1) := by decide +kernel
theorem dX8_reads_18 : decode cX8_reads 18 = .ok (.iconst (-1), 1) := by decide +kernel
theorem dX8_reads_19 : decode cX8_reads 19 = .ok (.iastore, 1) := by decide +kernel
theorem dX8_reads_20 : decode cX8_reads 20 = .ok (.iinc 1 1, 3) := by decide +kernel
theorem dX8_reads_23 : decode cX8_reads 23 = .ok (.goto (-16), 3) := by decide +kernel
theorem dX8_reads_26 : decode cX8_reads 26 = .ok (.iconst 0, 1) := by decide +kernel
theorem dX8_reads_27 : decode cX8_reads 27 = .ok (.istore_n 1, 1) := by decide +kernel
theorem dX8_reads_28 : decode cX8_reads 28 = .ok (.iconst 0, 1) := by decide +kernel
theorem dX8_reads_29 : decode cX8_reads 29 = .ok (.istore_n 2, 1) := by decide +kernel
theorem dX8_reads_30 : decode cX8_reads 30 = .ok (.iload_n 2, 1) := by decide +kernel
theorem dX8_reads_31 : decode cX8_reads 31 = .ok (.aload_n 0, 1) := by decide +kernel
theorem dX8_reads_32 : decode cX8_reads 32 = .ok (.getfield 131, 3) := by decide +kernel
theorem dX8_reads_35 : decode cX8_reads 35 = .ok (.if_icmp .gt 54, 3) := by decide +kernel
theorem dX8_reads_38 : decode cX8_reads 38 = .ok (.aload_n 0, 1) := by decide +kernel
theorem dX8_reads_39 : decode cX8_reads 39 = .ok (.getfield 138, 3) := by decide +kernel
theorem dX8_reads_42 : decode cX8_reads 42 = .ok (.ifCond .ne 47, 3) := by decide +kernel
theorem dX8_reads_45 : decode cX8_reads 45 = .ok (.iload_n 2, 1) := by decide +kernel
theorem dX8_reads_46 : decode cX8_reads 46 = .ok (.istore_n 3, 1) := by decide +kernel
theorem dX8_reads_47 : decode cX8_reads 47 = .ok (.iload_n 3, 1) := by decide +kernel
theorem dX8_reads_48 : decode cX8_reads 48 = .ok (.aload_n 0, 1) := by decide +kernel
theorem dX8_reads_49 : decode cX8_reads 49 = .ok (.getfield 131, 3) := by decide +kernel
theorem dX8_reads_52 : decode cX8_reads 52 = .ok (.if_icmp .ge 20, 3) := by decide +kernel
theorem dX8_reads_55 : decode cX8_reads 55 = .ok (.aload_n 0, 1) := by decide +kernel
theorem dX8_reads_56 : decode cX8_reads 56 = .ok (.getfield 7, 3) := by decide +kernel
theorem dX8_reads_59 : decode cX8_reads 59 = .ok (.iload_n 3, 1) := by decide +kernel
theorem dX8_reads_60 : decode cX8_reads 60 = .ok (.caload, 1) := by decide +kernel
theorem dX8_reads_61 : decode cX8_reads 61 = .ok (.bipush 59, 2) := by decide +kernel
theorem dX8_reads_63 : decode cX8_reads 63 = .ok (.if_icmp .eq 9, 3) := by decide +kernel
theorem dX8_reads_66 : decode cX8_reads 66 = .ok (.iinc 3 1, 3) := by decide +kernel
theorem dX8_reads_69 : decode cX8_reads 69 = .ok (.goto (-22), 3) := by decide +kernel
theorem dX8_reads_72 : decode cX8_reads 72 = .ok (.aload_n 0, 1) := by decide +kernel
theorem dX8_reads_73 : decode cX8_reads 73 = .ok (.iload_n 1, 1) := by decide +kernel
theorem dX8_reads_74 : decode cX8_reads 74 = .ok (.iload_n 2, 1) := by decide +kernel
theorem dX8_reads_75 : decode cX8_reads 75 = .ok (.iload_n 3, 1) := by decide +kernel
theorem dX8_reads_76 : decode cX8_reads 76 = .ok (.invokevirtual 154, 3) := by decide +kernel
theorem dX8_reads_79 : decode cX8_reads 79 = .ok (.iinc 1 1, 3) := by decide +kernel
theorem dX8_reads_82 : decode cX8_reads 82 = .ok (.iload_n 3, 1) := by decide +kernel
theorem dX8_reads_83 : decode cX8_reads 83 = .ok (.iconst 1, 1) := by decide +kernel
theorem dX8_reads_84 : decode cX8_reads 84 = .ok (.iadd, 1) := by decide +kernel
theorem dX8_reads_85 : decode cX8_reads 85 = .ok (.istore_n 2, 1) := by decide +kernel
theorem dX8_reads_86 : decode cX8_reads 86 = .ok (.goto (-56), 3) := by decide +kernel
theorem dX8_reads_89 : decode cX8_reads 89 = .ok (.iconst 0, 1) := by decide +kernel
theorem dX8_reads_90 : decode cX8_reads 90 = .ok (.istore_n 3, 1) := by decide +kernel
theorem dX8_reads_91 : decode cX8_reads 91 = .ok (.iload_n 3, 1) := by decide +kernel
theorem dX8_reads_92 : decode cX8_reads 92 = .ok (.iconst 5, 1) := by decide +kernel
theorem dX8_reads_93 : decode cX8_reads 93 = .ok (.if_icmp .ge 25, 3) := by decide +kernel
theorem dX8_reads_96 : decode cX8_reads 96 = .ok (.aload_n 0, 1) := by decide +kernel
theorem dX8_reads_97 : decode cX8_reads 97 = .ok (.getfield 19, 3) := by decide +kernel
theorem dX8_reads_100 : decode cX8_reads 100 = .ok (.iload_n 3, 1) := by decide +kernel
theorem dX8_reads_101 : decode cX8_reads 101 = .ok (.iaload, 1) := by decide +kernel
theorem dX8_reads_102 : decode cX8_reads 102 = .ok (.iconst (-1), 1) := by decide +kernel
theorem dX8_reads_103 : decode cX8_reads 103 = .ok (.if_icmp .ne 9, 3) := by decide +kernel
theorem dX8_reads_106 : decode cX8_reads 106 = .ok (.aload_n 0, 1) := by decide +kernel
theorem dX8_reads_107 : decode cX8_reads 107 = .ok (.iconst 4, 1) := by decide +kernel
theorem dX8_reads_108 : decode cX8_reads 108 = .ok (.iload_n 3, 1) := by decide +kernel
theorem dX8_reads_109 : decode cX8_reads 109 = .ok (.invokevirtual 148, 3) := by decide +kernel
theorem dX8_reads_112 : decode cX8_reads 112 = .ok (.iinc 3 1, 3) := by decide +kernel
theorem dX8_reads_115 : decode cX8_reads 115 = .ok (.goto (-24), 3) := by decide +kernel
theorem dX8_reads_118 : decode cX8_reads 118 = .ok (.aload_n 0, 1) := by decide +kernel
theorem dX8_reads_119 : decode cX8_reads 119 = .ok (.getfield 138, 3) := by decide +kernel
theorem dX8_reads_122 : decode cX8_reads 122 = .ok (.ifCond .ne 7, 3) := by decide +kernel
theorem dX8_reads_125 : decode cX8_reads 125 = .ok (.iconst 1, 1) := by decide +kernel
theorem dX8_reads_126 : decode cX8_reads 126 = .ok (.goto 4, 3) := by decide +kernel
theorem dX8_reads_129 : decode cX8_reads 129 = .ok (.iconst 0, 1) := by decide +kernel
theorem dX8_reads_130 : decode cX8_reads 130 = .ok (.ireturn, 1) := by decide +kernel
theorem dX8_tells_0 : decode cX8_tells 0 = .ok (.aload_n 0, 1) := by decide +kernel
theorem dX8_tells_1 : decode cX8_tells 1 = .ok (.iconst 0, 1) := by decide +kernel
theorem dX8_tells_2 : decode cX8_tells 2 = .ok (.putfield 158, 3) := by decide +kernel
theorem dX8_tells_5 : decode cX8_tells 5 = .ok (.aload_n 0, 1) := by decide +kernel
theorem dX8_tells_6 : decode cX8_tells 6 = .ok (.invokevirtual 161, 3) := by decide +kernel
theorem dX8_tells_9 : decode cX8_tells 9 = .ok (.ifCond .eq 4, 3) := by decide +kernel
theorem dX8_tells_12 : decode cX8_tells 12 = .ok (.return_, 1) := by decide +kernel
theorem dX8_tells_13 : decode cX8_tells 13 = .ok (.aload_n 0, 1) := by decide +kernel
theorem dX8_tells_14 : decode cX8_tells 14 = .ok (.getfield 138, 3) := by decide +kernel
theorem dX8_tells_17 : decode cX8_tells 17 = .ok (.iconst 1, 1) := by decide +kernel
theorem dX8_tells_18 : decode cX8_tells 18 = .ok (.if_icmp .ne 7, 3) := by decide +kernel
theorem dX8_tells_21 : decode cX8_tells 21 = .ok (.iconst 0, 1) := by decide +kernel
theorem dX8_tells_22 : decode cX8_tells 22 = .ok (.goto 31, 3) := by decide +kernel
theorem dX8_tells_25 : decode cX8_tells 25 = .ok (.aload_n 0, 1) := by decide +kernel
theorem dX8_tells_26 : decode cX8_tells 26 = .ok (.getfield 138, 3) := by decide +kernel
theorem dX8_tells_29 : decode cX8_tells 29 = .ok (.iconst 2, 1) := by decide +kernel
theorem dX8_tells_30 : decode cX8_tells 30 = .ok (.if_icmp .ne 8, 3) := by decide +kernel
theorem dX8_tells_33 : decode cX8_tells 33 = .ok (.bipush 7, 2) := by decide +kernel
theorem dX8_tells_35 : decode cX8_tells 35 = .ok (.goto 18, 3) := by decide +kernel
theorem dX8_tells_38 : decode cX8_tells 38 = .ok (.aload_n 0, 1) := by decide +kernel
theorem dX8_tells_39 : decode cX8_tells 39 = .ok (.getfield 138, 3) := by decide +kernel
theorem dX8_tells_42 : decode cX8_tells 42 = .ok (.iconst 3, 1) := by decide +kernel
theorem dX8_tells_43 : decode cX8_tells 43 = .ok (.if_icmp .ne 8, 3) := by decide +kernel
theorem dX8_tells_46 : decode cX8_tells 46 = .ok (.bipush 14, 2) := by decide +kernel
theorem dX8_tells_48 : decode cX8_tells 48 = .ok (.goto 5, 3) := by decide +kernel
theorem dX8_tells_51 : decode cX8_tells 51 = .ok (.bipush 17, 2) := by decide +kernel
theorem dX8_tells_53 : decode cX8_tells 53 = .ok (.istore_n 1, 1) := by decide +kernel
theorem dX8_tells_54 : decode cX8_tells 54 = .ok (.aload_n 0, 1) := by decide +kernel
theorem dX8_tells_55 : decode cX8_tells 55 = .ok (.getfield 138, 3) := by decide +kernel
theorem dX8_tells_58 : decode cX8_tells 58 = .ok (.iconst 1, 1) := by decide +kernel
theorem dX8_tells_59 : decode cX8_tells 59 = .ok (.if_icmp .ne 8, 3) := by decide +kernel
theorem dX8_tells_62 : decode cX8_tells 62 = .ok (.bipush 7, 2) := by decide +kernel
theorem dX8_tells_64 : decode cX8_tells 64 = .ok (.goto 31, 3) := by decide +kernel
theorem dX8_tells_67 : decode cX8_tells 67 = .ok (.aload_n 0, 1) := by decide +kernel
theorem dX8_tells_68 : decode cX8_tells 68 = .ok (.getfield 138, 3) := by decide +kernel
theorem dX8_tells_71 : decode cX8_tells 71 = .ok (.iconst 2, 1) := by decide +kernel
theorem dX8_tells_72 : decode cX8_tells 72 = .ok (.if_icmp .ne 8, 3) := by decide +kernel
theorem dX8_tells_75 : decode cX8_tells 75 = .ok (.bipush 14, 2) := by decide +kernel
theorem dX8_tells_77 : decode cX8_tells 77 = .ok (.goto 18, 3) := by decide +kernel
theorem dX8_tells_80 : decode cX8_tells 80 = .ok (.aload_n 0, 1) := by decide +kernel
theorem dX8_tells_81 : decode cX8_tells 81 = .ok (.getfield 138, 3) := by decide +kernel
theorem dX8_tells_84 : decode cX8_tells 84 = .ok (.iconst 3, 1) := by decide +kernel
theorem dX8_tells_85 : decode cX8_tells 85 = .ok (.if_icmp .ne 8, 3) := by decide +kernel
theorem dX8_tells_88 : decode cX8_tells 88 = .ok (.bipush 17, 2) := by decide +kernel
theorem dX8_tells_90 : decode cX8_tells 90 = .ok (.goto 5, 3) := by decide +kernel
theorem dX8_tells_93 : decode cX8_tells 93 = .ok (.bipush 24, 2) := by decide +kernel
theorem dX8_tells_95 : decode cX8_tells 95 = .ok (.istore_n 2, 1) := by decide +kernel
theorem dX8_tells_96 : decode cX8_tells 96 = .ok (.iload_n 1, 1) := by decide +kernel
theorem dX8_tells_97 : decode cX8_tells 97 = .ok (.istore_n 3, 1) := by decide +kernel
theorem dX8_tells_98 : decode cX8_tells 98 = .ok (.iload_n 3, 1) := by decide +kernel
theorem dX8_tells_99 : decode cX8_tells 99 = .ok (.iload_n 2, 1) := by decide +kernel
theorem dX8_tells_100 : decode cX8_tells 100 = .ok (.if_icmp .ge 34, 3) := by decide +kernel
theorem dX8_tells_103 : decode cX8_tells 103 = .ok (.aload_n 0, 1) := by decide +kernel
theorem dX8_tells_104 : decode cX8_tells 104 = .ok (.getfield 23, 3) := by decide +kernel
theorem dX8_tells_107 : decode cX8_tells 107 = .ok (.aload_n 0, 1) := by decide +kernel
theorem dX8_tells_108 : decode cX8_tells 108 = .ok (.getfield 158, 3) := by decide +kernel
theorem dX8_tells_111 : decode cX8_tells 111 = .ok (.aload_n 0, 1) := by decide +kernel
theorem dX8_tells_112 : decode cX8_tells 112 = .ok (.getfield 16, 3) := by decide +kernel
theorem dX8_tells_115 : decode cX8_tells 115 = .ok (.iload_n 3, 1) := by decide +kernel
theorem dX8_tells_116 : decode cX8_tells 116 = .ok (.caload, 1) := by decide +kernel
theorem dX8_tells_117 : decode cX8_tells 117 = .ok (.castore, 1) := by decide +kernel
theorem dX8_tells_118 : decode cX8_tells 118 = .ok (.aload_n 0, 1) := by decide +kernel
theorem dX8_tells_119 : decode cX8_tells 119 = .ok (.dup, 1) := by decide +kernel
theorem dX8_tells_120 : decode cX8_tells 120 = .ok (.getfield 158, 3) := by decide +kernel
theorem dX8_tells_123 : decode cX8_tells 123 = .ok (.iconst 1, 1) := by decide +kernel
theorem dX8_tells_124 : decode cX8_tells 124 = .ok (.iadd, 1) := by decide +kernel
theorem dX8_tells_125 : decode cX8_tells 125 = .ok (.putfield 158, 3) := by decide +kernel
theorem dX8_tells_128 : decode cX8_tells 128 = .ok (.iinc 3 1, 3) := by decide +kernel
theorem dX8_tells_131 : decode cX8_tells 131 = .ok (.goto (-33), 3) := by decide +kernel
theorem dX8_tells_134 : decode cX8_tells 134 = .ok (.aload_n 0, 1) := by decide +kernel
theorem dX8_tells_135 : decode cX8_tells 135 = .ok (.getfield 23, 3) := by decide +kernel
theorem dX8_tells_138 : decode cX8_tells 138 = .ok (.aload_n 0, 1) := by decide +kernel
theorem dX8_tells_139 : decode cX8_tells 139 = .ok (.getfield 158, 3) := by decide +kernel
theorem dX8_tells_142 : decode cX8_tells 142 = .ok (.bipush 32, 2) := by decide +kernel
theorem dX8_tells_144 : decode cX8_tells 144 = .ok (.castore, 1) := by decide +kernel
theorem dX8_tells_145 : decode cX8_tells 145 = .ok (.aload_n 0, 1) := by decide +kernel
theorem dX8_tells_146 : decode cX8_tells 146 = .ok (.dup, 1) := by decide +kernel
theorem dX8_tells_147 : decode cX8_tells 147 = .ok (.getfield 158, 3) := by decide +kernel
theorem dX8_tells_150 : decode cX8_tells 150 = .ok (.iconst 1, 1) := by decide +kernel
theorem dX8_tells_151 : decode cX8_tells 151 = .ok (.iadd, 1) := by decide +kernel
theorem dX8_tells_152 : decode cX8_tells 152 = .ok (.putfield 158, 3) := by decide +kernel
theorem dX8_tells_155 : decode cX8_tells 155 = .ok (.aload_n 0, 1) := by decide +kernel
theorem dX8_tells_156 : decode cX8_tells 156 = .ok (.getfield 138, 3) := by decide +kernel
theorem dX8_tells_159 : decode cX8_tells 159 = .ok (.iconst 1, 1) := by decide +kernel
theorem dX8_tells_160 : decode cX8_tells 160 = .ok (.if_icmp .ne 42, 3) := by decide +kernel
theorem dX8_tells_163 : decode cX8_tells 163 = .ok (.aload_n 0, 1) := by decide +kernel
theorem dX8_tells_164 : decode cX8_tells 164 = .ok (.getfield 141, 3) := by decide +kernel
theorem dX8_tells_167 : decode cX8_tells 167 = .ok (.bipush 9, 2) := by decide +kernel
theorem dX8_tells_169 : decode cX8_tells 169 = .ok (.if_icmp .le 33, 3) := by decide +kernel
theorem dX8_tells_172 : decode cX8_tells 172 = .ok (.aload_n 0, 1) := by decide +kernel
theorem dX8_tells_173 : decode cX8_tells 173 = .ok (.getfield 23, 3) := by decide +kernel
theorem dX8_tells_176 : decode cX8_tells 176 = .ok (.aload_n 0, 1) := by decide +kernel
theorem dX8_tells_177 : decode cX8_tells 177 = .ok (.getfield 158, 3) := by decide +kernel
theorem dX8_tells_180 : decode cX8_tells 180 = .ok (.bipush 48, 2) := by decide +kernel
theorem dX8_tells_182 : decode cX8_tells 182 = .ok (.aload_n 0, 1) := by decide +kernel
theorem dX8_tells_183 : decode cX8_tells 183 = .ok (.getfield 141, 3) := by decide +kernel
theorem dX8_tells_186 : decode cX8_tells 186 = .ok (.bipush 10, 2) := by decide +kernel
theorem dX8_tells_188 : decode cX8_tells 188 = .ok (.idiv, 1) := by decide +kernel
theorem dX8_tells_189 : decode cX8_tells 189 = .ok (.iadd, 1) := by decide +kernel
theorem dX8_tells_190 : decode cX8_tells 190 = .ok (.i2c, 1) := by decide +kernel
theorem dX8_tells_191 : decode cX8_tells 191 = .ok (.castore, 1) := by decide +kernel
theorem dX8_tells_192 : decode cX8_tells 192 = .ok (.aload_n 0, 1) := by decide +kernel
theorem dX8_tells_193 : decode cX8_tells 193 = .ok (.dup, 1) := by decide +kernel
theorem dX8_tells_194 : decode cX8_tells 194 = .ok (.getfield 158, 3) := by decide +kernel
theorem dX8_tells_197 : decode cX8_tells 197 = .ok (.iconst 1, 1) := by decide +kernel
theorem dX8_tells_198 : decode cX8_tells 198 = .ok (.iadd, 1) := by decide +kernel
theorem dX8_tells_199 : decode cX8_tells 199 = .ok (.putfield 158, 3) := by decide +kernel
theorem dX8_tells_202 : decode cX8_tells 202 = .ok (.aload_n 0, 1) := by decide +kernel
theorem dX8_tells_203 : decode cX8_tells 203 = .ok (.getfield 23, 3) := by decide +kernel
theorem dX8_tells_206 : decode cX8_tells 206 = .ok (.aload_n 0, 1) := by decide +kernel
theorem dX8_tells_207 : decode cX8_tells 207 = .ok (.getfield 158, 3) := by decide +kernel
theorem dX8_tells_210 : decode cX8_tells 210 = .ok (.aload_n 0, 1) := by decide +kernel
theorem dX8_tells_211 : decode cX8_tells 211 = .ok (.getfield 138, 3) := by decide +kernel
theorem dX8_tells_214 : decode cX8_tells 214 = .ok (.iconst 1, 1) := by decide +kernel
theorem dX8_tells_215 : decode cX8_tells 215 = .ok (.if_icmp .ne 17, 3) := by decide +kernel
theorem dX8_tells_218 : decode cX8_tells 218 = .ok (.bipush 48, 2) := by decide +kernel
theorem dX8_tells_220 : decode cX8_tells 220 = .ok (.aload_n 0, 1) := by decide +kernel
theorem dX8_tells_221 : decode cX8_tells 221 = .ok (.getfield 141, 3) := by decide +kernel
theorem dX8_tells_224 : decode cX8_tells 224 = .ok (.bipush 10, 2) := by decide +kernel
theorem dX8_tells_226 : decode cX8_tells 226 = .ok (.irem, 1) := by decide +kernel
theorem dX8_tells_227 : decode cX8_tells 227 = .ok (.iadd, 1) := by decide +kernel
theorem dX8_tells_228 : decode cX8_tells 228 = .ok (.i2c, 1) := by decide +kernel
theorem dX8_tells_229 : decode cX8_tells 229 = .ok (.goto 12, 3) := by decide +kernel
theorem dX8_tells_232 : decode cX8_tells 232 = .ok (.aload_n 0, 1) := by decide +kernel
theorem dX8_tells_233 : decode cX8_tells 233 = .ok (.getfield 13, 3) := by decide +kernel
theorem dX8_tells_236 : decode cX8_tells 236 = .ok (.aload_n 0, 1) := by decide +kernel
theorem dX8_tells_237 : decode cX8_tells 237 = .ok (.getfield 141, 3) := by decide +kernel
theorem dX8_tells_240 : decode cX8_tells 240 = .ok (.caload, 1) := by decide +kernel
theorem dX8_tells_241 : decode cX8_tells 241 = .ok (.castore, 1) := by decide +kernel
theorem dX8_tells_242 : decode cX8_tells 242 = .ok (.aload_n 0, 1) := by decide +kernel
theorem dX8_tells_243 : decode cX8_tells 243 = .ok (.dup, 1) := by decide +kernel
theorem dX8_tells_244 : decode cX8_tells 244 = .ok (.getfield 158, 3) := by decide +kernel
theorem dX8_tells_247 : decode cX8_tells 247 = .ok (.iconst 1, 1) := by decide +kernel
theorem dX8_tells_248 : decode cX8_tells 248 = .ok (.iadd, 1) := by decide +kernel
theorem dX8_tells_249 : decode cX8_tells 249 = .ok (.putfield 158, 3) := by decide +kernel
theorem dX8_tells_252 : decode cX8_tells 252 = .ok (.return_, 1) := by decide +kernel
theorem dX8_isRight_0 : decode cX8_isRight 0 = .ok (.aload_n 0, 1) := by decide +kernel
theorem dX8_isRight_1 : decode cX8_isRight 1 = .ok (.iconst 0, 1) := by decide +kernel
theorem dX8_isRight_2 : decode cX8_isRight 2 = .ok (.putfield 123, 3) := by decide +kernel
theorem dX8_isRight_5 : decode cX8_isRight 5 = .ok (.aload_n 0, 1) := by decide +kernel
theorem dX8_isRight_6 : decode cX8_isRight 6 = .ok (.invokevirtual 161, 3) := by decide +kernel
theorem dX8_isRight_9 : decode cX8_isRight 9 = .ok (.ireturn, 1) := by decide +kernel
theorem dX8_faultLength_0 : decode cX8_faultLength 0 = .ok (.aload_n 0, 1) := by decide +kernel
theorem dX8_faultLength_1 : decode cX8_faultLength 1 = .ok (.iconst 0, 1) := by decide +kernel
theorem dX8_faultLength_2 : decode cX8_faultLength 2 = .ok (.putfield 123, 3) := by decide +kernel
theorem dX8_faultLength_5 : decode cX8_faultLength 5 = .ok (.aload_n 0, 1) := by decide +kernel
theorem dX8_faultLength_6 : decode cX8_faultLength 6 = .ok (.invokevirtual 165, 3) := by decide +kernel
theorem dX8_faultLength_9 : decode cX8_faultLength 9 = .ok (.aload_n 0, 1) := by decide +kernel
theorem dX8_faultLength_10 : decode cX8_faultLength 10 = .ok (.getfield 158, 3) := by decide +kernel
theorem dX8_faultLength_13 : decode cX8_faultLength 13 = .ok (.ireturn, 1) := by decide +kernel
theorem dX8_fault_0 : decode cX8_fault 0 = .ok (.aload_n 0, 1) := by decide +kernel
theorem dX8_fault_1 : decode cX8_fault 1 = .ok (.invokevirtual 165, 3) := by decide +kernel
theorem dX8_fault_4 : decode cX8_fault 4 = .ok (.aload_n 0, 1) := by decide +kernel
theorem dX8_fault_5 : decode cX8_fault 5 = .ok (.iload_n 1, 1) := by decide +kernel
theorem dX8_fault_6 : decode cX8_fault 6 = .ok (.iconst 0, 1) := by decide +kernel
theorem dX8_fault_7 : decode cX8_fault 7 = .ok (.aload_n 0, 1) := by decide +kernel
theorem dX8_fault_8 : decode cX8_fault 8 = .ok (.getfield 158, 3) := by decide +kernel
theorem dX8_fault_11 : decode cX8_fault 11 = .ok (.iconst 1, 1) := by decide +kernel
theorem dX8_fault_12 : decode cX8_fault 12 = .ok (.isub, 1) := by decide +kernel
theorem dX8_fault_13 : decode cX8_fault 13 = .ok (.invokestatic 127, 3) := by decide +kernel
theorem dX8_fault_16 : decode cX8_fault 16 = .ok (.ifCond .eq 7, 3) := by decide +kernel
theorem dX8_fault_19 : decode cX8_fault 19 = .ok (.iconst 0, 1) := by decide +kernel
theorem dX8_fault_20 : decode cX8_fault 20 = .ok (.goto 4, 3) := by decide +kernel
theorem dX8_fault_23 : decode cX8_fault 23 = .ok (.iconst 1, 1) := by decide +kernel
theorem dX8_fault_24 : decode cX8_fault 24 = .ok (.putfield 123, 3) := by decide +kernel
theorem dX8_fault_27 : decode cX8_fault 27 = .ok (.aload_n 0, 1) := by decide +kernel
theorem dX8_fault_28 : decode cX8_fault 28 = .ok (.getfield 123, 3) := by decide +kernel
theorem dX8_fault_31 : decode cX8_fault 31 = .ok (.ifCond .le 7, 3) := by decide +kernel
theorem dX8_fault_34 : decode cX8_fault 34 = .ok (.iconst 0, 1) := by decide +kernel
theorem dX8_fault_35 : decode cX8_fault 35 = .ok (.goto 9, 3) := by decide +kernel
theorem dX8_fault_38 : decode cX8_fault 38 = .ok (.aload_n 0, 1) := by decide +kernel
theorem dX8_fault_39 : decode cX8_fault 39 = .ok (.getfield 23, 3) := by decide +kernel
theorem dX8_fault_42 : decode cX8_fault 42 = .ok (.iload_n 1, 1) := by decide +kernel
theorem dX8_fault_43 : decode cX8_fault 43 = .ok (.caload, 1) := by decide +kernel
theorem dX8_fault_44 : decode cX8_fault 44 = .ok (.ireturn, 1) := by decide +kernel
theorem dX8_pass_0 : decode cX8_pass 0 = .ok (.aload_n 0, 1) := by decide +kernel
theorem dX8_pass_1 : decode cX8_pass 1 = .ok (.iload_n 1, 1) := by decide +kernel
theorem dX8_pass_2 : decode cX8_pass 2 = .ok (.iconst 1, 1) := by decide +kernel
theorem dX8_pass_3 : decode cX8_pass 3 = .ok (.sipush 500, 3) := by decide +kernel
theorem dX8_pass_6 : decode cX8_pass 6 = .ok (.invokestatic 127, 3) := by decide +kernel
theorem dX8_pass_9 : decode cX8_pass 9 = .ok (.ifCond .ne 7, 3) := by decide +kernel
theorem dX8_pass_12 : decode cX8_pass 12 = .ok (.iconst 1, 1) := by decide +kernel
theorem dX8_pass_13 : decode cX8_pass 13 = .ok (.goto 20, 3) := by decide +kernel
theorem dX8_pass_16 : decode cX8_pass 16 = .ok (.aload_n 0, 1) := by decide +kernel
theorem dX8_pass_17 : decode cX8_pass 17 = .ok (.getfield 168, 3) := by decide +kernel
theorem dX8_pass_20 : decode cX8_pass 20 = .ok (.iload_n 1, 1) := by decide +kernel
theorem dX8_pass_21 : decode cX8_pass 21 = .ok (.iadd, 1) := by decide +kernel
theorem dX8_pass_22 : decode cX8_pass 22 = .ok (.sipush 20000, 3) := by decide +kernel
theorem dX8_pass_25 : decode cX8_pass 25 = .ok (.if_icmp .le 7, 3) := by decide +kernel
theorem dX8_pass_28 : decode cX8_pass 28 = .ok (.iconst 2, 1) := by decide +kernel
theorem dX8_pass_29 : decode cX8_pass 29 = .ok (.goto 4, 3) := by decide +kernel
theorem dX8_pass_32 : decode cX8_pass 32 = .ok (.iconst 0, 1) := by decide +kernel
theorem dX8_pass_33 : decode cX8_pass 33 = .ok (.putfield 123, 3) := by decide +kernel
theorem dX8_pass_36 : decode cX8_pass 36 = .ok (.aload_n 0, 1) := by decide +kernel
theorem dX8_pass_37 : decode cX8_pass 37 = .ok (.dup, 1) := by decide +kernel
theorem dX8_pass_38 : decode cX8_pass 38 = .ok (.getfield 168, 3) := by decide +kernel
theorem dX8_pass_41 : decode cX8_pass 41 = .ok (.aload_n 0, 1) := by decide +kernel
theorem dX8_pass_42 : decode cX8_pass 42 = .ok (.getfield 123, 3) := by decide +kernel
theorem dX8_pass_45 : decode cX8_pass 45 = .ok (.ifCond .le 7, 3) := by decide +kernel
theorem dX8_pass_48 : decode cX8_pass 48 = .ok (.iconst 0, 1) := by decide +kernel
theorem dX8_pass_49 : decode cX8_pass 49 = .ok (.goto 4, 3) := by decide +kernel
theorem dX8_pass_52 : decode cX8_pass 52 = .ok (.iload_n 1, 1) := by decide +kernel
theorem dX8_pass_53 : decode cX8_pass 53 = .ok (.iadd, 1) := by decide +kernel
theorem dX8_pass_54 : decode cX8_pass 54 = .ok (.putfield 168, 3) := by decide +kernel
theorem dX8_pass_57 : decode cX8_pass 57 = .ok (.aload_n 0, 1) := by decide +kernel
theorem dX8_pass_58 : decode cX8_pass 58 = .ok (.getfield 168, 3) := by decide +kernel
theorem dX8_pass_61 : decode cX8_pass 61 = .ok (.ireturn, 1) := by decide +kernel
theorem dX8_isShipper_0 : decode cX8_isShipper 0 = .ok (.iload_n 0, 1) := by decide +kernel
theorem dX8_isShipper_1 : decode cX8_isShipper 1 = .ok (.iconst 0, 1) := by decide +kernel
theorem dX8_isShipper_2 : decode cX8_isShipper 2 = .ok (.iconst 5, 1) := by decide +kernel
theorem dX8_isShipper_3 : decode cX8_isShipper 3 = .ok (.invokestatic 127, 3) := by decide +kernel
theorem dX8_isShipper_6 : decode cX8_isShipper 6 = .ok (.ireturn, 1) := by decide +kernel
theorem dX8_isCarrier_0 : decode cX8_isCarrier 0 = .ok (.iload_n 0, 1) := by decide +kernel
theorem dX8_isCarrier_1 : decode cX8_isCarrier 1 = .ok (.iconst 0, 1) := by decide +kernel
theorem dX8_isCarrier_2 : decode cX8_isCarrier 2 = .ok (.iconst 3, 1) := by decide +kernel
theorem dX8_isCarrier_3 : decode cX8_isCarrier 3 = .ok (.invokestatic 127, 3) := by decide +kernel
theorem dX8_isCarrier_6 : decode cX8_isCarrier 6 = .ok (.ireturn, 1) := by decide +kernel
theorem dX8_quota_0 : decode cX8_quota 0 = .ok (.aload_n 0, 1) := by decide +kernel
theorem dX8_quota_1 : decode cX8_quota 1 = .ok (.iload_n 1, 1) := by decide +kernel
theorem dX8_quota_2 : decode cX8_quota 2 = .ok (.invokestatic 171, 3) := by decide +kernel
theorem dX8_quota_5 : decode cX8_quota 5 = .ok (.ifCond .ne 7, 3) := by decide +kernel
theorem dX8_quota_8 : decode cX8_quota 8 = .ok (.iconst 1, 1) := by decide +kernel
theorem dX8_quota_9 : decode cX8_quota 9 = .ok (.goto 29, 3) := by decide +kernel
theorem dX8_quota_12 : decode cX8_quota 12 = .ok (.iload_n 2, 1) := by decide +kernel
theorem dX8_quota_13 : decode cX8_quota 13 = .ok (.iconst 0, 1) := by decide +kernel
theorem dX8_quota_14 : decode cX8_quota 14 = .ok (.bipush 50, 2) := by decide +kernel
theorem dX8_quota_16 : decode cX8_quota 16 = .ok (.invokestatic 127, 3) := by decide +kernel
theorem dX8_quota_19 : decode cX8_quota 19 = .ok (.ifCond .eq 18, 3) := by decide +kernel
theorem dX8_quota_22 : decode cX8_quota 22 = .ok (.iload_n 3, 1) := by decide +kernel
theorem dX8_quota_23 : decode cX8_quota 23 = .ok (.iconst 1, 1) := by decide +kernel
theorem dX8_quota_24 : decode cX8_quota 24 = .ok (.sipush 1440, 3) := by decide +kernel
theorem dX8_quota_27 : decode cX8_quota 27 = .ok (.invokestatic 127, 3) := by decide +kernel
theorem dX8_quota_30 : decode cX8_quota 30 = .ok (.ifCond .eq 7, 3) := by decide +kernel
theorem dX8_quota_33 : decode cX8_quota 33 = .ok (.iconst 0, 1) := by decide +kernel
theorem dX8_quota_34 : decode cX8_quota 34 = .ok (.goto 4, 3) := by decide +kernel
theorem dX8_quota_37 : decode cX8_quota 37 = .ok (.iconst 2, 1) := by decide +kernel
theorem dX8_quota_38 : decode cX8_quota 38 = .ok (.putfield 123, 3) := by decide +kernel
theorem dX8_quota_41 : decode cX8_quota 41 = .ok (.aload_n 0, 1) := by decide +kernel
theorem dX8_quota_42 : decode cX8_quota 42 = .ok (.getfield 123, 3) := by decide +kernel
theorem dX8_quota_45 : decode cX8_quota 45 = .ok (.ifCond .le 5, 3) := by decide +kernel
theorem dX8_quota_48 : decode cX8_quota 48 = .ok (.iconst 0, 1) := by decide +kernel
theorem dX8_quota_49 : decode cX8_quota 49 = .ok (.ireturn, 1) := by decide +kernel
theorem dX8_quota_50 : decode cX8_quota 50 = .ok (.aload_n 0, 1) := by decide +kernel
theorem dX8_quota_51 : decode cX8_quota 51 = .ok (.getfield 26, 3) := by decide +kernel
theorem dX8_quota_54 : decode cX8_quota 54 = .ok (.iload_n 1, 1) := by decide +kernel
theorem dX8_quota_55 : decode cX8_quota 55 = .ok (.iaload, 1) := by decide +kernel
theorem dX8_quota_56 : decode cX8_quota 56 = .ok (.istore 4, 2) := by decide +kernel
theorem dX8_quota_58 : decode cX8_quota 58 = .ok (.aload_n 0, 1) := by decide +kernel
theorem dX8_quota_59 : decode cX8_quota 59 = .ok (.getfield 26, 3) := by decide +kernel
theorem dX8_quota_62 : decode cX8_quota 62 = .ok (.iload_n 1, 1) := by decide +kernel
theorem dX8_quota_63 : decode cX8_quota 63 = .ok (.iload_n 2, 1) := by decide +kernel
theorem dX8_quota_64 : decode cX8_quota 64 = .ok (.iastore, 1) := by decide +kernel
theorem dX8_quota_65 : decode cX8_quota 65 = .ok (.aload_n 0, 1) := by decide +kernel
theorem dX8_quota_66 : decode cX8_quota 66 = .ok (.getfield 29, 3) := by decide +kernel
theorem dX8_quota_69 : decode cX8_quota 69 = .ok (.iload_n 1, 1) := by decide +kernel
theorem dX8_quota_70 : decode cX8_quota 70 = .ok (.iload_n 3, 1) := by decide +kernel
theorem dX8_quota_71 : decode cX8_quota 71 = .ok (.iastore, 1) := by decide +kernel
theorem dX8_quota_72 : decode cX8_quota 72 = .ok (.iload 4, 2) := by decide +kernel
theorem dX8_quota_74 : decode cX8_quota 74 = .ok (.ireturn, 1) := by decide +kernel
theorem dX8_carrier_0 : decode cX8_carrier 0 = .ok (.aload_n 0, 1) := by decide +kernel
theorem dX8_carrier_1 : decode cX8_carrier 1 = .ok (.iload_n 1, 1) := by decide +kernel
theorem dX8_carrier_2 : decode cX8_carrier 2 = .ok (.invokestatic 175, 3) := by decide +kernel
theorem dX8_carrier_5 : decode cX8_carrier 5 = .ok (.ifCond .ne 7, 3) := by decide +kernel
theorem dX8_carrier_8 : decode cX8_carrier 8 = .ok (.iconst 1, 1) := by decide +kernel
theorem dX8_carrier_9 : decode cX8_carrier 9 = .ok (.goto 18, 3) := by decide +kernel
theorem dX8_carrier_12 : decode cX8_carrier 12 = .ok (.iload_n 3, 1) := by decide +kernel
theorem dX8_carrier_13 : decode cX8_carrier 13 = .ok (.iconst 0, 1) := by decide +kernel
theorem dX8_carrier_14 : decode cX8_carrier 14 = .ok (.bipush 10, 2) := by decide +kernel
theorem dX8_carrier_16 : decode cX8_carrier 16 = .ok (.invokestatic 127, 3) := by decide +kernel
theorem dX8_carrier_19 : decode cX8_carrier 19 = .ok (.ifCond .eq 7, 3) := by decide +kernel
theorem dX8_carrier_22 : decode cX8_carrier 22 = .ok (.iconst 0, 1) := by decide +kernel
theorem dX8_carrier_23 : decode cX8_carrier 23 = .ok (.goto 4, 3) := by decide +kernel
theorem dX8_carrier_26 : decode cX8_carrier 26 = .ok (.iconst 2, 1) := by decide +kernel
theorem dX8_carrier_27 : decode cX8_carrier 27 = .ok (.putfield 123, 3) := by decide +kernel
theorem dX8_carrier_30 : decode cX8_carrier 30 = .ok (.aload_n 0, 1) := by decide +kernel
theorem dX8_carrier_31 : decode cX8_carrier 31 = .ok (.getfield 123, 3) := by decide +kernel
theorem dX8_carrier_34 : decode cX8_carrier 34 = .ok (.ifCond .le 5, 3) := by decide +kernel
theorem dX8_carrier_37 : decode cX8_carrier 37 = .ok (.iconst 0, 1) := by decide +kernel
theorem dX8_carrier_38 : decode cX8_carrier 38 = .ok (.ireturn, 1) := by decide +kernel
theorem dX8_carrier_39 : decode cX8_carrier 39 = .ok (.aload_n 0, 1) := by decide +kernel
theorem dX8_carrier_40 : decode cX8_carrier 40 = .ok (.getfield 36, 3) := by decide +kernel
theorem dX8_carrier_43 : decode cX8_carrier 43 = .ok (.iload_n 1, 1) := by decide +kernel
theorem dX8_carrier_44 : decode cX8_carrier 44 = .ok (.iaload, 1) := by decide +kernel
theorem dX8_carrier_45 : decode cX8_carrier 45 = .ok (.istore 4, 2) := by decide +kernel
theorem dX8_carrier_47 : decode cX8_carrier 47 = .ok (.aload_n 0, 1) := by decide +kernel
theorem dX8_carrier_48 : decode cX8_carrier 48 = .ok (.getfield 32, 3) := by decide +kernel
theorem dX8_carrier_51 : decode cX8_carrier 51 = .ok (.iload_n 1, 1) := by decide +kernel
theorem dX8_carrier_52 : decode cX8_carrier 52 = .ok (.iload_n 2, 1) := by decide +kernel
theorem dX8_carrier_53 : decode cX8_carrier 53 = .ok (.ifCond .ne 7, 3) := by decide +kernel
theorem dX8_carrier_56 : decode cX8_carrier 56 = .ok (.iconst 1, 1) := by decide +kernel
theorem dX8_carrier_57 : decode cX8_carrier 57 = .ok (.goto 4, 3) := by decide +kernel
theorem dX8_carrier_60 : decode cX8_carrier 60 = .ok (.iconst 0, 1) := by decide +kernel
theorem dX8_carrier_61 : decode cX8_carrier 61 = .ok (.bastore, 1) := by decide +kernel
theorem dX8_carrier_62 : decode cX8_carrier 62 = .ok (.aload_n 0, 1) := by decide +kernel
theorem dX8_carrier_63 : decode cX8_carrier 63 = .ok (.getfield 36, 3) := by decide +kernel
theorem dX8_carrier_66 : decode cX8_carrier 66 = .ok (.iload_n 1, 1) := by decide +kernel
theorem dX8_carrier_67 : decode cX8_carrier 67 = .ok (.iload_n 3, 1) := by decide +kernel
theorem dX8_carrier_68 : decode cX8_carrier 68 = .ok (.iastore, 1) := by decide +kernel
theorem dX8_carrier_69 : decode cX8_carrier 69 = .ok (.iload 4, 2) := by decide +kernel
theorem dX8_carrier_71 : decode cX8_carrier 71 = .ok (.ireturn, 1) := by decide +kernel
theorem dX8_tariff_0 : decode cX8_tariff 0 = .ok (.iload_n 2, 1) := by decide +kernel
theorem dX8_tariff_1 : decode cX8_tariff 1 = .ok (.iconst 0, 1) := by decide +kernel
theorem dX8_tariff_2 : decode cX8_tariff 2 = .ok (.sipush 10000, 3) := by decide +kernel
theorem dX8_tariff_5 : decode cX8_tariff 5 = .ok (.invokestatic 127, 3) := by decide +kernel
theorem dX8_tariff_8 : decode cX8_tariff 8 = .ok (.ifCond .eq 30, 3) := by decide +kernel
theorem dX8_tariff_11 : decode cX8_tariff 11 = .ok (.iload_n 3, 1) := by decide +kernel
theorem dX8_tariff_12 : decode cX8_tariff 12 = .ok (.iconst 0, 1) := by decide +kernel
theorem dX8_tariff_13 : decode cX8_tariff 13 = .ok (.sipush 1000, 3) := by decide +kernel
theorem dX8_tariff_16 : decode cX8_tariff 16 = .ok (.invokestatic 127, 3) := by decide +kernel
theorem dX8_tariff_19 : decode cX8_tariff 19 = .ok (.ifCond .eq 19, 3) := by decide +kernel
theorem dX8_tariff_22 : decode cX8_tariff 22 = .ok (.iload 4, 2) := by decide +kernel
theorem dX8_tariff_24 : decode cX8_tariff 24 = .ok (.iconst 0, 1) := by decide +kernel
theorem dX8_tariff_25 : decode cX8_tariff 25 = .ok (.sipush 1000, 3) := by decide +kernel
theorem dX8_tariff_28 : decode cX8_tariff 28 = .ok (.invokestatic 127, 3) := by decide +kernel
theorem dX8_tariff_31 : decode cX8_tariff 31 = .ok (.ifCond .eq 7, 3) := by decide +kernel
theorem dX8_tariff_34 : decode cX8_tariff 34 = .ok (.iconst 1, 1) := by decide +kernel
theorem dX8_tariff_35 : decode cX8_tariff 35 = .ok (.goto 4, 3) := by decide +kernel
theorem dX8_tariff_38 : decode cX8_tariff 38 = .ok (.iconst 0, 1) := by decide +kernel
theorem dX8_tariff_39 : decode cX8_tariff 39 = .ok (.istore 5, 2) := by decide +kernel
theorem dX8_tariff_41 : decode cX8_tariff 41 = .ok (.aload_n 0, 1) := by decide +kernel
theorem dX8_tariff_42 : decode cX8_tariff 42 = .ok (.iload_n 1, 1) := by decide +kernel
theorem dX8_tariff_43 : decode cX8_tariff 43 = .ok (.invokestatic 175, 3) := by decide +kernel
theorem dX8_tariff_46 : decode cX8_tariff 46 = .ok (.ifCond .ne 7, 3) := by decide +kernel
theorem dX8_tariff_49 : decode cX8_tariff 49 = .ok (.iconst 1, 1) := by decide +kernel
theorem dX8_tariff_50 : decode cX8_tariff 50 = .ok (.goto 13, 3) := by decide +kernel
theorem dX8_tariff_53 : decode cX8_tariff 53 = .ok (.iload 5, 2) := by decide +kernel
theorem dX8_tariff_55 : decode cX8_tariff 55 = .ok (.ifCond .eq 7, 3) := by decide +kernel
theorem dX8_tariff_58 : decode cX8_tariff 58 = .ok (.iconst 0, 1) := by decide +kernel
theorem dX8_tariff_59 : decode cX8_tariff 59 = .ok (.goto 4, 3) := by decide +kernel
theorem dX8_tariff_62 : decode cX8_tariff 62 = .ok (.iconst 2, 1) := by decide +kernel
theorem dX8_tariff_63 : decode cX8_tariff 63 = .ok (.putfield 123, 3) := by decide +kernel
theorem dX8_tariff_66 : decode cX8_tariff 66 = .ok (.aload_n 0, 1) := by decide +kernel
theorem dX8_tariff_67 : decode cX8_tariff 67 = .ok (.getfield 123, 3) := by decide +kernel
theorem dX8_tariff_70 : decode cX8_tariff 70 = .ok (.ifCond .le 5, 3) := by decide +kernel
theorem dX8_tariff_73 : decode cX8_tariff 73 = .ok (.iconst 0, 1) := by decide +kernel
theorem dX8_tariff_74 : decode cX8_tariff 74 = .ok (.ireturn, 1) := by decide +kernel
theorem dX8_tariff_75 : decode cX8_tariff 75 = .ok (.aload_n 0, 1) := by decide +kernel
theorem dX8_tariff_76 : decode cX8_tariff 76 = .ok (.getfield 51, 3) := by decide +kernel
theorem dX8_tariff_79 : decode cX8_tariff 79 = .ok (.iload_n 1, 1) := by decide +kernel
theorem dX8_tariff_80 : decode cX8_tariff 80 = .ok (.iaload, 1) := by decide +kernel
theorem dX8_tariff_81 : decode cX8_tariff 81 = .ok (.istore 6, 2) := by decide +kernel
theorem dX8_tariff_83 : decode cX8_tariff 83 = .ok (.aload_n 0, 1) := by decide +kernel
theorem dX8_tariff_84 : decode cX8_tariff 84 = .ok (.getfield 51, 3) := by decide +kernel
theorem dX8_tariff_87 : decode cX8_tariff 87 = .ok (.iload_n 1, 1) := by decide +kernel
theorem dX8_tariff_88 : decode cX8_tariff 88 = .ok (.iload_n 2, 1) := by decide +kernel
theorem dX8_tariff_89 : decode cX8_tariff 89 = .ok (.iastore, 1) := by decide +kernel
theorem dX8_tariff_90 : decode cX8_tariff 90 = .ok (.aload_n 0, 1) := by decide +kernel
theorem dX8_tariff_91 : decode cX8_tariff 91 = .ok (.getfield 54, 3) := by decide +kernel
theorem dX8_tariff_94 : decode cX8_tariff 94 = .ok (.iload_n 1, 1) := by decide +kernel
theorem dX8_tariff_95 : decode cX8_tariff 95 = .ok (.iload_n 3, 1) := by decide +kernel
theorem dX8_tariff_96 : decode cX8_tariff 96 = .ok (.iastore, 1) := by decide +kernel
theorem dX8_tariff_97 : decode cX8_tariff 97 = .ok (.aload_n 0, 1) := by decide +kernel
theorem dX8_tariff_98 : decode cX8_tariff 98 = .ok (.getfield 57, 3) := by decide +kernel
theorem dX8_tariff_101 : decode cX8_tariff 101 = .ok (.iload_n 1, 1) := by decide +kernel
theorem dX8_tariff_102 : decode cX8_tariff 102 = .ok (.iload 4, 2) := by decide +kernel
theorem dX8_tariff_104 : decode cX8_tariff 104 = .ok (.iastore, 1) := by decide +kernel
theorem dX8_tariff_105 : decode cX8_tariff 105 = .ok (.iload 6, 2) := by decide +kernel
theorem dX8_tariff_107 : decode cX8_tariff 107 = .ok (.ireturn, 1) := by decide +kernel
theorem dX8_circuitOf_0 : decode cX8_circuitOf 0 = .ok (.aload_n 0, 1) := by decide +kernel
theorem dX8_circuitOf_1 : decode cX8_circuitOf 1 = .ok (.getfield 45, 3) := by decide +kernel
theorem dX8_circuitOf_4 : decode cX8_circuitOf 4 = .ok (.iload_n 1, 1) := by decide +kernel
theorem dX8_circuitOf_5 : decode cX8_circuitOf 5 = .ok (.baload, 1) := by decide +kernel
theorem dX8_circuitOf_6 : decode cX8_circuitOf 6 = .ok (.ifCond .ne 5, 3) := by decide +kernel
theorem dX8_circuitOf_9 : decode cX8_circuitOf 9 = .ok (.iconst 0, 1) := by decide +kernel
theorem dX8_circuitOf_10 : decode cX8_circuitOf 10 = .ok (.ireturn, 1) := by decide +kernel
theorem dX8_circuitOf_11 : decode cX8_circuitOf 11 = .ok (.aload_n 0, 1) := by decide +kernel
theorem dX8_circuitOf_12 : decode cX8_circuitOf 12 = .ok (.getfield 168, 3) := by decide +kernel
theorem dX8_circuitOf_15 : decode cX8_circuitOf 15 = .ok (.aload_n 0, 1) := by decide +kernel
theorem dX8_circuitOf_16 : decode cX8_circuitOf 16 = .ok (.getfield 48, 3) := by decide +kernel
theorem dX8_circuitOf_19 : decode cX8_circuitOf 19 = .ok (.iload_n 1, 1) := by decide +kernel
theorem dX8_circuitOf_20 : decode cX8_circuitOf 20 = .ok (.iaload, 1) := by decide +kernel
theorem dX8_circuitOf_21 : decode cX8_circuitOf 21 = .ok (.if_icmp .gt 7, 3) := by decide +kernel
theorem dX8_circuitOf_24 : decode cX8_circuitOf 24 = .ok (.iconst 1, 1) := by decide +kernel
theorem dX8_circuitOf_25 : decode cX8_circuitOf 25 = .ok (.goto 4, 3) := by decide +kernel
theorem dX8_circuitOf_28 : decode cX8_circuitOf 28 = .ok (.iconst 2, 1) := by decide +kernel
theorem dX8_circuitOf_29 : decode cX8_circuitOf 29 = .ok (.ireturn, 1) := by decide +kernel
theorem dX8_isFailed_0 : decode cX8_isFailed 0 = .ok (.aload_n 0, 1) := by decide +kernel
theorem dX8_isFailed_1 : decode cX8_isFailed 1 = .ok (.iload_n 1, 1) := by decide +kernel
theorem dX8_isFailed_2 : decode cX8_isFailed 2 = .ok (.invokevirtual 178, 3) := by decide +kernel
theorem dX8_isFailed_5 : decode cX8_isFailed 5 = .ok (.iconst 2, 1) := by decide +kernel
theorem dX8_isFailed_6 : decode cX8_isFailed 6 = .ok (.if_icmp .ne 7, 3) := by decide +kernel
theorem dX8_isFailed_9 : decode cX8_isFailed 9 = .ok (.iconst 1, 1) := by decide +kernel
theorem dX8_isFailed_10 : decode cX8_isFailed 10 = .ok (.goto 4, 3) := by decide +kernel
theorem dX8_isFailed_13 : decode cX8_isFailed 13 = .ok (.iconst 0, 1) := by decide +kernel
theorem dX8_isFailed_14 : decode cX8_isFailed 14 = .ok (.istore_n 2, 1) := by decide +kernel
theorem dX8_isFailed_15 : decode cX8_isFailed 15 = .ok (.aload_n 0, 1) := by decide +kernel
theorem dX8_isFailed_16 : decode cX8_isFailed 16 = .ok (.getfield 39, 3) := by decide +kernel
theorem dX8_isFailed_19 : decode cX8_isFailed 19 = .ok (.iload_n 1, 1) := by decide +kernel
theorem dX8_isFailed_20 : decode cX8_isFailed 20 = .ok (.dup2, 1) := by decide +kernel
theorem dX8_isFailed_21 : decode cX8_isFailed 21 = .ok (.iaload, 1) := by decide +kernel
theorem dX8_isFailed_22 : decode cX8_isFailed 22 = .ok (.iconst 1, 1) := by decide +kernel
theorem dX8_isFailed_23 : decode cX8_isFailed 23 = .ok (.iadd, 1) := by decide +kernel
theorem dX8_isFailed_24 : decode cX8_isFailed 24 = .ok (.iastore, 1) := by decide +kernel
theorem dX8_isFailed_25 : decode cX8_isFailed 25 = .ok (.aload_n 0, 1) := by decide +kernel
theorem dX8_isFailed_26 : decode cX8_isFailed 26 = .ok (.getfield 32, 3) := by decide +kernel
theorem dX8_isFailed_29 : decode cX8_isFailed 29 = .ok (.iload_n 1, 1) := by decide +kernel
theorem dX8_isFailed_30 : decode cX8_isFailed 30 = .ok (.baload, 1) := by decide +kernel
theorem dX8_isFailed_31 : decode cX8_isFailed 31 = .ok (.ifCond .ne 41, 3) := by decide +kernel
theorem dX8_isFailed_34 : decode cX8_isFailed 34 = .ok (.aload_n 0, 1) := by decide +kernel
theorem dX8_isFailed_35 : decode cX8_isFailed 35 = .ok (.getfield 36, 3) := by decide +kernel
theorem dX8_isFailed_38 : decode cX8_isFailed 38 = .ok (.iload_n 1, 1) := by decide +kernel
theorem dX8_isFailed_39 : decode cX8_isFailed 39 = .ok (.iaload, 1) := by decide +kernel
theorem dX8_isFailed_40 : decode cX8_isFailed 40 = .ok (.ifCond .le 36, 3) := by decide +kernel
theorem dX8_isFailed_43 : decode cX8_isFailed 43 = .ok (.aload_n 0, 1) := by decide +kernel
theorem dX8_isFailed_44 : decode cX8_isFailed 44 = .ok (.getfield 39, 3) := by decide +kernel
theorem dX8_isFailed_47 : decode cX8_isFailed 47 = .ok (.iload_n 1, 1) := by decide +kernel
theorem dX8_isFailed_48 : decode cX8_isFailed 48 = .ok (.iaload, 1) := by decide +kernel
theorem dX8_isFailed_49 : decode cX8_isFailed 49 = .ok (.aload_n 0, 1) := by decide +kernel
theorem dX8_isFailed_50 : decode cX8_isFailed 50 = .ok (.getfield 36, 3) := by decide +kernel
theorem dX8_isFailed_53 : decode cX8_isFailed 53 = .ok (.iload_n 1, 1) := by decide +kernel
theorem dX8_isFailed_54 : decode cX8_isFailed 54 = .ok (.iaload, 1) := by decide +kernel
theorem dX8_isFailed_55 : decode cX8_isFailed 55 = .ok (.ifCond .ne 7, 3) := by decide +kernel
theorem dX8_isFailed_58 : decode cX8_isFailed 58 = .ok (.iconst 1, 1) := by decide +kernel
theorem dX8_isFailed_59 : decode cX8_isFailed 59 = .ok (.goto 9, 3) := by decide +kernel
theorem dX8_isFailed_62 : decode cX8_isFailed 62 = .ok (.aload_n 0, 1) := by decide +kernel
theorem dX8_isFailed_63 : decode cX8_isFailed 63 = .ok (.getfield 36, 3) := by decide +kernel
theorem dX8_isFailed_66 : decode cX8_isFailed 66 = .ok (.iload_n 1, 1) := by decide +kernel
theorem dX8_isFailed_67 : decode cX8_isFailed 67 = .ok (.iaload, 1) := by decide +kernel
theorem dX8_isFailed_68 : decode cX8_isFailed 68 = .ok (.irem, 1) := by decide +kernel
theorem dX8_isFailed_69 : decode cX8_isFailed 69 = .ok (.ifCond .ne 7, 3) := by decide +kernel
theorem dX8_isFailed_72 : decode cX8_isFailed 72 = .ok (.iconst 1, 1) := by decide +kernel
theorem dX8_isFailed_73 : decode cX8_isFailed 73 = .ok (.goto 4, 3) := by decide +kernel
theorem dX8_isFailed_76 : decode cX8_isFailed 76 = .ok (.iconst 0, 1) := by decide +kernel
theorem dX8_isFailed_77 : decode cX8_isFailed 77 = .ok (.istore_n 3, 1) := by decide +kernel
theorem dX8_isFailed_78 : decode cX8_isFailed 78 = .ok (.iload_n 3, 1) := by decide +kernel
theorem dX8_isFailed_79 : decode cX8_isFailed 79 = .ok (.ifCond .eq 50, 3) := by decide +kernel
theorem dX8_isFailed_82 : decode cX8_isFailed 82 = .ok (.aload_n 0, 1) := by decide +kernel
theorem dX8_isFailed_83 : decode cX8_isFailed 83 = .ok (.getfield 42, 3) := by decide +kernel
theorem dX8_isFailed_86 : decode cX8_isFailed 86 = .ok (.iload_n 1, 1) := by decide +kernel
theorem dX8_isFailed_87 : decode cX8_isFailed 87 = .ok (.dup2, 1) := by decide +kernel
theorem dX8_isFailed_88 : decode cX8_isFailed 88 = .ok (.iaload, 1) := by decide +kernel
theorem dX8_isFailed_89 : decode cX8_isFailed 89 = .ok (.iconst 1, 1) := by decide +kernel
theorem dX8_isFailed_90 : decode cX8_isFailed 90 = .ok (.iadd, 1) := by decide +kernel
theorem dX8_isFailed_91 : decode cX8_isFailed 91 = .ok (.iastore, 1) := by decide +kernel
theorem dX8_isFailed_92 : decode cX8_isFailed 92 = .ok (.aload_n 0, 1) := by decide +kernel
theorem dX8_isFailed_93 : decode cX8_isFailed 93 = .ok (.getfield 42, 3) := by decide +kernel
theorem dX8_isFailed_96 : decode cX8_isFailed 96 = .ok (.iload_n 1, 1) := by decide +kernel
theorem dX8_isFailed_97 : decode cX8_isFailed 97 = .ok (.iaload, 1) := by decide +kernel
theorem dX8_isFailed_98 : decode cX8_isFailed 98 = .ok (.iconst 5, 1) := by decide +kernel
theorem dX8_isFailed_99 : decode cX8_isFailed 99 = .ok (.if_icmp .ge 7, 3) := by decide +kernel
theorem dX8_isFailed_102 : decode cX8_isFailed 102 = .ok (.iload_n 2, 1) := by decide +kernel
theorem dX8_isFailed_103 : decode cX8_isFailed 103 = .ok (.ifCond .eq 40, 3) := by decide +kernel
theorem dX8_isFailed_106 : decode cX8_isFailed 106 = .ok (.aload_n 0, 1) := by decide +kernel
theorem dX8_isFailed_107 : decode cX8_isFailed 107 = .ok (.getfield 45, 3) := by decide +kernel
theorem dX8_isFailed_110 : decode cX8_isFailed 110 = .ok (.iload_n 1, 1) := by decide +kernel
theorem dX8_isFailed_111 : decode cX8_isFailed 111 = .ok (.iconst 1, 1) := by decide +kernel
theorem dX8_isFailed_112 : decode cX8_isFailed 112 = .ok (.bastore, 1) := by decide +kernel
theorem dX8_isFailed_113 : decode cX8_isFailed 113 = .ok (.aload_n 0, 1) := by decide +kernel
theorem dX8_isFailed_114 : decode cX8_isFailed 114 = .ok (.getfield 48, 3) := by decide +kernel
theorem dX8_isFailed_117 : decode cX8_isFailed 117 = .ok (.iload_n 1, 1) := by decide +kernel
theorem dX8_isFailed_118 : decode cX8_isFailed 118 = .ok (.aload_n 0, 1) := by decide +kernel
theorem dX8_isFailed_119 : decode cX8_isFailed 119 = .ok (.getfield 168, 3) := by decide +kernel
theorem dX8_isFailed_122 : decode cX8_isFailed 122 = .ok (.bipush 9, 2) := by decide +kernel
theorem dX8_isFailed_124 : decode cX8_isFailed 124 = .ok (.iadd, 1) := by decide +kernel
theorem dX8_isFailed_125 : decode cX8_isFailed 125 = .ok (.iastore, 1) := by decide +kernel
theorem dX8_isFailed_126 : decode cX8_isFailed 126 = .ok (.goto 17, 3) := by decide +kernel
theorem dX8_isFailed_129 : decode cX8_isFailed 129 = .ok (.aload_n 0, 1) := by decide +kernel
theorem dX8_isFailed_130 : decode cX8_isFailed 130 = .ok (.getfield 42, 3) := by decide +kernel
theorem dX8_isFailed_133 : decode cX8_isFailed 133 = .ok (.iload_n 1, 1) := by decide +kernel
theorem dX8_isFailed_134 : decode cX8_isFailed 134 = .ok (.iconst 0, 1) := by decide +kernel
theorem dX8_isFailed_135 : decode cX8_isFailed 135 = .ok (.iastore, 1) := by decide +kernel
theorem dX8_isFailed_136 : decode cX8_isFailed 136 = .ok (.aload_n 0, 1) := by decide +kernel
theorem dX8_isFailed_137 : decode cX8_isFailed 137 = .ok (.getfield 45, 3) := by decide +kernel
theorem dX8_isFailed_140 : decode cX8_isFailed 140 = .ok (.iload_n 1, 1) := by decide +kernel
theorem dX8_isFailed_141 : decode cX8_isFailed 141 = .ok (.iconst 0, 1) := by decide +kernel
theorem dX8_isFailed_142 : decode cX8_isFailed 142 = .ok (.bastore, 1) := by decide +kernel
theorem dX8_isFailed_143 : decode cX8_isFailed 143 = .ok (.iload_n 3, 1) := by decide +kernel
theorem dX8_isFailed_144 : decode cX8_isFailed 144 = .ok (.ireturn, 1) := by decide +kernel
theorem dX8_asked_0 : decode cX8_asked 0 = .ok (.aload_n 0, 1) := by decide +kernel
theorem dX8_asked_1 : decode cX8_asked 1 = .ok (.iload_n 1, 1) := by decide +kernel
theorem dX8_asked_2 : decode cX8_asked 2 = .ok (.invokevirtual 178, 3) := by decide +kernel
theorem dX8_asked_5 : decode cX8_asked 5 = .ok (.istore_n 2, 1) := by decide +kernel
theorem dX8_asked_6 : decode cX8_asked 6 = .ok (.iload_n 2, 1) := by decide +kernel
theorem dX8_asked_7 : decode cX8_asked 7 = .ok (.iconst 1, 1) := by decide +kernel
theorem dX8_asked_8 : decode cX8_asked 8 = .ok (.if_icmp .ne 6, 3) := by decide +kernel
theorem dX8_asked_11 : decode cX8_asked 11 = .ok (.bipush (-3), 2) := by decide +kernel
theorem dX8_asked_13 : decode cX8_asked 13 = .ok (.ireturn, 1) := by decide +kernel
theorem dX8_asked_14 : decode cX8_asked 14 = .ok (.iload_n 2, 1) := by decide +kernel
theorem dX8_asked_15 : decode cX8_asked 15 = .ok (.iconst 2, 1) := by decide +kernel
theorem dX8_asked_16 : decode cX8_asked 16 = .ok (.if_icmp .ne 7, 3) := by decide +kernel
theorem dX8_asked_19 : decode cX8_asked 19 = .ok (.iconst 1, 1) := by decide +kernel
theorem dX8_asked_20 : decode cX8_asked 20 = .ok (.goto 4, 3) := by decide +kernel
theorem dX8_asked_23 : decode cX8_asked 23 = .ok (.iconst 3, 1) := by decide +kernel
theorem dX8_asked_24 : decode cX8_asked 24 = .ok (.istore_n 3, 1) := by decide +kernel
theorem dX8_asked_25 : decode cX8_asked 25 = .ok (.iload_n 3, 1) := by decide +kernel
theorem dX8_asked_26 : decode cX8_asked 26 = .ok (.ifCond .le 33, 3) := by decide +kernel
theorem dX8_asked_29 : decode cX8_asked 29 = .ok (.aload_n 0, 1) := by decide +kernel
theorem dX8_asked_30 : decode cX8_asked 30 = .ok (.iload_n 1, 1) := by decide +kernel
theorem dX8_asked_31 : decode cX8_asked 31 = .ok (.invokevirtual 182, 3) := by decide +kernel
theorem dX8_asked_34 : decode cX8_asked 34 = .ok (.ifCond .ne 5, 3) := by decide +kernel
theorem dX8_asked_37 : decode cX8_asked 37 = .ok (.iconst 0, 1) := by decide +kernel
theorem dX8_asked_38 : decode cX8_asked 38 = .ok (.ireturn, 1) := by decide +kernel
theorem dX8_asked_39 : decode cX8_asked 39 = .ok (.aload_n 0, 1) := by decide +kernel
theorem dX8_asked_40 : decode cX8_asked 40 = .ok (.iload_n 1, 1) := by decide +kernel
theorem dX8_asked_41 : decode cX8_asked 41 = .ok (.invokevirtual 178, 3) := by decide +kernel
theorem dX8_asked_44 : decode cX8_asked 44 = .ok (.iconst 1, 1) := by decide +kernel
theorem dX8_asked_45 : decode cX8_asked 45 = .ok (.if_icmp .ne 7, 3) := by decide +kernel
theorem dX8_asked_48 : decode cX8_asked 48 = .ok (.iconst 0, 1) := by decide +kernel
theorem dX8_asked_49 : decode cX8_asked 49 = .ok (.goto 6, 3) := by decide +kernel
theorem dX8_asked_52 : decode cX8_asked 52 = .ok (.iload_n 3, 1) := by decide +kernel
theorem dX8_asked_53 : decode cX8_asked 53 = .ok (.iconst 1, 1) := by decide +kernel
theorem dX8_asked_54 : decode cX8_asked 54 = .ok (.isub, 1) := by decide +kernel
theorem dX8_asked_55 : decode cX8_asked 55 = .ok (.istore_n 3, 1) := by decide +kernel
theorem dX8_asked_56 : decode cX8_asked 56 = .ok (.goto (-31), 3) := by decide +kernel
theorem dX8_asked_59 : decode cX8_asked 59 = .ok (.bipush (-4), 2) := by decide +kernel
theorem dX8_asked_61 : decode cX8_asked 61 = .ok (.ireturn, 1) := by decide +kernel
theorem dX8_inWindow_0 : decode cX8_inWindow 0 = .ok (.iconst 0, 1) := by decide +kernel
theorem dX8_inWindow_1 : decode cX8_inWindow 1 = .ok (.istore_n 2, 1) := by decide +kernel
theorem dX8_inWindow_2 : decode cX8_inWindow 2 = .ok (.iconst 0, 1) := by decide +kernel
theorem dX8_inWindow_3 : decode cX8_inWindow 3 = .ok (.istore_n 3, 1) := by decide +kernel
theorem dX8_inWindow_4 : decode cX8_inWindow 4 = .ok (.iload_n 3, 1) := by decide +kernel
theorem dX8_inWindow_5 : decode cX8_inWindow 5 = .ok (.aload_n 0, 1) := by decide +kernel
theorem dX8_inWindow_6 : decode cX8_inWindow 6 = .ok (.getfield 185, 3) := by decide +kernel
theorem dX8_inWindow_9 : decode cX8_inWindow 9 = .ok (.if_icmp .ge 47, 3) := by decide +kernel
theorem dX8_inWindow_12 : decode cX8_inWindow 12 = .ok (.iload_n 2, 1) := by decide +kernel
theorem dX8_inWindow_13 : decode cX8_inWindow 13 = .ok (.aload_n 0, 1) := by decide +kernel
theorem dX8_inWindow_14 : decode cX8_inWindow 14 = .ok (.getfield 63, 3) := by decide +kernel
theorem dX8_inWindow_17 : decode cX8_inWindow 17 = .ok (.iload_n 3, 1) := by decide +kernel
theorem dX8_inWindow_18 : decode cX8_inWindow 18 = .ok (.iaload, 1) := by decide +kernel
theorem dX8_inWindow_19 : decode cX8_inWindow 19 = .ok (.iload_n 1, 1) := by decide +kernel
theorem dX8_inWindow_20 : decode cX8_inWindow 20 = .ok (.if_icmp .ne 27, 3) := by decide +kernel
theorem dX8_inWindow_23 : decode cX8_inWindow 23 = .ok (.aload_n 0, 1) := by decide +kernel
theorem dX8_inWindow_24 : decode cX8_inWindow 24 = .ok (.getfield 168, 3) := by decide +kernel
theorem dX8_inWindow_27 : decode cX8_inWindow 27 = .ok (.aload_n 0, 1) := by decide +kernel
theorem dX8_inWindow_28 : decode cX8_inWindow 28 = .ok (.getfield 60, 3) := by decide +kernel
theorem dX8_inWindow_31 : decode cX8_inWindow 31 = .ok (.iload_n 3, 1) := by decide +kernel
theorem dX8_inWindow_32 : decode cX8_inWindow 32 = .ok (.iaload, 1) := by decide +kernel
theorem dX8_inWindow_33 : decode cX8_inWindow 33 = .ok (.isub, 1) := by decide +kernel
theorem dX8_inWindow_34 : decode cX8_inWindow 34 = .ok (.aload_n 0, 1) := by decide +kernel
theorem dX8_inWindow_35 : decode cX8_inWindow 35 = .ok (.getfield 29, 3) := by decide +kernel
theorem dX8_inWindow_38 : decode cX8_inWindow 38 = .ok (.iload_n 1, 1) := by decide +kernel
theorem dX8_inWindow_39 : decode cX8_inWindow 39 = .ok (.iaload, 1) := by decide +kernel
theorem dX8_inWindow_40 : decode cX8_inWindow 40 = .ok (.if_icmp .ge 7, 3) := by decide +kernel
theorem dX8_inWindow_43 : decode cX8_inWindow 43 = .ok (.iconst 1, 1) := by decide +kernel
theorem dX8_inWindow_44 : decode cX8_inWindow 44 = .ok (.goto 4, 3) := by decide +kernel
theorem dX8_inWindow_47 : decode cX8_inWindow 47 = .ok (.iconst 0, 1) := by decide +kernel
theorem dX8_inWindow_48 : decode cX8_inWindow 48 = .ok (.iadd, 1) := by decide +kernel
theorem dX8_inWindow_49 : decode cX8_inWindow 49 = .ok (.istore_n 2, 1) := by decide +kernel
theorem dX8_inWindow_50 : decode cX8_inWindow 50 = .ok (.iinc 3 1, 3) := by decide +kernel
theorem dX8_inWindow_53 : decode cX8_inWindow 53 = .ok (.goto (-49), 3) := by decide +kernel
theorem dX8_inWindow_56 : decode cX8_inWindow 56 = .ok (.iload_n 2, 1) := by decide +kernel
theorem dX8_inWindow_57 : decode cX8_inWindow 57 = .ok (.ireturn, 1) := by decide +kernel
theorem dX8_priceOf_0 : decode cX8_priceOf 0 = .ok (.iload_n 0, 1) := by decide +kernel
theorem dX8_priceOf_1 : decode cX8_priceOf 1 = .ok (.iload_n 1, 1) := by decide +kernel
theorem dX8_priceOf_2 : decode cX8_priceOf 2 = .ok (.iload_n 3, 1) := by decide +kernel
theorem dX8_priceOf_3 : decode cX8_priceOf 3 = .ok (.imul, 1) := by decide +kernel
theorem dX8_priceOf_4 : decode cX8_priceOf 4 = .ok (.iadd, 1) := by decide +kernel
theorem dX8_priceOf_5 : decode cX8_priceOf 5 = .ok (.iload_n 2, 1) := by decide +kernel
theorem dX8_priceOf_6 : decode cX8_priceOf 6 = .ok (.iload 4, 2) := by decide +kernel
theorem dX8_priceOf_8 : decode cX8_priceOf 8 = .ok (.bipush 99, 2) := by decide +kernel
theorem dX8_priceOf_10 : decode cX8_priceOf 10 = .ok (.iadd, 1) := by decide +kernel
theorem dX8_priceOf_11 : decode cX8_priceOf 11 = .ok (.bipush 100, 2) := by decide +kernel
theorem dX8_priceOf_13 : decode cX8_priceOf 13 = .ok (.idiv, 1) := by decide +kernel
theorem dX8_priceOf_14 : decode cX8_priceOf 14 = .ok (.imul, 1) := by decide +kernel
theorem dX8_priceOf_15 : decode cX8_priceOf 15 = .ok (.iadd, 1) := by decide +kernel
theorem dX8_priceOf_16 : decode cX8_priceOf 16 = .ok (.istore 6, 2) := by decide +kernel
theorem dX8_priceOf_18 : decode cX8_priceOf 18 = .ok (.iload 5, 2) := by decide +kernel
theorem dX8_priceOf_20 : decode cX8_priceOf 20 = .ok (.ifCond .eq 12, 3) := by decide +kernel
theorem dX8_priceOf_23 : decode cX8_priceOf 23 = .ok (.iload 6, 2) := by decide +kernel
theorem dX8_priceOf_25 : decode cX8_priceOf 25 = .ok (.iconst 3, 1) := by decide +kernel
theorem dX8_priceOf_26 : decode cX8_priceOf 26 = .ok (.imul, 1) := by decide +kernel
theorem dX8_priceOf_27 : decode cX8_priceOf 27 = .ok (.iconst 2, 1) := by decide +kernel
theorem dX8_priceOf_28 : decode cX8_priceOf 28 = .ok (.idiv, 1) := by decide +kernel
theorem dX8_priceOf_29 : decode cX8_priceOf 29 = .ok (.goto 5, 3) := by decide +kernel
theorem dX8_priceOf_32 : decode cX8_priceOf 32 = .ok (.iload 6, 2) := by decide +kernel
theorem dX8_priceOf_34 : decode cX8_priceOf 34 = .ok (.ireturn, 1) := by decide +kernel
theorem dX8_quoted_0 : decode cX8_quoted 0 = .ok (.aload_n 0, 1) := by decide +kernel
theorem dX8_quoted_1 : decode cX8_quoted 1 = .ok (.getfield 99, 3) := by decide +kernel
theorem dX8_quoted_4 : decode cX8_quoted 4 = .ok (.iload_n 1, 1) := by decide +kernel
theorem dX8_quoted_5 : decode cX8_quoted 5 = .ok (.iaload, 1) := by decide +kernel
theorem dX8_quoted_6 : decode cX8_quoted 6 = .ok (.aload_n 0, 1) := by decide +kernel
theorem dX8_quoted_7 : decode cX8_quoted 7 = .ok (.getfield 102, 3) := by decide +kernel
theorem dX8_quoted_10 : decode cX8_quoted 10 = .ok (.iload_n 1, 1) := by decide +kernel
theorem dX8_quoted_11 : decode cX8_quoted 11 = .ok (.iaload, 1) := by decide +kernel
theorem dX8_quoted_12 : decode cX8_quoted 12 = .ok (.aload_n 0, 1) := by decide +kernel
theorem dX8_quoted_13 : decode cX8_quoted 13 = .ok (.getfield 105, 3) := by decide +kernel
theorem dX8_quoted_16 : decode cX8_quoted 16 = .ok (.iload_n 1, 1) := by decide +kernel
theorem dX8_quoted_17 : decode cX8_quoted 17 = .ok (.iaload, 1) := by decide +kernel
theorem dX8_quoted_18 : decode cX8_quoted 18 = .ok (.aload_n 0, 1) := by decide +kernel
theorem dX8_quoted_19 : decode cX8_quoted 19 = .ok (.getfield 90, 3) := by decide +kernel
theorem dX8_quoted_22 : decode cX8_quoted 22 = .ok (.iload_n 1, 1) := by decide +kernel
theorem dX8_quoted_23 : decode cX8_quoted 23 = .ok (.iaload, 1) := by decide +kernel
theorem dX8_quoted_24 : decode cX8_quoted 24 = .ok (.iload_n 2, 1) := by decide +kernel
theorem dX8_quoted_25 : decode cX8_quoted 25 = .ok (.aload_n 0, 1) := by decide +kernel
theorem dX8_quoted_26 : decode cX8_quoted 26 = .ok (.getfield 96, 3) := by decide +kernel
theorem dX8_quoted_29 : decode cX8_quoted 29 = .ok (.iload_n 1, 1) := by decide +kernel
theorem dX8_quoted_30 : decode cX8_quoted 30 = .ok (.baload, 1) := by decide +kernel
theorem dX8_quoted_31 : decode cX8_quoted 31 = .ok (.invokestatic 188, 3) := by decide +kernel
theorem dX8_quoted_34 : decode cX8_quoted 34 = .ok (.ireturn, 1) := by decide +kernel
theorem dX8_quote_0 : decode cX8_quote 0 = .ok (.aload_n 0, 1) := by decide +kernel
theorem dX8_quote_1 : decode cX8_quote 1 = .ok (.getfield 84, 3) := by decide +kernel
theorem dX8_quote_4 : decode cX8_quote 4 = .ok (.aload_n 0, 1) := by decide +kernel
theorem dX8_quote_5 : decode cX8_quote 5 = .ok (.getfield 192, 3) := by decide +kernel
theorem dX8_quote_8 : decode cX8_quote 8 = .ok (.iload_n 1, 1) := by decide +kernel
theorem dX8_quote_9 : decode cX8_quote 9 = .ok (.iastore, 1) := by decide +kernel
theorem dX8_quote_10 : decode cX8_quote 10 = .ok (.aload_n 0, 1) := by decide +kernel
theorem dX8_quote_11 : decode cX8_quote 11 = .ok (.getfield 87, 3) := by decide +kernel
theorem dX8_quote_14 : decode cX8_quote 14 = .ok (.aload_n 0, 1) := by decide +kernel
theorem dX8_quote_15 : decode cX8_quote 15 = .ok (.getfield 192, 3) := by decide +kernel
theorem dX8_quote_18 : decode cX8_quote 18 = .ok (.iload_n 2, 1) := by decide +kernel
theorem dX8_quote_19 : decode cX8_quote 19 = .ok (.iastore, 1) := by decide +kernel
theorem dX8_quote_20 : decode cX8_quote 20 = .ok (.aload_n 0, 1) := by decide +kernel
theorem dX8_quote_21 : decode cX8_quote 21 = .ok (.getfield 90, 3) := by decide +kernel
theorem dX8_quote_24 : decode cX8_quote 24 = .ok (.aload_n 0, 1) := by decide +kernel
theorem dX8_quote_25 : decode cX8_quote 25 = .ok (.getfield 192, 3) := by decide +kernel
theorem dX8_quote_28 : decode cX8_quote 28 = .ok (.aload_n 0, 1) := by decide +kernel
theorem dX8_quote_29 : decode cX8_quote 29 = .ok (.getfield 19, 3) := by decide +kernel
theorem dX8_quote_32 : decode cX8_quote 32 = .ok (.iconst 2, 1) := by decide +kernel
theorem dX8_quote_33 : decode cX8_quote 33 = .ok (.iaload, 1) := by decide +kernel
theorem dX8_quote_34 : decode cX8_quote 34 = .ok (.aload_n 0, 1) := by decide +kernel
theorem dX8_quote_35 : decode cX8_quote 35 = .ok (.getfield 19, 3) := by decide +kernel
theorem dX8_quote_38 : decode cX8_quote 38 = .ok (.iconst 3, 1) := by decide +kernel
theorem dX8_quote_39 : decode cX8_quote 39 = .ok (.iaload, 1) := by decide +kernel
theorem dX8_quote_40 : decode cX8_quote 40 = .ok (.if_icmp .le 19, 3) := by decide +kernel
theorem dX8_quote_43 : decode cX8_quote 43 = .ok (.aload_n 0, 1) := by decide +kernel
theorem dX8_quote_44 : decode cX8_quote 44 = .ok (.getfield 19, 3) := by decide +kernel
theorem dX8_quote_47 : decode cX8_quote 47 = .ok (.iconst 2, 1) := by decide +kernel
theorem dX8_quote_48 : decode cX8_quote 48 = .ok (.iaload, 1) := by decide +kernel
theorem dX8_quote_49 : decode cX8_quote 49 = .ok (.aload_n 0, 1) := by decide +kernel
theorem dX8_quote_50 : decode cX8_quote 50 = .ok (.getfield 19, 3) := by decide +kernel
theorem dX8_quote_53 : decode cX8_quote 53 = .ok (.iconst 3, 1) := by decide +kernel
theorem dX8_quote_54 : decode cX8_quote 54 = .ok (.iaload, 1) := by decide +kernel
theorem dX8_quote_55 : decode cX8_quote 55 = .ok (.isub, 1) := by decide +kernel
theorem dX8_quote_56 : decode cX8_quote 56 = .ok (.goto 16, 3) := by decide +kernel
theorem dX8_quote_59 : decode cX8_quote 59 = .ok (.aload_n 0, 1) := by decide +kernel
theorem dX8_quote_60 : decode cX8_quote 60 = .ok (.getfield 19, 3) := by decide +kernel
theorem dX8_quote_63 : decode cX8_quote 63 = .ok (.iconst 3, 1) := by decide +kernel
theorem dX8_quote_64 : decode cX8_quote 64 = .ok (.iaload, 1) := by decide +kernel
theorem dX8_quote_65 : decode cX8_quote 65 = .ok (.aload_n 0, 1) := by decide +kernel
theorem dX8_quote_66 : decode cX8_quote 66 = .ok (.getfield 19, 3) := by decide +kernel
theorem dX8_quote_69 : decode cX8_quote 69 = .ok (.iconst 2, 1) := by decide +kernel
theorem dX8_quote_70 : decode cX8_quote 70 = .ok (.iaload, 1) := by decide +kernel
theorem dX8_quote_71 : decode cX8_quote 71 = .ok (.isub, 1) := by decide +kernel
theorem dX8_quote_72 : decode cX8_quote 72 = .ok (.iastore, 1) := by decide +kernel
theorem dX8_quote_73 : decode cX8_quote 73 = .ok (.aload_n 0, 1) := by decide +kernel
theorem dX8_quote_74 : decode cX8_quote 74 = .ok (.getfield 93, 3) := by decide +kernel
theorem dX8_quote_77 : decode cX8_quote 77 = .ok (.aload_n 0, 1) := by decide +kernel
theorem dX8_quote_78 : decode cX8_quote 78 = .ok (.getfield 192, 3) := by decide +kernel
theorem dX8_quote_81 : decode cX8_quote 81 = .ok (.aload_n 0, 1) := by decide +kernel
theorem dX8_quote_82 : decode cX8_quote 82 = .ok (.getfield 19, 3) := by decide +kernel
theorem dX8_quote_85 : decode cX8_quote 85 = .ok (.iconst 4, 1) := by decide +kernel
theorem dX8_quote_86 : decode cX8_quote 86 = .ok (.iaload, 1) := by decide +kernel
theorem dX8_quote_87 : decode cX8_quote 87 = .ok (.iastore, 1) := by decide +kernel
theorem dX8_quote_88 : decode cX8_quote 88 = .ok (.aload_n 0, 1) := by decide +kernel
theorem dX8_quote_89 : decode cX8_quote 89 = .ok (.getfield 96, 3) := by decide +kernel
theorem dX8_quote_92 : decode cX8_quote 92 = .ok (.aload_n 0, 1) := by decide +kernel
theorem dX8_quote_93 : decode cX8_quote 93 = .ok (.getfield 192, 3) := by decide +kernel
theorem dX8_quote_96 : decode cX8_quote 96 = .ok (.aload_n 0, 1) := by decide +kernel
theorem dX8_quote_97 : decode cX8_quote 97 = .ok (.getfield 19, 3) := by decide +kernel
theorem dX8_quote_100 : decode cX8_quote 100 = .ok (.iconst 5, 1) := by decide +kernel
theorem dX8_quote_101 : decode cX8_quote 101 = .ok (.iaload, 1) := by decide +kernel
theorem dX8_quote_102 : decode cX8_quote 102 = .ok (.iconst 1, 1) := by decide +kernel
theorem dX8_quote_103 : decode cX8_quote 103 = .ok (.if_icmp .ne 7, 3) := by decide +kernel
theorem dX8_quote_106 : decode cX8_quote 106 = .ok (.iconst 1, 1) := by decide +kernel
theorem dX8_quote_107 : decode cX8_quote 107 = .ok (.goto 4, 3) := by decide +kernel
theorem dX8_quote_110 : decode cX8_quote 110 = .ok (.iconst 0, 1) := by decide +kernel
theorem dX8_quote_111 : decode cX8_quote 111 = .ok (.bastore, 1) := by decide +kernel
theorem dX8_quote_112 : decode cX8_quote 112 = .ok (.aload_n 0, 1) := by decide +kernel
theorem dX8_quote_113 : decode cX8_quote 113 = .ok (.getfield 99, 3) := by decide +kernel
theorem dX8_quote_116 : decode cX8_quote 116 = .ok (.aload_n 0, 1) := by decide +kernel
theorem dX8_quote_117 : decode cX8_quote 117 = .ok (.getfield 192, 3) := by decide +kernel
theorem dX8_quote_120 : decode cX8_quote 120 = .ok (.aload_n 0, 1) := by decide +kernel
theorem dX8_quote_121 : decode cX8_quote 121 = .ok (.getfield 75, 3) := by decide +kernel
theorem dX8_quote_124 : decode cX8_quote 124 = .ok (.iload_n 3, 1) := by decide +kernel
theorem dX8_quote_125 : decode cX8_quote 125 = .ok (.iaload, 1) := by decide +kernel
theorem dX8_quote_126 : decode cX8_quote 126 = .ok (.iastore, 1) := by decide +kernel
theorem dX8_quote_127 : decode cX8_quote 127 = .ok (.aload_n 0, 1) := by decide +kernel
theorem dX8_quote_128 : decode cX8_quote 128 = .ok (.getfield 102, 3) := by decide +kernel
theorem dX8_quote_131 : decode cX8_quote 131 = .ok (.aload_n 0, 1) := by decide +kernel
theorem dX8_quote_132 : decode cX8_quote 132 = .ok (.getfield 192, 3) := by decide +kernel
theorem dX8_quote_135 : decode cX8_quote 135 = .ok (.aload_n 0, 1) := by decide +kernel
theorem dX8_quote_136 : decode cX8_quote 136 = .ok (.getfield 78, 3) := by decide +kernel
theorem dX8_quote_139 : decode cX8_quote 139 = .ok (.iload_n 3, 1) := by decide +kernel
theorem dX8_quote_140 : decode cX8_quote 140 = .ok (.iaload, 1) := by decide +kernel
theorem dX8_quote_141 : decode cX8_quote 141 = .ok (.iastore, 1) := by decide +kernel
theorem dX8_quote_142 : decode cX8_quote 142 = .ok (.aload_n 0, 1) := by decide +kernel
theorem dX8_quote_143 : decode cX8_quote 143 = .ok (.getfield 105, 3) := by decide +kernel
theorem dX8_quote_146 : decode cX8_quote 146 = .ok (.aload_n 0, 1) := by decide +kernel
theorem dX8_quote_147 : decode cX8_quote 147 = .ok (.getfield 192, 3) := by decide +kernel
theorem dX8_quote_150 : decode cX8_quote 150 = .ok (.aload_n 0, 1) := by decide +kernel
theorem dX8_quote_151 : decode cX8_quote 151 = .ok (.getfield 81, 3) := by decide +kernel
theorem dX8_quote_154 : decode cX8_quote 154 = .ok (.iload_n 3, 1) := by decide +kernel
theorem dX8_quote_155 : decode cX8_quote 155 = .ok (.iaload, 1) := by decide +kernel
theorem dX8_quote_156 : decode cX8_quote 156 = .ok (.iastore, 1) := by decide +kernel
theorem dX8_quote_157 : decode cX8_quote 157 = .ok (.aload_n 0, 1) := by decide +kernel
theorem dX8_quote_158 : decode cX8_quote 158 = .ok (.getfield 108, 3) := by decide +kernel
theorem dX8_quote_161 : decode cX8_quote 161 = .ok (.aload_n 0, 1) := by decide +kernel
theorem dX8_quote_162 : decode cX8_quote 162 = .ok (.getfield 192, 3) := by decide +kernel
theorem dX8_quote_165 : decode cX8_quote 165 = .ok (.aload_n 0, 1) := by decide +kernel
theorem dX8_quote_166 : decode cX8_quote 166 = .ok (.getfield 72, 3) := by decide +kernel
theorem dX8_quote_169 : decode cX8_quote 169 = .ok (.iload_n 3, 1) := by decide +kernel
theorem dX8_quote_170 : decode cX8_quote 170 = .ok (.iaload, 1) := by decide +kernel
theorem dX8_quote_171 : decode cX8_quote 171 = .ok (.iastore, 1) := by decide +kernel
theorem dX8_quote_172 : decode cX8_quote 172 = .ok (.aload_n 0, 1) := by decide +kernel
theorem dX8_quote_173 : decode cX8_quote 173 = .ok (.dup, 1) := by decide +kernel
theorem dX8_quote_174 : decode cX8_quote 174 = .ok (.getfield 192, 3) := by decide +kernel
theorem dX8_quote_177 : decode cX8_quote 177 = .ok (.iconst 1, 1) := by decide +kernel
theorem dX8_quote_178 : decode cX8_quote 178 = .ok (.iadd, 1) := by decide +kernel
theorem dX8_quote_179 : decode cX8_quote 179 = .ok (.putfield 192, 3) := by decide +kernel
theorem dX8_quote_182 : decode cX8_quote 182 = .ok (.aload_n 0, 1) := by decide +kernel
theorem dX8_quote_183 : decode cX8_quote 183 = .ok (.getfield 192, 3) := by decide +kernel
theorem dX8_quote_186 : decode cX8_quote 186 = .ok (.iconst 1, 1) := by decide +kernel
theorem dX8_quote_187 : decode cX8_quote 187 = .ok (.isub, 1) := by decide +kernel
theorem dX8_quote_188 : decode cX8_quote 188 = .ok (.ireturn, 1) := by decide +kernel
theorem dX8_call_0 : decode cX8_call 0 = .ok (.aload_n 0, 1) := by decide +kernel
theorem dX8_call_1 : decode cX8_call 1 = .ok (.aload_n 0, 1) := by decide +kernel
theorem dX8_call_2 : decode cX8_call 2 = .ok (.invokevirtual 161, 3) := by decide +kernel
theorem dX8_call_5 : decode cX8_call 5 = .ok (.ifCond .ne 7, 3) := by decide +kernel
theorem dX8_call_8 : decode cX8_call 8 = .ok (.iconst 1, 1) := by decide +kernel
theorem dX8_call_9 : decode cX8_call 9 = .ok (.goto 17, 3) := by decide +kernel
theorem dX8_call_12 : decode cX8_call 12 = .ok (.aload_n 0, 1) := by decide +kernel
theorem dX8_call_13 : decode cX8_call 13 = .ok (.getfield 192, 3) := by decide +kernel
theorem dX8_call_16 : decode cX8_call 16 = .ok (.bipush 100, 2) := by decide +kernel
theorem dX8_call_18 : decode cX8_call 18 = .ok (.if_icmp .ne 7, 3) := by decide +kernel
theorem dX8_call_21 : decode cX8_call 21 = .ok (.iconst 2, 1) := by decide +kernel
theorem dX8_call_22 : decode cX8_call 22 = .ok (.goto 4, 3) := by decide +kernel
theorem dX8_call_25 : decode cX8_call 25 = .ok (.iconst 0, 1) := by decide +kernel
theorem dX8_call_26 : decode cX8_call 26 = .ok (.putfield 123, 3) := by decide +kernel
theorem dX8_call_29 : decode cX8_call 29 = .ok (.aload_n 0, 1) := by decide +kernel
theorem dX8_call_30 : decode cX8_call 30 = .ok (.getfield 123, 3) := by decide +kernel
theorem dX8_call_33 : decode cX8_call 33 = .ok (.ifCond .le 5, 3) := by decide +kernel
theorem dX8_call_36 : decode cX8_call 36 = .ok (.iconst 0, 1) := by decide +kernel
theorem dX8_call_37 : decode cX8_call 37 = .ok (.ireturn, 1) := by decide +kernel
theorem dX8_call_38 : decode cX8_call 38 = .ok (.aload_n 0, 1) := by decide +kernel
theorem dX8_call_39 : decode cX8_call 39 = .ok (.iconst 0, 1) := by decide +kernel
theorem dX8_call_40 : decode cX8_call 40 = .ok (.putfield 131, 3) := by decide +kernel
theorem dX8_call_43 : decode cX8_call 43 = .ok (.aload_n 0, 1) := by decide +kernel
theorem dX8_call_44 : decode cX8_call 44 = .ok (.dup, 1) := by decide +kernel
theorem dX8_call_45 : decode cX8_call 45 = .ok (.getfield 195, 3) := by decide +kernel
theorem dX8_call_48 : decode cX8_call 48 = .ok (.iconst 1, 1) := by decide +kernel
theorem dX8_call_49 : decode cX8_call 49 = .ok (.iadd, 1) := by decide +kernel
theorem dX8_call_50 : decode cX8_call 50 = .ok (.putfield 195, 3) := by decide +kernel
theorem dX8_call_53 : decode cX8_call 53 = .ok (.aload_n 0, 1) := by decide +kernel
theorem dX8_call_54 : decode cX8_call 54 = .ok (.getfield 19, 3) := by decide +kernel
theorem dX8_call_57 : decode cX8_call 57 = .ok (.iconst 0, 1) := by decide +kernel
theorem dX8_call_58 : decode cX8_call 58 = .ok (.iaload, 1) := by decide +kernel
theorem dX8_call_59 : decode cX8_call 59 = .ok (.istore_n 1, 1) := by decide +kernel
theorem dX8_call_60 : decode cX8_call 60 = .ok (.aload_n 0, 1) := by decide +kernel
theorem dX8_call_61 : decode cX8_call 61 = .ok (.getfield 19, 3) := by decide +kernel
theorem dX8_call_64 : decode cX8_call 64 = .ok (.iconst 1, 1) := by decide +kernel
theorem dX8_call_65 : decode cX8_call 65 = .ok (.iaload, 1) := by decide +kernel
theorem dX8_call_66 : decode cX8_call 66 = .ok (.istore_n 2, 1) := by decide +kernel
theorem dX8_call_67 : decode cX8_call 67 = .ok (.aload_n 0, 1) := by decide +kernel
theorem dX8_call_68 : decode cX8_call 68 = .ok (.iload_n 1, 1) := by decide +kernel
theorem dX8_call_69 : decode cX8_call 69 = .ok (.invokevirtual 198, 3) := by decide +kernel
theorem dX8_call_72 : decode cX8_call 72 = .ok (.aload_n 0, 1) := by decide +kernel
theorem dX8_call_73 : decode cX8_call 73 = .ok (.getfield 26, 3) := by decide +kernel
theorem dX8_call_76 : decode cX8_call 76 = .ok (.iload_n 1, 1) := by decide +kernel
theorem dX8_call_77 : decode cX8_call 77 = .ok (.iaload, 1) := by decide +kernel
theorem dX8_call_78 : decode cX8_call 78 = .ok (.if_icmp .lt 6, 3) := by decide +kernel
theorem dX8_call_81 : decode cX8_call 81 = .ok (.bipush (-2), 2) := by decide +kernel
theorem dX8_call_83 : decode cX8_call 83 = .ok (.ireturn, 1) := by decide +kernel
theorem dX8_call_84 : decode cX8_call 84 = .ok (.aload_n 0, 1) := by decide +kernel
theorem dX8_call_85 : decode cX8_call 85 = .ok (.getfield 60, 3) := by decide +kernel
theorem dX8_call_88 : decode cX8_call 88 = .ok (.aload_n 0, 1) := by decide +kernel
theorem dX8_call_89 : decode cX8_call 89 = .ok (.getfield 185, 3) := by decide +kernel
theorem dX8_call_92 : decode cX8_call 92 = .ok (.aload_n 0, 1) := by decide +kernel
theorem dX8_call_93 : decode cX8_call 93 = .ok (.getfield 168, 3) := by decide +kernel
theorem dX8_call_96 : decode cX8_call 96 = .ok (.iastore, 1) := by decide +kernel
theorem dX8_call_97 : decode cX8_call 97 = .ok (.aload_n 0, 1) := by decide +kernel
theorem dX8_call_98 : decode cX8_call 98 = .ok (.getfield 63, 3) := by decide +kernel
theorem dX8_call_101 : decode cX8_call 101 = .ok (.aload_n 0, 1) := by decide +kernel
theorem dX8_call_102 : decode cX8_call 102 = .ok (.getfield 185, 3) := by decide +kernel
theorem dX8_call_105 : decode cX8_call 105 = .ok (.iload_n 1, 1) := by decide +kernel
theorem dX8_call_106 : decode cX8_call 106 = .ok (.iastore, 1) := by decide +kernel
theorem dX8_call_107 : decode cX8_call 107 = .ok (.aload_n 0, 1) := by decide +kernel
theorem dX8_call_108 : decode cX8_call 108 = .ok (.dup, 1) := by decide +kernel
theorem dX8_call_109 : decode cX8_call 109 = .ok (.getfield 185, 3) := by decide +kernel
theorem dX8_call_112 : decode cX8_call 112 = .ok (.iconst 1, 1) := by decide +kernel
theorem dX8_call_113 : decode cX8_call 113 = .ok (.iadd, 1) := by decide +kernel
theorem dX8_call_114 : decode cX8_call 114 = .ok (.putfield 185, 3) := by decide +kernel
theorem dX8_call_117 : decode cX8_call 117 = .ok (.iconst 4, 1) := by decide +kernel
theorem dX8_call_118 : decode cX8_call 118 = .ok (.iload_n 1, 1) := by decide +kernel
theorem dX8_call_119 : decode cX8_call 119 = .ok (.imul, 1) := by decide +kernel
theorem dX8_call_120 : decode cX8_call 120 = .ok (.iload_n 2, 1) := by decide +kernel
theorem dX8_call_121 : decode cX8_call 121 = .ok (.iadd, 1) := by decide +kernel
theorem dX8_call_122 : decode cX8_call 122 = .ok (.bipush 8, 2) := by decide +kernel
theorem dX8_call_124 : decode cX8_call 124 = .ok (.imul, 1) := by decide +kernel
theorem dX8_call_125 : decode cX8_call 125 = .ok (.aload_n 0, 1) := by decide +kernel
theorem dX8_call_126 : decode cX8_call 126 = .ok (.getfield 19, 3) := by decide +kernel
theorem dX8_call_129 : decode cX8_call 129 = .ok (.iconst 2, 1) := by decide +kernel
theorem dX8_call_130 : decode cX8_call 130 = .ok (.iaload, 1) := by decide +kernel
theorem dX8_call_131 : decode cX8_call 131 = .ok (.iadd, 1) := by decide +kernel
theorem dX8_call_132 : decode cX8_call 132 = .ok (.bipush 8, 2) := by decide +kernel
theorem dX8_call_134 : decode cX8_call 134 = .ok (.imul, 1) := by decide +kernel
theorem dX8_call_135 : decode cX8_call 135 = .ok (.aload_n 0, 1) := by decide +kernel
theorem dX8_call_136 : decode cX8_call 136 = .ok (.getfield 19, 3) := by decide +kernel
theorem dX8_call_139 : decode cX8_call 139 = .ok (.iconst 3, 1) := by decide +kernel
theorem dX8_call_140 : decode cX8_call 140 = .ok (.iaload, 1) := by decide +kernel
theorem dX8_call_141 : decode cX8_call 141 = .ok (.iadd, 1) := by decide +kernel
theorem dX8_call_142 : decode cX8_call 142 = .ok (.istore_n 3, 1) := by decide +kernel
theorem dX8_call_143 : decode cX8_call 143 = .ok (.aload_n 0, 1) := by decide +kernel
theorem dX8_call_144 : decode cX8_call 144 = .ok (.getfield 168, 3) := by decide +kernel
theorem dX8_call_147 : decode cX8_call 147 = .ok (.aload_n 0, 1) := by decide +kernel
theorem dX8_call_148 : decode cX8_call 148 = .ok (.getfield 72, 3) := by decide +kernel
theorem dX8_call_151 : decode cX8_call 151 = .ok (.iload_n 3, 1) := by decide +kernel
theorem dX8_call_152 : decode cX8_call 152 = .ok (.iaload, 1) := by decide +kernel
theorem dX8_call_153 : decode cX8_call 153 = .ok (.if_icmp .gt 21, 3) := by decide +kernel
theorem dX8_call_156 : decode cX8_call 156 = .ok (.aload_n 0, 1) := by decide +kernel
theorem dX8_call_157 : decode cX8_call 157 = .ok (.getfield 66, 3) := by decide +kernel
theorem dX8_call_160 : decode cX8_call 160 = .ok (.iload_n 1, 1) := by decide +kernel
theorem dX8_call_161 : decode cX8_call 161 = .ok (.dup2, 1) := by decide +kernel
theorem dX8_call_162 : decode cX8_call 162 = .ok (.iaload, 1) := by decide +kernel
theorem dX8_call_163 : decode cX8_call 163 = .ok (.iconst 1, 1) := by decide +kernel
theorem dX8_call_164 : decode cX8_call 164 = .ok (.iadd, 1) := by decide +kernel
theorem dX8_call_165 : decode cX8_call 165 = .ok (.iastore, 1) := by decide +kernel
theorem dX8_call_166 : decode cX8_call 166 = .ok (.aload_n 0, 1) := by decide +kernel
theorem dX8_call_167 : decode cX8_call 167 = .ok (.iload_n 1, 1) := by decide +kernel
theorem dX8_call_168 : decode cX8_call 168 = .ok (.iload_n 2, 1) := by decide +kernel
theorem dX8_call_169 : decode cX8_call 169 = .ok (.iload_n 3, 1) := by decide +kernel
theorem dX8_call_170 : decode cX8_call 170 = .ok (.invokevirtual 201, 3) := by decide +kernel
theorem dX8_call_173 : decode cX8_call 173 = .ok (.ireturn, 1) := by decide +kernel
theorem dX8_call_174 : decode cX8_call 174 = .ok (.aload_n 0, 1) := by decide +kernel
theorem dX8_call_175 : decode cX8_call 175 = .ok (.iload_n 2, 1) := by decide +kernel
theorem dX8_call_176 : decode cX8_call 176 = .ok (.invokevirtual 204, 3) := by decide +kernel
theorem dX8_call_179 : decode cX8_call 179 = .ok (.istore 4, 2) := by decide +kernel
theorem dX8_call_181 : decode cX8_call 181 = .ok (.aload_n 0, 1) := by decide +kernel
theorem dX8_call_182 : decode cX8_call 182 = .ok (.getfield 66, 3) := by decide +kernel
theorem dX8_call_185 : decode cX8_call 185 = .ok (.iload_n 1, 1) := by decide +kernel
theorem dX8_call_186 : decode cX8_call 186 = .ok (.dup2, 1) := by decide +kernel
theorem dX8_call_187 : decode cX8_call 187 = .ok (.iaload, 1) := by decide +kernel
theorem dX8_call_188 : decode cX8_call 188 = .ok (.iload 4, 2) := by decide +kernel
theorem dX8_call_190 : decode cX8_call 190 = .ok (.ifCond .ge 7, 3) := by decide +kernel
theorem dX8_call_193 : decode cX8_call 193 = .ok (.iconst 1, 1) := by decide +kernel
theorem dX8_call_194 : decode cX8_call 194 = .ok (.goto 4, 3) := by decide +kernel
theorem dX8_call_197 : decode cX8_call 197 = .ok (.iconst 3, 1) := by decide +kernel
theorem dX8_call_198 : decode cX8_call 198 = .ok (.iadd, 1) := by decide +kernel
theorem dX8_call_199 : decode cX8_call 199 = .ok (.iastore, 1) := by decide +kernel
theorem dX8_call_200 : decode cX8_call 200 = .ok (.iload 4, 2) := by decide +kernel
theorem dX8_call_202 : decode cX8_call 202 = .ok (.ifCond .ge 6, 3) := by decide +kernel
theorem dX8_call_205 : decode cX8_call 205 = .ok (.iload 4, 2) := by decide +kernel
theorem dX8_call_207 : decode cX8_call 207 = .ok (.ireturn, 1) := by decide +kernel
theorem dX8_call_208 : decode cX8_call 208 = .ok (.aload_n 0, 1) := by decide +kernel
theorem dX8_call_209 : decode cX8_call 209 = .ok (.getfield 72, 3) := by decide +kernel
theorem dX8_call_212 : decode cX8_call 212 = .ok (.iload_n 3, 1) := by decide +kernel
theorem dX8_call_213 : decode cX8_call 213 = .ok (.aload_n 0, 1) := by decide +kernel
theorem dX8_call_214 : decode cX8_call 214 = .ok (.getfield 168, 3) := by decide +kernel
theorem dX8_call_217 : decode cX8_call 217 = .ok (.bipush 59, 2) := by decide +kernel
theorem dX8_call_219 : decode cX8_call 219 = .ok (.iadd, 1) := by decide +kernel
theorem dX8_call_220 : decode cX8_call 220 = .ok (.iastore, 1) := by decide +kernel
theorem dX8_call_221 : decode cX8_call 221 = .ok (.aload_n 0, 1) := by decide +kernel
theorem dX8_call_222 : decode cX8_call 222 = .ok (.getfield 75, 3) := by decide +kernel
theorem dX8_call_225 : decode cX8_call 225 = .ok (.iload_n 3, 1) := by decide +kernel
theorem dX8_call_226 : decode cX8_call 226 = .ok (.aload_n 0, 1) := by decide +kernel
theorem dX8_call_227 : decode cX8_call 227 = .ok (.getfield 51, 3) := by decide +kernel
theorem dX8_call_230 : decode cX8_call 230 = .ok (.iload_n 2, 1) := by decide +kernel
theorem dX8_call_231 : decode cX8_call 231 = .ok (.iaload, 1) := by decide +kernel
theorem dX8_call_232 : decode cX8_call 232 = .ok (.iastore, 1) := by decide +kernel
theorem dX8_call_233 : decode cX8_call 233 = .ok (.aload_n 0, 1) := by decide +kernel
theorem dX8_call_234 : decode cX8_call 234 = .ok (.getfield 78, 3) := by decide +kernel
theorem dX8_call_237 : decode cX8_call 237 = .ok (.iload_n 3, 1) := by decide +kernel
theorem dX8_call_238 : decode cX8_call 238 = .ok (.aload_n 0, 1) := by decide +kernel
theorem dX8_call_239 : decode cX8_call 239 = .ok (.getfield 54, 3) := by decide +kernel
theorem dX8_call_242 : decode cX8_call 242 = .ok (.iload_n 2, 1) := by decide +kernel
theorem dX8_call_243 : decode cX8_call 243 = .ok (.iaload, 1) := by decide +kernel
theorem dX8_call_244 : decode cX8_call 244 = .ok (.iastore, 1) := by decide +kernel
theorem dX8_call_245 : decode cX8_call 245 = .ok (.aload_n 0, 1) := by decide +kernel
theorem dX8_call_246 : decode cX8_call 246 = .ok (.getfield 81, 3) := by decide +kernel
theorem dX8_call_249 : decode cX8_call 249 = .ok (.iload_n 3, 1) := by decide +kernel
theorem dX8_call_250 : decode cX8_call 250 = .ok (.aload_n 0, 1) := by decide +kernel
theorem dX8_call_251 : decode cX8_call 251 = .ok (.getfield 57, 3) := by decide +kernel
theorem dX8_call_254 : decode cX8_call 254 = .ok (.iload_n 2, 1) := by decide +kernel
theorem dX8_call_255 : decode cX8_call 255 = .ok (.iaload, 1) := by decide +kernel
theorem dX8_call_256 : decode cX8_call 256 = .ok (.iastore, 1) := by decide +kernel
theorem dX8_call_257 : decode cX8_call 257 = .ok (.aload_n 0, 1) := by decide +kernel
theorem dX8_call_258 : decode cX8_call 258 = .ok (.iload_n 1, 1) := by decide +kernel
theorem dX8_call_259 : decode cX8_call 259 = .ok (.iload_n 2, 1) := by decide +kernel
theorem dX8_call_260 : decode cX8_call 260 = .ok (.iload_n 3, 1) := by decide +kernel
theorem dX8_call_261 : decode cX8_call 261 = .ok (.invokevirtual 201, 3) := by decide +kernel
theorem dX8_call_264 : decode cX8_call 264 = .ok (.ireturn, 1) := by decide +kernel
theorem dX8_asksQuote_0 : decode cX8_asksQuote 0 = .ok (.aload_n 0, 1) := by decide +kernel
theorem dX8_asksQuote_1 : decode cX8_asksQuote 1 = .ok (.iload_n 1, 1) := by decide +kernel
theorem dX8_asksQuote_2 : decode cX8_asksQuote 2 = .ok (.iconst 0, 1) := by decide +kernel
theorem dX8_asksQuote_3 : decode cX8_asksQuote 3 = .ok (.aload_n 0, 1) := by decide +kernel
theorem dX8_asksQuote_4 : decode cX8_asksQuote 4 = .ok (.getfield 192, 3) := by decide +kernel
theorem dX8_asksQuote_7 : decode cX8_asksQuote 7 = .ok (.iconst 1, 1) := by decide +kernel
theorem dX8_asksQuote_8 : decode cX8_asksQuote 8 = .ok (.isub, 1) := by decide +kernel
theorem dX8_asksQuote_9 : decode cX8_asksQuote 9 = .ok (.invokestatic 127, 3) := by decide +kernel
theorem dX8_asksQuote_12 : decode cX8_asksQuote 12 = .ok (.ifCond .eq 7, 3) := by decide +kernel
theorem dX8_asksQuote_15 : decode cX8_asksQuote 15 = .ok (.iconst 0, 1) := by decide +kernel
theorem dX8_asksQuote_16 : decode cX8_asksQuote 16 = .ok (.goto 4, 3) := by decide +kernel
theorem dX8_asksQuote_19 : decode cX8_asksQuote 19 = .ok (.iconst 1, 1) := by decide +kernel
theorem dX8_asksQuote_20 : decode cX8_asksQuote 20 = .ok (.putfield 123, 3) := by decide +kernel
theorem dX8_asksQuote_23 : decode cX8_asksQuote 23 = .ok (.aload_n 0, 1) := by decide +kernel
theorem dX8_asksQuote_24 : decode cX8_asksQuote 24 = .ok (.getfield 123, 3) := by decide +kernel
theorem dX8_asksQuote_27 : decode cX8_asksQuote 27 = .ok (.ifCond .ne 7, 3) := by decide +kernel
theorem dX8_asksQuote_30 : decode cX8_asksQuote 30 = .ok (.iconst 1, 1) := by decide +kernel
theorem dX8_asksQuote_31 : decode cX8_asksQuote 31 = .ok (.goto 4, 3) := by decide +kernel
theorem dX8_asksQuote_34 : decode cX8_asksQuote 34 = .ok (.iconst 0, 1) := by decide +kernel
theorem dX8_asksQuote_35 : decode cX8_asksQuote 35 = .ok (.ireturn, 1) := by decide +kernel
theorem dX8_price_0 : decode cX8_price 0 = .ok (.aload_n 0, 1) := by decide +kernel
theorem dX8_price_1 : decode cX8_price 1 = .ok (.iload_n 1, 1) := by decide +kernel
theorem dX8_price_2 : decode cX8_price 2 = .ok (.invokevirtual 207, 3) := by decide +kernel
theorem dX8_price_5 : decode cX8_price 5 = .ok (.ifCond .eq 17, 3) := by decide +kernel
theorem dX8_price_8 : decode cX8_price 8 = .ok (.aload_n 0, 1) := by decide +kernel
theorem dX8_price_9 : decode cX8_price 9 = .ok (.iload_n 1, 1) := by decide +kernel
theorem dX8_price_10 : decode cX8_price 10 = .ok (.aload_n 0, 1) := by decide +kernel
theorem dX8_price_11 : decode cX8_price 11 = .ok (.getfield 93, 3) := by decide +kernel
theorem dX8_price_14 : decode cX8_price 14 = .ok (.iload_n 1, 1) := by decide +kernel
theorem dX8_price_15 : decode cX8_price 15 = .ok (.iaload, 1) := by decide +kernel
theorem dX8_price_16 : decode cX8_price 16 = .ok (.invokevirtual 210, 3) := by decide +kernel
theorem dX8_price_19 : decode cX8_price 19 = .ok (.goto 4, 3) := by decide +kernel
theorem dX8_price_22 : decode cX8_price 22 = .ok (.iconst 0, 1) := by decide +kernel
theorem dX8_price_23 : decode cX8_price 23 = .ok (.ireturn, 1) := by decide +kernel
theorem dX8_fixed_0 : decode cX8_fixed 0 = .ok (.aload_n 0, 1) := by decide +kernel
theorem dX8_fixed_1 : decode cX8_fixed 1 = .ok (.iload_n 1, 1) := by decide +kernel
theorem dX8_fixed_2 : decode cX8_fixed 2 = .ok (.invokevirtual 207, 3) := by decide +kernel
theorem dX8_fixed_5 : decode cX8_fixed 5 = .ok (.ifCond .eq 32, 3) := by decide +kernel
theorem dX8_fixed_8 : decode cX8_fixed 8 = .ok (.aload_n 0, 1) := by decide +kernel
theorem dX8_fixed_9 : decode cX8_fixed 9 = .ok (.getfield 168, 3) := by decide +kernel
theorem dX8_fixed_12 : decode cX8_fixed 12 = .ok (.aload_n 0, 1) := by decide +kernel
theorem dX8_fixed_13 : decode cX8_fixed 13 = .ok (.getfield 108, 3) := by decide +kernel
theorem dX8_fixed_16 : decode cX8_fixed 16 = .ok (.iload_n 1, 1) := by decide +kernel
theorem dX8_fixed_17 : decode cX8_fixed 17 = .ok (.iaload, 1) := by decide +kernel
theorem dX8_fixed_18 : decode cX8_fixed 18 = .ok (.if_icmp .gt 19, 3) := by decide +kernel
theorem dX8_fixed_21 : decode cX8_fixed 21 = .ok (.aload_n 0, 1) := by decide +kernel
theorem dX8_fixed_22 : decode cX8_fixed 22 = .ok (.getfield 108, 3) := by decide +kernel
theorem dX8_fixed_25 : decode cX8_fixed 25 = .ok (.iload_n 1, 1) := by decide +kernel
theorem dX8_fixed_26 : decode cX8_fixed 26 = .ok (.iaload, 1) := by decide +kernel
theorem dX8_fixed_27 : decode cX8_fixed 27 = .ok (.aload_n 0, 1) := by decide +kernel
theorem dX8_fixed_28 : decode cX8_fixed 28 = .ok (.getfield 168, 3) := by decide +kernel
theorem dX8_fixed_31 : decode cX8_fixed 31 = .ok (.isub, 1) := by decide +kernel
theorem dX8_fixed_32 : decode cX8_fixed 32 = .ok (.iconst 1, 1) := by decide +kernel
theorem dX8_fixed_33 : decode cX8_fixed 33 = .ok (.iadd, 1) := by decide +kernel
theorem dX8_fixed_34 : decode cX8_fixed 34 = .ok (.goto 4, 3) := by decide +kernel
theorem dX8_fixed_37 : decode cX8_fixed 37 = .ok (.iconst 0, 1) := by decide +kernel
theorem dX8_fixed_38 : decode cX8_fixed 38 = .ok (.ireturn, 1) := by decide +kernel
theorem dX8_leftOf_0 : decode cX8_leftOf 0 = .ok (.aload_n 0, 1) := by decide +kernel
theorem dX8_leftOf_1 : decode cX8_leftOf 1 = .ok (.getfield 26, 3) := by decide +kernel
theorem dX8_leftOf_4 : decode cX8_leftOf 4 = .ok (.iload_n 1, 1) := by decide +kernel
theorem dX8_leftOf_5 : decode cX8_leftOf 5 = .ok (.iaload, 1) := by decide +kernel
theorem dX8_leftOf_6 : decode cX8_leftOf 6 = .ok (.aload_n 0, 1) := by decide +kernel
theorem dX8_leftOf_7 : decode cX8_leftOf 7 = .ok (.iload_n 1, 1) := by decide +kernel
theorem dX8_leftOf_8 : decode cX8_leftOf 8 = .ok (.invokevirtual 198, 3) := by decide +kernel
theorem dX8_leftOf_11 : decode cX8_leftOf 11 = .ok (.isub, 1) := by decide +kernel
theorem dX8_leftOf_12 : decode cX8_leftOf 12 = .ok (.istore_n 2, 1) := by decide +kernel
theorem dX8_leftOf_13 : decode cX8_leftOf 13 = .ok (.iload_n 2, 1) := by decide +kernel
theorem dX8_leftOf_14 : decode cX8_leftOf 14 = .ok (.ifCond .ge 7, 3) := by decide +kernel
theorem dX8_leftOf_17 : decode cX8_leftOf 17 = .ok (.iconst 0, 1) := by decide +kernel
theorem dX8_leftOf_18 : decode cX8_leftOf 18 = .ok (.goto 4, 3) := by decide +kernel
theorem dX8_leftOf_21 : decode cX8_leftOf 21 = .ok (.iload_n 2, 1) := by decide +kernel
theorem dX8_leftOf_22 : decode cX8_leftOf 22 = .ok (.ireturn, 1) := by decide +kernel
theorem dX8_left_0 : decode cX8_left 0 = .ok (.aload_n 0, 1) := by decide +kernel
theorem dX8_left_1 : decode cX8_left 1 = .ok (.iload_n 1, 1) := by decide +kernel
theorem dX8_left_2 : decode cX8_left 2 = .ok (.invokestatic 171, 3) := by decide +kernel
theorem dX8_left_5 : decode cX8_left 5 = .ok (.ifCond .eq 7, 3) := by decide +kernel
theorem dX8_left_8 : decode cX8_left 8 = .ok (.iconst 0, 1) := by decide +kernel
theorem dX8_left_9 : decode cX8_left 9 = .ok (.goto 4, 3) := by decide +kernel
theorem dX8_left_12 : decode cX8_left 12 = .ok (.iconst 1, 1) := by decide +kernel
theorem dX8_left_13 : decode cX8_left 13 = .ok (.putfield 123, 3) := by decide +kernel
theorem dX8_left_16 : decode cX8_left 16 = .ok (.aload_n 0, 1) := by decide +kernel
theorem dX8_left_17 : decode cX8_left 17 = .ok (.getfield 123, 3) := by decide +kernel
theorem dX8_left_20 : decode cX8_left 20 = .ok (.ifCond .le 7, 3) := by decide +kernel
theorem dX8_left_23 : decode cX8_left 23 = .ok (.iconst 0, 1) := by decide +kernel
theorem dX8_left_24 : decode cX8_left 24 = .ok (.goto 8, 3) := by decide +kernel
theorem dX8_left_27 : decode cX8_left 27 = .ok (.aload_n 0, 1) := by decide +kernel
theorem dX8_left_28 : decode cX8_left 28 = .ok (.iload_n 1, 1) := by decide +kernel
theorem dX8_left_29 : decode cX8_left 29 = .ok (.invokevirtual 213, 3) := by decide +kernel
theorem dX8_left_32 : decode cX8_left 32 = .ok (.ireturn, 1) := by decide +kernel
theorem dX8_leftByLog_0 : decode cX8_leftByLog 0 = .ok (.aload_n 0, 1) := by decide +kernel
theorem dX8_leftByLog_1 : decode cX8_leftByLog 1 = .ok (.iload_n 1, 1) := by decide +kernel
theorem dX8_leftByLog_2 : decode cX8_leftByLog 2 = .ok (.invokestatic 171, 3) := by decide +kernel
theorem dX8_leftByLog_5 : decode cX8_leftByLog 5 = .ok (.ifCond .eq 7, 3) := by decide +kernel
theorem dX8_leftByLog_8 : decode cX8_leftByLog 8 = .ok (.iconst 0, 1) := by decide +kernel
theorem dX8_leftByLog_9 : decode cX8_leftByLog 9 = .ok (.goto 4, 3) := by decide +kernel
theorem dX8_leftByLog_12 : decode cX8_leftByLog 12 = .ok (.iconst 1, 1) := by decide +kernel
theorem dX8_leftByLog_13 : decode cX8_leftByLog 13 = .ok (.putfield 123, 3) := by decide +kernel
theorem dX8_leftByLog_16 : decode cX8_leftByLog 16 = .ok (.aload_n 0, 1) := by decide +kernel
theorem dX8_leftByLog_17 : decode cX8_leftByLog 17 = .ok (.getfield 123, 3) := by decide +kernel
theorem dX8_leftByLog_20 : decode cX8_leftByLog 20 = .ok (.ifCond .le 7, 3) := by decide +kernel
theorem dX8_leftByLog_23 : decode cX8_leftByLog 23 = .ok (.iconst 0, 1) := by decide +kernel
theorem dX8_leftByLog_24 : decode cX8_leftByLog 24 = .ok (.goto 8, 3) := by decide +kernel
theorem dX8_leftByLog_27 : decode cX8_leftByLog 27 = .ok (.aload_n 0, 1) := by decide +kernel
theorem dX8_leftByLog_28 : decode cX8_leftByLog 28 = .ok (.iload_n 1, 1) := by decide +kernel
theorem dX8_leftByLog_29 : decode cX8_leftByLog 29 = .ok (.invokevirtual 213, 3) := by decide +kernel
theorem dX8_leftByLog_32 : decode cX8_leftByLog 32 = .ok (.ireturn, 1) := by decide +kernel
theorem dX8_circuit_0 : decode cX8_circuit 0 = .ok (.aload_n 0, 1) := by decide +kernel
theorem dX8_circuit_1 : decode cX8_circuit 1 = .ok (.iload_n 1, 1) := by decide +kernel
theorem dX8_circuit_2 : decode cX8_circuit 2 = .ok (.invokestatic 175, 3) := by decide +kernel
theorem dX8_circuit_5 : decode cX8_circuit 5 = .ok (.ifCond .eq 7, 3) := by decide +kernel
theorem dX8_circuit_8 : decode cX8_circuit 8 = .ok (.iconst 0, 1) := by decide +kernel
theorem dX8_circuit_9 : decode cX8_circuit 9 = .ok (.goto 4, 3) := by decide +kernel
theorem dX8_circuit_12 : decode cX8_circuit 12 = .ok (.iconst 1, 1) := by decide +kernel
theorem dX8_circuit_13 : decode cX8_circuit 13 = .ok (.putfield 123, 3) := by decide +kernel
theorem dX8_circuit_16 : decode cX8_circuit 16 = .ok (.aload_n 0, 1) := by decide +kernel
theorem dX8_circuit_17 : decode cX8_circuit 17 = .ok (.getfield 123, 3) := by decide +kernel
theorem dX8_circuit_20 : decode cX8_circuit 20 = .ok (.ifCond .le 7, 3) := by decide +kernel
theorem dX8_circuit_23 : decode cX8_circuit 23 = .ok (.iconst 0, 1) := by decide +kernel
theorem dX8_circuit_24 : decode cX8_circuit 24 = .ok (.goto 8, 3) := by decide +kernel
theorem dX8_circuit_27 : decode cX8_circuit 27 = .ok (.aload_n 0, 1) := by decide +kernel
theorem dX8_circuit_28 : decode cX8_circuit 28 = .ok (.iload_n 1, 1) := by decide +kernel
theorem dX8_circuit_29 : decode cX8_circuit 29 = .ok (.invokevirtual 178, 3) := by decide +kernel
theorem dX8_circuit_32 : decode cX8_circuit 32 = .ok (.ireturn, 1) := by decide +kernel
theorem dX8_tries_0 : decode cX8_tries 0 = .ok (.aload_n 0, 1) := by decide +kernel
theorem dX8_tries_1 : decode cX8_tries 1 = .ok (.iload_n 1, 1) := by decide +kernel
theorem dX8_tries_2 : decode cX8_tries 2 = .ok (.invokestatic 175, 3) := by decide +kernel
theorem dX8_tries_5 : decode cX8_tries 5 = .ok (.ifCond .eq 7, 3) := by decide +kernel
theorem dX8_tries_8 : decode cX8_tries 8 = .ok (.iconst 0, 1) := by decide +kernel
theorem dX8_tries_9 : decode cX8_tries 9 = .ok (.goto 4, 3) := by decide +kernel
theorem dX8_tries_12 : decode cX8_tries 12 = .ok (.iconst 1, 1) := by decide +kernel
theorem dX8_tries_13 : decode cX8_tries 13 = .ok (.putfield 123, 3) := by decide +kernel
theorem dX8_tries_16 : decode cX8_tries 16 = .ok (.aload_n 0, 1) := by decide +kernel
theorem dX8_tries_17 : decode cX8_tries 17 = .ok (.getfield 123, 3) := by decide +kernel
theorem dX8_tries_20 : decode cX8_tries 20 = .ok (.ifCond .le 7, 3) := by decide +kernel
theorem dX8_tries_23 : decode cX8_tries 23 = .ok (.iconst 0, 1) := by decide +kernel
theorem dX8_tries_24 : decode cX8_tries 24 = .ok (.goto 9, 3) := by decide +kernel
theorem dX8_tries_27 : decode cX8_tries 27 = .ok (.aload_n 0, 1) := by decide +kernel
theorem dX8_tries_28 : decode cX8_tries 28 = .ok (.getfield 39, 3) := by decide +kernel
theorem dX8_tries_31 : decode cX8_tries 31 = .ok (.iload_n 1, 1) := by decide +kernel
theorem dX8_tries_32 : decode cX8_tries 32 = .ok (.iaload, 1) := by decide +kernel
theorem dX8_tries_33 : decode cX8_tries 33 = .ok (.ireturn, 1) := by decide +kernel
theorem dX8_calls_0 : decode cX8_calls 0 = .ok (.aload_n 0, 1) := by decide +kernel
theorem dX8_calls_1 : decode cX8_calls 1 = .ok (.iconst 0, 1) := by decide +kernel
theorem dX8_calls_2 : decode cX8_calls 2 = .ok (.putfield 123, 3) := by decide +kernel
theorem dX8_calls_5 : decode cX8_calls 5 = .ok (.aload_n 0, 1) := by decide +kernel
theorem dX8_calls_6 : decode cX8_calls 6 = .ok (.getfield 195, 3) := by decide +kernel
theorem dX8_calls_9 : decode cX8_calls 9 = .ok (.ireturn, 1) := by decide +kernel
theorem dX8_book_0 : decode cX8_book 0 = .ok (.aload_n 0, 1) := by decide +kernel
theorem dX8_book_1 : decode cX8_book 1 = .ok (.iload_n 1, 1) := by decide +kernel
theorem dX8_book_2 : decode cX8_book 2 = .ok (.invokevirtual 207, 3) := by decide +kernel
theorem dX8_book_5 : decode cX8_book 5 = .ok (.ifCond .ne 5, 3) := by decide +kernel
theorem dX8_book_8 : decode cX8_book 8 = .ok (.iconst 0, 1) := by decide +kernel
theorem dX8_book_9 : decode cX8_book 9 = .ok (.ireturn, 1) := by decide +kernel
theorem dX8_book_10 : decode cX8_book 10 = .ok (.aload_n 0, 1) := by decide +kernel
theorem dX8_book_11 : decode cX8_book 11 = .ok (.getfield 87, 3) := by decide +kernel
theorem dX8_book_14 : decode cX8_book 14 = .ok (.iload_n 1, 1) := by decide +kernel
theorem dX8_book_15 : decode cX8_book 15 = .ok (.iaload, 1) := by decide +kernel
theorem dX8_book_16 : decode cX8_book 16 = .ok (.istore_n 2, 1) := by decide +kernel
theorem dX8_book_17 : decode cX8_book 17 = .ok (.aload_n 0, 1) := by decide +kernel
theorem dX8_book_18 : decode cX8_book 18 = .ok (.iload_n 1, 1) := by decide +kernel
theorem dX8_book_19 : decode cX8_book 19 = .ok (.aload_n 0, 1) := by decide +kernel
theorem dX8_book_20 : decode cX8_book 20 = .ok (.getfield 93, 3) := by decide +kernel
theorem dX8_book_23 : decode cX8_book 23 = .ok (.iload_n 1, 1) := by decide +kernel
theorem dX8_book_24 : decode cX8_book 24 = .ok (.iaload, 1) := by decide +kernel
theorem dX8_book_25 : decode cX8_book 25 = .ok (.invokevirtual 210, 3) := by decide +kernel
theorem dX8_book_28 : decode cX8_book 28 = .ok (.istore_n 3, 1) := by decide +kernel
theorem dX8_book_29 : decode cX8_book 29 = .ok (.aload_n 0, 1) := by decide +kernel
theorem dX8_book_30 : decode cX8_book 30 = .ok (.getfield 51, 3) := by decide +kernel
theorem dX8_book_33 : decode cX8_book 33 = .ok (.iload_n 2, 1) := by decide +kernel
theorem dX8_book_34 : decode cX8_book 34 = .ok (.iaload, 1) := by decide +kernel
theorem dX8_book_35 : decode cX8_book 35 = .ok (.aload_n 0, 1) := by decide +kernel
theorem dX8_book_36 : decode cX8_book 36 = .ok (.getfield 54, 3) := by decide +kernel
theorem dX8_book_39 : decode cX8_book 39 = .ok (.iload_n 2, 1) := by decide +kernel
theorem dX8_book_40 : decode cX8_book 40 = .ok (.iaload, 1) := by decide +kernel
theorem dX8_book_41 : decode cX8_book 41 = .ok (.aload_n 0, 1) := by decide +kernel
theorem dX8_book_42 : decode cX8_book 42 = .ok (.getfield 57, 3) := by decide +kernel
theorem dX8_book_45 : decode cX8_book 45 = .ok (.iload_n 2, 1) := by decide +kernel
theorem dX8_book_46 : decode cX8_book 46 = .ok (.iaload, 1) := by decide +kernel
theorem dX8_book_47 : decode cX8_book 47 = .ok (.aload_n 0, 1) := by decide +kernel
theorem dX8_book_48 : decode cX8_book 48 = .ok (.getfield 90, 3) := by decide +kernel
theorem dX8_book_51 : decode cX8_book 51 = .ok (.iload_n 1, 1) := by decide +kernel
theorem dX8_book_52 : decode cX8_book 52 = .ok (.iaload, 1) := by decide +kernel
theorem dX8_book_53 : decode cX8_book 53 = .ok (.aload_n 0, 1) := by decide +kernel
theorem dX8_book_54 : decode cX8_book 54 = .ok (.getfield 93, 3) := by decide +kernel
theorem dX8_book_57 : decode cX8_book 57 = .ok (.iload_n 1, 1) := by decide +kernel
theorem dX8_book_58 : decode cX8_book 58 = .ok (.iaload, 1) := by decide +kernel
theorem dX8_book_59 : decode cX8_book 59 = .ok (.aload_n 0, 1) := by decide +kernel
theorem dX8_book_60 : decode cX8_book 60 = .ok (.getfield 96, 3) := by decide +kernel
theorem dX8_book_63 : decode cX8_book 63 = .ok (.iload_n 1, 1) := by decide +kernel
theorem dX8_book_64 : decode cX8_book 64 = .ok (.baload, 1) := by decide +kernel
theorem dX8_book_65 : decode cX8_book 65 = .ok (.invokestatic 188, 3) := by decide +kernel
theorem dX8_book_68 : decode cX8_book 68 = .ok (.istore 4, 2) := by decide +kernel
theorem dX8_book_70 : decode cX8_book 70 = .ok (.aload_n 0, 1) := by decide +kernel
theorem dX8_book_71 : decode cX8_book 71 = .ok (.aload_n 0, 1) := by decide +kernel
theorem dX8_book_72 : decode cX8_book 72 = .ok (.getfield 168, 3) := by decide +kernel
theorem dX8_book_75 : decode cX8_book 75 = .ok (.aload_n 0, 1) := by decide +kernel
theorem dX8_book_76 : decode cX8_book 76 = .ok (.getfield 108, 3) := by decide +kernel
theorem dX8_book_79 : decode cX8_book 79 = .ok (.iload_n 1, 1) := by decide +kernel
theorem dX8_book_80 : decode cX8_book 80 = .ok (.iaload, 1) := by decide +kernel
theorem dX8_book_81 : decode cX8_book 81 = .ok (.if_icmp .le 9, 3) := by decide +kernel
theorem dX8_book_84 : decode cX8_book 84 = .ok (.iload_n 3, 1) := by decide +kernel
theorem dX8_book_85 : decode cX8_book 85 = .ok (.iload 4, 2) := by decide +kernel
theorem dX8_book_87 : decode cX8_book 87 = .ok (.if_icmp .ne 12, 3) := by decide +kernel
theorem dX8_book_90 : decode cX8_book 90 = .ok (.aload_n 0, 1) := by decide +kernel
theorem dX8_book_91 : decode cX8_book 91 = .ok (.getfield 216, 3) := by decide +kernel
theorem dX8_book_94 : decode cX8_book 94 = .ok (.bipush 50, 2) := by decide +kernel
theorem dX8_book_96 : decode cX8_book 96 = .ok (.if_icmp .ne 7, 3) := by decide +kernel
theorem dX8_book_99 : decode cX8_book 99 = .ok (.iconst 2, 1) := by decide +kernel
theorem dX8_book_100 : decode cX8_book 100 = .ok (.goto 4, 3) := by decide +kernel
theorem dX8_book_103 : decode cX8_book 103 = .ok (.iconst 0, 1) := by decide +kernel
theorem dX8_book_104 : decode cX8_book 104 = .ok (.putfield 123, 3) := by decide +kernel
theorem dX8_book_107 : decode cX8_book 107 = .ok (.aload_n 0, 1) := by decide +kernel
theorem dX8_book_108 : decode cX8_book 108 = .ok (.getfield 123, 3) := by decide +kernel
theorem dX8_book_111 : decode cX8_book 111 = .ok (.ifCond .le 5, 3) := by decide +kernel
theorem dX8_book_114 : decode cX8_book 114 = .ok (.iconst 0, 1) := by decide +kernel
theorem dX8_book_115 : decode cX8_book 115 = .ok (.ireturn, 1) := by decide +kernel
theorem dX8_book_116 : decode cX8_book 116 = .ok (.aload_n 0, 1) := by decide +kernel
theorem dX8_book_117 : decode cX8_book 117 = .ok (.getfield 111, 3) := by decide +kernel
theorem dX8_book_120 : decode cX8_book 120 = .ok (.aload_n 0, 1) := by decide +kernel
theorem dX8_book_121 : decode cX8_book 121 = .ok (.getfield 216, 3) := by decide +kernel
theorem dX8_book_124 : decode cX8_book 124 = .ok (.iload_n 1, 1) := by decide +kernel
theorem dX8_book_125 : decode cX8_book 125 = .ok (.iastore, 1) := by decide +kernel
theorem dX8_book_126 : decode cX8_book 126 = .ok (.aload_n 0, 1) := by decide +kernel
theorem dX8_book_127 : decode cX8_book 127 = .ok (.getfield 114, 3) := by decide +kernel
theorem dX8_book_130 : decode cX8_book 130 = .ok (.aload_n 0, 1) := by decide +kernel
theorem dX8_book_131 : decode cX8_book 131 = .ok (.getfield 216, 3) := by decide +kernel
theorem dX8_book_134 : decode cX8_book 134 = .ok (.aload_n 0, 1) := by decide +kernel
theorem dX8_book_135 : decode cX8_book 135 = .ok (.getfield 168, 3) := by decide +kernel
theorem dX8_book_138 : decode cX8_book 138 = .ok (.iastore, 1) := by decide +kernel
theorem dX8_book_139 : decode cX8_book 139 = .ok (.aload_n 0, 1) := by decide +kernel
theorem dX8_book_140 : decode cX8_book 140 = .ok (.getfield 117, 3) := by decide +kernel
theorem dX8_book_143 : decode cX8_book 143 = .ok (.aload_n 0, 1) := by decide +kernel
theorem dX8_book_144 : decode cX8_book 144 = .ok (.getfield 216, 3) := by decide +kernel
theorem dX8_book_147 : decode cX8_book 147 = .ok (.iload_n 3, 1) := by decide +kernel
theorem dX8_book_148 : decode cX8_book 148 = .ok (.iastore, 1) := by decide +kernel
theorem dX8_book_149 : decode cX8_book 149 = .ok (.aload_n 0, 1) := by decide +kernel
theorem dX8_book_150 : decode cX8_book 150 = .ok (.dup, 1) := by decide +kernel
theorem dX8_book_151 : decode cX8_book 151 = .ok (.getfield 216, 3) := by decide +kernel
theorem dX8_book_154 : decode cX8_book 154 = .ok (.iconst 1, 1) := by decide +kernel
theorem dX8_book_155 : decode cX8_book 155 = .ok (.iadd, 1) := by decide +kernel
theorem dX8_book_156 : decode cX8_book 156 = .ok (.putfield 216, 3) := by decide +kernel
theorem dX8_book_159 : decode cX8_book 159 = .ok (.aload_n 0, 1) := by decide +kernel
theorem dX8_book_160 : decode cX8_book 160 = .ok (.getfield 216, 3) := by decide +kernel
theorem dX8_book_163 : decode cX8_book 163 = .ok (.iconst 1, 1) := by decide +kernel
theorem dX8_book_164 : decode cX8_book 164 = .ok (.isub, 1) := by decide +kernel
theorem dX8_book_165 : decode cX8_book 165 = .ok (.ireturn, 1) := by decide +kernel
theorem dX8_isParcel_0 : decode cX8_isParcel 0 = .ok (.iload_n 1, 1) := by decide +kernel
theorem dX8_isParcel_1 : decode cX8_isParcel 1 = .ok (.iconst 0, 1) := by decide +kernel
theorem dX8_isParcel_2 : decode cX8_isParcel 2 = .ok (.aload_n 0, 1) := by decide +kernel
theorem dX8_isParcel_3 : decode cX8_isParcel 3 = .ok (.getfield 216, 3) := by decide +kernel
theorem dX8_isParcel_6 : decode cX8_isParcel 6 = .ok (.iconst 1, 1) := by decide +kernel
theorem dX8_isParcel_7 : decode cX8_isParcel 7 = .ok (.isub, 1) := by decide +kernel
theorem dX8_isParcel_8 : decode cX8_isParcel 8 = .ok (.invokestatic 127, 3) := by decide +kernel
theorem dX8_isParcel_11 : decode cX8_isParcel 11 = .ok (.ireturn, 1) := by decide +kernel
theorem dX8_weigh_0 : decode cX8_weigh 0 = .ok (.aload_n 0, 1) := by decide +kernel
theorem dX8_weigh_1 : decode cX8_weigh 1 = .ok (.aload_n 0, 1) := by decide +kernel
theorem dX8_weigh_2 : decode cX8_weigh 2 = .ok (.iload_n 1, 1) := by decide +kernel
theorem dX8_weigh_3 : decode cX8_weigh 3 = .ok (.invokevirtual 219, 3) := by decide +kernel
theorem dX8_weigh_6 : decode cX8_weigh 6 = .ok (.ifCond .ne 7, 3) := by decide +kernel
theorem dX8_weigh_9 : decode cX8_weigh 9 = .ok (.iconst 1, 1) := by decide +kernel
theorem dX8_weigh_10 : decode cX8_weigh 10 = .ok (.goto 32, 3) := by decide +kernel
theorem dX8_weigh_13 : decode cX8_weigh 13 = .ok (.iload_n 2, 1) := by decide +kernel
theorem dX8_weigh_14 : decode cX8_weigh 14 = .ok (.iconst 1, 1) := by decide +kernel
theorem dX8_weigh_15 : decode cX8_weigh 15 = .ok (.sipush 30000, 3) := by decide +kernel
theorem dX8_weigh_18 : decode cX8_weigh 18 = .ok (.invokestatic 127, 3) := by decide +kernel
theorem dX8_weigh_21 : decode cX8_weigh 21 = .ok (.ifCond .ne 7, 3) := by decide +kernel
theorem dX8_weigh_24 : decode cX8_weigh 24 = .ok (.iconst 2, 1) := by decide +kernel
theorem dX8_weigh_25 : decode cX8_weigh 25 = .ok (.goto 17, 3) := by decide +kernel
theorem dX8_weigh_28 : decode cX8_weigh 28 = .ok (.aload_n 0, 1) := by decide +kernel
theorem dX8_weigh_29 : decode cX8_weigh 29 = .ok (.getfield 120, 3) := by decide +kernel
theorem dX8_weigh_32 : decode cX8_weigh 32 = .ok (.iload_n 1, 1) := by decide +kernel
theorem dX8_weigh_33 : decode cX8_weigh 33 = .ok (.iaload, 1) := by decide +kernel
theorem dX8_weigh_34 : decode cX8_weigh 34 = .ok (.ifCond .eq 7, 3) := by decide +kernel
theorem dX8_weigh_37 : decode cX8_weigh 37 = .ok (.iconst 3, 1) := by decide +kernel
theorem dX8_weigh_38 : decode cX8_weigh 38 = .ok (.goto 4, 3) := by decide +kernel
theorem dX8_weigh_41 : decode cX8_weigh 41 = .ok (.iconst 0, 1) := by decide +kernel
theorem dX8_weigh_42 : decode cX8_weigh 42 = .ok (.putfield 123, 3) := by decide +kernel
theorem dX8_weigh_45 : decode cX8_weigh 45 = .ok (.aload_n 0, 1) := by decide +kernel
theorem dX8_weigh_46 : decode cX8_weigh 46 = .ok (.getfield 123, 3) := by decide +kernel
theorem dX8_weigh_49 : decode cX8_weigh 49 = .ok (.ifCond .le 5, 3) := by decide +kernel
theorem dX8_weigh_52 : decode cX8_weigh 52 = .ok (.iconst 0, 1) := by decide +kernel
theorem dX8_weigh_53 : decode cX8_weigh 53 = .ok (.ireturn, 1) := by decide +kernel
theorem dX8_weigh_54 : decode cX8_weigh 54 = .ok (.aload_n 0, 1) := by decide +kernel
theorem dX8_weigh_55 : decode cX8_weigh 55 = .ok (.getfield 117, 3) := by decide +kernel
theorem dX8_weigh_58 : decode cX8_weigh 58 = .ok (.iload_n 1, 1) := by decide +kernel
theorem dX8_weigh_59 : decode cX8_weigh 59 = .ok (.iaload, 1) := by decide +kernel
theorem dX8_weigh_60 : decode cX8_weigh 60 = .ok (.istore_n 3, 1) := by decide +kernel
theorem dX8_weigh_61 : decode cX8_weigh 61 = .ok (.aload_n 0, 1) := by decide +kernel
theorem dX8_weigh_62 : decode cX8_weigh 62 = .ok (.getfield 117, 3) := by decide +kernel
theorem dX8_weigh_65 : decode cX8_weigh 65 = .ok (.iload_n 1, 1) := by decide +kernel
theorem dX8_weigh_66 : decode cX8_weigh 66 = .ok (.aload_n 0, 1) := by decide +kernel
theorem dX8_weigh_67 : decode cX8_weigh 67 = .ok (.aload_n 0, 1) := by decide +kernel
theorem dX8_weigh_68 : decode cX8_weigh 68 = .ok (.getfield 111, 3) := by decide +kernel
theorem dX8_weigh_71 : decode cX8_weigh 71 = .ok (.iload_n 1, 1) := by decide +kernel
theorem dX8_weigh_72 : decode cX8_weigh 72 = .ok (.iaload, 1) := by decide +kernel
theorem dX8_weigh_73 : decode cX8_weigh 73 = .ok (.iload_n 2, 1) := by decide +kernel
theorem dX8_weigh_74 : decode cX8_weigh 74 = .ok (.invokevirtual 210, 3) := by decide +kernel
theorem dX8_weigh_77 : decode cX8_weigh 77 = .ok (.iastore, 1) := by decide +kernel
theorem dX8_weigh_78 : decode cX8_weigh 78 = .ok (.aload_n 0, 1) := by decide +kernel
theorem dX8_weigh_79 : decode cX8_weigh 79 = .ok (.getfield 117, 3) := by decide +kernel
theorem dX8_weigh_82 : decode cX8_weigh 82 = .ok (.iload_n 1, 1) := by decide +kernel
theorem dX8_weigh_83 : decode cX8_weigh 83 = .ok (.iaload, 1) := by decide +kernel
theorem dX8_weigh_84 : decode cX8_weigh 84 = .ok (.iload_n 3, 1) := by decide +kernel
theorem dX8_weigh_85 : decode cX8_weigh 85 = .ok (.isub, 1) := by decide +kernel
theorem dX8_weigh_86 : decode cX8_weigh 86 = .ok (.ireturn, 1) := by decide +kernel
theorem dX8_cancel_0 : decode cX8_cancel 0 = .ok (.aload_n 0, 1) := by decide +kernel
theorem dX8_cancel_1 : decode cX8_cancel 1 = .ok (.aload_n 0, 1) := by decide +kernel
theorem dX8_cancel_2 : decode cX8_cancel 2 = .ok (.iload_n 1, 1) := by decide +kernel
theorem dX8_cancel_3 : decode cX8_cancel 3 = .ok (.invokevirtual 219, 3) := by decide +kernel
theorem dX8_cancel_6 : decode cX8_cancel 6 = .ok (.ifCond .eq 7, 3) := by decide +kernel
theorem dX8_cancel_9 : decode cX8_cancel 9 = .ok (.iconst 0, 1) := by decide +kernel
theorem dX8_cancel_10 : decode cX8_cancel 10 = .ok (.goto 4, 3) := by decide +kernel
theorem dX8_cancel_13 : decode cX8_cancel 13 = .ok (.iconst 1, 1) := by decide +kernel
theorem dX8_cancel_14 : decode cX8_cancel 14 = .ok (.putfield 123, 3) := by decide +kernel
theorem dX8_cancel_17 : decode cX8_cancel 17 = .ok (.aload_n 0, 1) := by decide +kernel
theorem dX8_cancel_18 : decode cX8_cancel 18 = .ok (.getfield 123, 3) := by decide +kernel
theorem dX8_cancel_21 : decode cX8_cancel 21 = .ok (.ifCond .le 5, 3) := by decide +kernel
theorem dX8_cancel_24 : decode cX8_cancel 24 = .ok (.iconst 0, 1) := by decide +kernel
theorem dX8_cancel_25 : decode cX8_cancel 25 = .ok (.ireturn, 1) := by decide +kernel
theorem dX8_cancel_26 : decode cX8_cancel 26 = .ok (.aload_n 0, 1) := by decide +kernel
theorem dX8_cancel_27 : decode cX8_cancel 27 = .ok (.aload_n 0, 1) := by decide +kernel
theorem dX8_cancel_28 : decode cX8_cancel 28 = .ok (.getfield 120, 3) := by decide +kernel
theorem dX8_cancel_31 : decode cX8_cancel 31 = .ok (.iload_n 1, 1) := by decide +kernel
theorem dX8_cancel_32 : decode cX8_cancel 32 = .ok (.iaload, 1) := by decide +kernel
theorem dX8_cancel_33 : decode cX8_cancel 33 = .ok (.ifCond .ne 19, 3) := by decide +kernel
theorem dX8_cancel_36 : decode cX8_cancel 36 = .ok (.aload_n 0, 1) := by decide +kernel
theorem dX8_cancel_37 : decode cX8_cancel 37 = .ok (.getfield 168, 3) := by decide +kernel
theorem dX8_cancel_40 : decode cX8_cancel 40 = .ok (.aload_n 0, 1) := by decide +kernel
theorem dX8_cancel_41 : decode cX8_cancel 41 = .ok (.getfield 114, 3) := by decide +kernel
theorem dX8_cancel_44 : decode cX8_cancel 44 = .ok (.iload_n 1, 1) := by decide +kernel
theorem dX8_cancel_45 : decode cX8_cancel 45 = .ok (.iaload, 1) := by decide +kernel
theorem dX8_cancel_46 : decode cX8_cancel 46 = .ok (.bipush 30, 2) := by decide +kernel
theorem dX8_cancel_48 : decode cX8_cancel 48 = .ok (.iadd, 1) := by decide +kernel
theorem dX8_cancel_49 : decode cX8_cancel 49 = .ok (.if_icmp .le 7, 3) := by decide +kernel
theorem dX8_cancel_52 : decode cX8_cancel 52 = .ok (.iconst 2, 1) := by decide +kernel
theorem dX8_cancel_53 : decode cX8_cancel 53 = .ok (.goto 4, 3) := by decide +kernel
theorem dX8_cancel_56 : decode cX8_cancel 56 = .ok (.iconst 0, 1) := by decide +kernel
theorem dX8_cancel_57 : decode cX8_cancel 57 = .ok (.putfield 123, 3) := by decide +kernel
theorem dX8_cancel_60 : decode cX8_cancel 60 = .ok (.aload_n 0, 1) := by decide +kernel
theorem dX8_cancel_61 : decode cX8_cancel 61 = .ok (.getfield 123, 3) := by decide +kernel
theorem dX8_cancel_64 : decode cX8_cancel 64 = .ok (.ifCond .le 5, 3) := by decide +kernel
theorem dX8_cancel_67 : decode cX8_cancel 67 = .ok (.iconst 0, 1) := by decide +kernel
theorem dX8_cancel_68 : decode cX8_cancel 68 = .ok (.ireturn, 1) := by decide +kernel
theorem dX8_cancel_69 : decode cX8_cancel 69 = .ok (.aload_n 0, 1) := by decide +kernel
theorem dX8_cancel_70 : decode cX8_cancel 70 = .ok (.getfield 120, 3) := by decide +kernel
theorem dX8_cancel_73 : decode cX8_cancel 73 = .ok (.iload_n 1, 1) := by decide +kernel
theorem dX8_cancel_74 : decode cX8_cancel 74 = .ok (.iconst 1, 1) := by decide +kernel
theorem dX8_cancel_75 : decode cX8_cancel 75 = .ok (.iastore, 1) := by decide +kernel
theorem dX8_cancel_76 : decode cX8_cancel 76 = .ok (.aload_n 0, 1) := by decide +kernel
theorem dX8_cancel_77 : decode cX8_cancel 77 = .ok (.getfield 117, 3) := by decide +kernel
theorem dX8_cancel_80 : decode cX8_cancel 80 = .ok (.iload_n 1, 1) := by decide +kernel
theorem dX8_cancel_81 : decode cX8_cancel 81 = .ok (.iaload, 1) := by decide +kernel
theorem dX8_cancel_82 : decode cX8_cancel 82 = .ok (.ireturn, 1) := by decide +kernel
theorem dX8_state_0 : decode cX8_state 0 = .ok (.aload_n 0, 1) := by decide +kernel
theorem dX8_state_1 : decode cX8_state 1 = .ok (.aload_n 0, 1) := by decide +kernel
theorem dX8_state_2 : decode cX8_state 2 = .ok (.iload_n 1, 1) := by decide +kernel
theorem dX8_state_3 : decode cX8_state 3 = .ok (.invokevirtual 219, 3) := by decide +kernel
theorem dX8_state_6 : decode cX8_state 6 = .ok (.ifCond .eq 7, 3) := by decide +kernel
theorem dX8_state_9 : decode cX8_state 9 = .ok (.iconst 0, 1) := by decide +kernel
theorem dX8_state_10 : decode cX8_state 10 = .ok (.goto 4, 3) := by decide +kernel
theorem dX8_state_13 : decode cX8_state 13 = .ok (.iconst 1, 1) := by decide +kernel
theorem dX8_state_14 : decode cX8_state 14 = .ok (.putfield 123, 3) := by decide +kernel
theorem dX8_state_17 : decode cX8_state 17 = .ok (.aload_n 0, 1) := by decide +kernel
theorem dX8_state_18 : decode cX8_state 18 = .ok (.getfield 123, 3) := by decide +kernel
theorem dX8_state_21 : decode cX8_state 21 = .ok (.ifCond .le 7, 3) := by decide +kernel
theorem dX8_state_24 : decode cX8_state 24 = .ok (.iconst 0, 1) := by decide +kernel
theorem dX8_state_25 : decode cX8_state 25 = .ok (.goto 9, 3) := by decide +kernel
theorem dX8_state_28 : decode cX8_state 28 = .ok (.aload_n 0, 1) := by decide +kernel
theorem dX8_state_29 : decode cX8_state 29 = .ok (.getfield 120, 3) := by decide +kernel
theorem dX8_state_32 : decode cX8_state 32 = .ok (.iload_n 1, 1) := by decide +kernel
theorem dX8_state_33 : decode cX8_state 33 = .ok (.iaload, 1) := by decide +kernel
theorem dX8_state_34 : decode cX8_state 34 = .ok (.ireturn, 1) := by decide +kernel
theorem dX8_cost_0 : decode cX8_cost 0 = .ok (.aload_n 0, 1) := by decide +kernel
theorem dX8_cost_1 : decode cX8_cost 1 = .ok (.aload_n 0, 1) := by decide +kernel
theorem dX8_cost_2 : decode cX8_cost 2 = .ok (.iload_n 1, 1) := by decide +kernel
theorem dX8_cost_3 : decode cX8_cost 3 = .ok (.invokevirtual 219, 3) := by decide +kernel
theorem dX8_cost_6 : decode cX8_cost 6 = .ok (.ifCond .eq 7, 3) := by decide +kernel
theorem dX8_cost_9 : decode cX8_cost 9 = .ok (.iconst 0, 1) := by decide +kernel
theorem dX8_cost_10 : decode cX8_cost 10 = .ok (.goto 4, 3) := by decide +kernel
theorem dX8_cost_13 : decode cX8_cost 13 = .ok (.iconst 1, 1) := by decide +kernel
theorem dX8_cost_14 : decode cX8_cost 14 = .ok (.putfield 123, 3) := by decide +kernel
theorem dX8_cost_17 : decode cX8_cost 17 = .ok (.aload_n 0, 1) := by decide +kernel
theorem dX8_cost_18 : decode cX8_cost 18 = .ok (.getfield 123, 3) := by decide +kernel
theorem dX8_cost_21 : decode cX8_cost 21 = .ok (.ifCond .le 7, 3) := by decide +kernel
theorem dX8_cost_24 : decode cX8_cost 24 = .ok (.iconst 0, 1) := by decide +kernel
theorem dX8_cost_25 : decode cX8_cost 25 = .ok (.goto 9, 3) := by decide +kernel
theorem dX8_cost_28 : decode cX8_cost 28 = .ok (.aload_n 0, 1) := by decide +kernel
theorem dX8_cost_29 : decode cX8_cost 29 = .ok (.getfield 117, 3) := by decide +kernel
theorem dX8_cost_32 : decode cX8_cost 32 = .ok (.iload_n 1, 1) := by decide +kernel
theorem dX8_cost_33 : decode cX8_cost 33 = .ok (.iaload, 1) := by decide +kernel
theorem dX8_cost_34 : decode cX8_cost 34 = .ok (.ireturn, 1) := by decide +kernel
theorem dX8_isDue_0 : decode cX8_isDue 0 = .ok (.aload_n 0, 1) := by decide +kernel
theorem dX8_isDue_1 : decode cX8_isDue 1 = .ok (.getfield 120, 3) := by decide +kernel
theorem dX8_isDue_4 : decode cX8_isDue 4 = .ok (.iload_n 1, 1) := by decide +kernel
theorem dX8_isDue_5 : decode cX8_isDue 5 = .ok (.iaload, 1) := by decide +kernel
theorem dX8_isDue_6 : decode cX8_isDue 6 = .ok (.ifCond .ne 38, 3) := by decide +kernel
theorem dX8_isDue_9 : decode cX8_isDue 9 = .ok (.aload_n 0, 1) := by decide +kernel
theorem dX8_isDue_10 : decode cX8_isDue 10 = .ok (.getfield 168, 3) := by decide +kernel
theorem dX8_isDue_13 : decode cX8_isDue 13 = .ok (.aload_n 0, 1) := by decide +kernel
theorem dX8_isDue_14 : decode cX8_isDue 14 = .ok (.getfield 114, 3) := by decide +kernel
theorem dX8_isDue_17 : decode cX8_isDue 17 = .ok (.iload_n 1, 1) := by decide +kernel
theorem dX8_isDue_18 : decode cX8_isDue 18 = .ok (.iaload, 1) := by decide +kernel
theorem dX8_isDue_19 : decode cX8_isDue 19 = .ok (.bipush 30, 2) := by decide +kernel
theorem dX8_isDue_21 : decode cX8_isDue 21 = .ok (.iadd, 1) := by decide +kernel
theorem dX8_isDue_22 : decode cX8_isDue 22 = .ok (.if_icmp .le 22, 3) := by decide +kernel
theorem dX8_isDue_25 : decode cX8_isDue 25 = .ok (.aload_n 0, 1) := by decide +kernel
theorem dX8_isDue_26 : decode cX8_isDue 26 = .ok (.getfield 84, 3) := by decide +kernel
theorem dX8_isDue_29 : decode cX8_isDue 29 = .ok (.aload_n 0, 1) := by decide +kernel
theorem dX8_isDue_30 : decode cX8_isDue 30 = .ok (.getfield 111, 3) := by decide +kernel
theorem dX8_isDue_33 : decode cX8_isDue 33 = .ok (.iload_n 1, 1) := by decide +kernel
theorem dX8_isDue_34 : decode cX8_isDue 34 = .ok (.iaload, 1) := by decide +kernel
theorem dX8_isDue_35 : decode cX8_isDue 35 = .ok (.iaload, 1) := by decide +kernel
theorem dX8_isDue_36 : decode cX8_isDue 36 = .ok (.iload_n 2, 1) := by decide +kernel
theorem dX8_isDue_37 : decode cX8_isDue 37 = .ok (.if_icmp .ne 7, 3) := by decide +kernel
theorem dX8_isDue_40 : decode cX8_isDue 40 = .ok (.iconst 1, 1) := by decide +kernel
theorem dX8_isDue_41 : decode cX8_isDue 41 = .ok (.goto 4, 3) := by decide +kernel
theorem dX8_isDue_44 : decode cX8_isDue 44 = .ok (.iconst 0, 1) := by decide +kernel
theorem dX8_isDue_45 : decode cX8_isDue 45 = .ok (.ireturn, 1) := by decide +kernel
theorem dX8_billOf_0 : decode cX8_billOf 0 = .ok (.aload_n 0, 1) := by decide +kernel
theorem dX8_billOf_1 : decode cX8_billOf 1 = .ok (.getfield 66, 3) := by decide +kernel
theorem dX8_billOf_4 : decode cX8_billOf 4 = .ok (.iload_n 1, 1) := by decide +kernel
theorem dX8_billOf_5 : decode cX8_billOf 5 = .ok (.iaload, 1) := by decide +kernel
theorem dX8_billOf_6 : decode cX8_billOf 6 = .ok (.istore_n 2, 1) := by decide +kernel
theorem dX8_billOf_7 : decode cX8_billOf 7 = .ok (.iconst 0, 1) := by decide +kernel
theorem dX8_billOf_8 : decode cX8_billOf 8 = .ok (.istore_n 3, 1) := by decide +kernel
theorem dX8_billOf_9 : decode cX8_billOf 9 = .ok (.iload_n 3, 1) := by decide +kernel
theorem dX8_billOf_10 : decode cX8_billOf 10 = .ok (.aload_n 0, 1) := by decide +kernel
theorem dX8_billOf_11 : decode cX8_billOf 11 = .ok (.getfield 216, 3) := by decide +kernel
theorem dX8_billOf_14 : decode cX8_billOf 14 = .ok (.if_icmp .ge 31, 3) := by decide +kernel
theorem dX8_billOf_17 : decode cX8_billOf 17 = .ok (.iload_n 2, 1) := by decide +kernel
theorem dX8_billOf_18 : decode cX8_billOf 18 = .ok (.aload_n 0, 1) := by decide +kernel
theorem dX8_billOf_19 : decode cX8_billOf 19 = .ok (.iload_n 3, 1) := by decide +kernel
theorem dX8_billOf_20 : decode cX8_billOf 20 = .ok (.iload_n 1, 1) := by decide +kernel
theorem dX8_billOf_21 : decode cX8_billOf 21 = .ok (.invokevirtual 222, 3) := by decide +kernel
theorem dX8_billOf_24 : decode cX8_billOf 24 = .ok (.ifCond .eq 12, 3) := by decide +kernel
theorem dX8_billOf_27 : decode cX8_billOf 27 = .ok (.aload_n 0, 1) := by decide +kernel
theorem dX8_billOf_28 : decode cX8_billOf 28 = .ok (.getfield 117, 3) := by decide +kernel
theorem dX8_billOf_31 : decode cX8_billOf 31 = .ok (.iload_n 3, 1) := by decide +kernel
theorem dX8_billOf_32 : decode cX8_billOf 32 = .ok (.iaload, 1) := by decide +kernel
theorem dX8_billOf_33 : decode cX8_billOf 33 = .ok (.goto 4, 3) := by decide +kernel
theorem dX8_billOf_36 : decode cX8_billOf 36 = .ok (.iconst 0, 1) := by decide +kernel
theorem dX8_billOf_37 : decode cX8_billOf 37 = .ok (.iadd, 1) := by decide +kernel
theorem dX8_billOf_38 : decode cX8_billOf 38 = .ok (.istore_n 2, 1) := by decide +kernel
theorem dX8_billOf_39 : decode cX8_billOf 39 = .ok (.iinc 3 1, 3) := by decide +kernel
theorem dX8_billOf_42 : decode cX8_billOf 42 = .ok (.goto (-33), 3) := by decide +kernel
theorem dX8_billOf_45 : decode cX8_billOf 45 = .ok (.iload_n 2, 1) := by decide +kernel
theorem dX8_billOf_46 : decode cX8_billOf 46 = .ok (.ireturn, 1) := by decide +kernel
theorem dX8_bill_0 : decode cX8_bill 0 = .ok (.aload_n 0, 1) := by decide +kernel
theorem dX8_bill_1 : decode cX8_bill 1 = .ok (.iload_n 1, 1) := by decide +kernel
theorem dX8_bill_2 : decode cX8_bill 2 = .ok (.invokestatic 171, 3) := by decide +kernel
theorem dX8_bill_5 : decode cX8_bill 5 = .ok (.ifCond .eq 7, 3) := by decide +kernel
theorem dX8_bill_8 : decode cX8_bill 8 = .ok (.iconst 0, 1) := by decide +kernel
theorem dX8_bill_9 : decode cX8_bill 9 = .ok (.goto 4, 3) := by decide +kernel
theorem dX8_bill_12 : decode cX8_bill 12 = .ok (.iconst 1, 1) := by decide +kernel
theorem dX8_bill_13 : decode cX8_bill 13 = .ok (.putfield 123, 3) := by decide +kernel
theorem dX8_bill_16 : decode cX8_bill 16 = .ok (.aload_n 0, 1) := by decide +kernel
theorem dX8_bill_17 : decode cX8_bill 17 = .ok (.getfield 123, 3) := by decide +kernel
theorem dX8_bill_20 : decode cX8_bill 20 = .ok (.ifCond .le 7, 3) := by decide +kernel
theorem dX8_bill_23 : decode cX8_bill 23 = .ok (.iconst 0, 1) := by decide +kernel
theorem dX8_bill_24 : decode cX8_bill 24 = .ok (.goto 8, 3) := by decide +kernel
theorem dX8_bill_27 : decode cX8_bill 27 = .ok (.aload_n 0, 1) := by decide +kernel
theorem dX8_bill_28 : decode cX8_bill 28 = .ok (.iload_n 1, 1) := by decide +kernel
theorem dX8_bill_29 : decode cX8_bill 29 = .ok (.invokevirtual 226, 3) := by decide +kernel
theorem dX8_bill_32 : decode cX8_bill 32 = .ok (.ireturn, 1) := by decide +kernel
theorem dX8_close_0 : decode cX8_close 0 = .ok (.aload_n 0, 1) := by decide +kernel
theorem dX8_close_1 : decode cX8_close 1 = .ok (.iload_n 1, 1) := by decide +kernel
theorem dX8_close_2 : decode cX8_close 2 = .ok (.invokestatic 171, 3) := by decide +kernel
theorem dX8_close_5 : decode cX8_close 5 = .ok (.ifCond .eq 7, 3) := by decide +kernel
theorem dX8_close_8 : decode cX8_close 8 = .ok (.iconst 0, 1) := by decide +kernel
theorem dX8_close_9 : decode cX8_close 9 = .ok (.goto 4, 3) := by decide +kernel
theorem dX8_close_12 : decode cX8_close 12 = .ok (.iconst 1, 1) := by decide +kernel
theorem dX8_close_13 : decode cX8_close 13 = .ok (.putfield 123, 3) := by decide +kernel
theorem dX8_close_16 : decode cX8_close 16 = .ok (.aload_n 0, 1) := by decide +kernel
theorem dX8_close_17 : decode cX8_close 17 = .ok (.getfield 123, 3) := by decide +kernel
theorem dX8_close_20 : decode cX8_close 20 = .ok (.ifCond .le 5, 3) := by decide +kernel
theorem dX8_close_23 : decode cX8_close 23 = .ok (.iconst 0, 1) := by decide +kernel
theorem dX8_close_24 : decode cX8_close 24 = .ok (.ireturn, 1) := by decide +kernel
theorem dX8_close_25 : decode cX8_close 25 = .ok (.aload_n 0, 1) := by decide +kernel
theorem dX8_close_26 : decode cX8_close 26 = .ok (.iload_n 1, 1) := by decide +kernel
theorem dX8_close_27 : decode cX8_close 27 = .ok (.invokevirtual 226, 3) := by decide +kernel
theorem dX8_close_30 : decode cX8_close 30 = .ok (.istore_n 2, 1) := by decide +kernel
theorem dX8_close_31 : decode cX8_close 31 = .ok (.iconst 0, 1) := by decide +kernel
theorem dX8_close_32 : decode cX8_close 32 = .ok (.istore_n 3, 1) := by decide +kernel
theorem dX8_close_33 : decode cX8_close 33 = .ok (.iload_n 3, 1) := by decide +kernel
theorem dX8_close_34 : decode cX8_close 34 = .ok (.aload_n 0, 1) := by decide +kernel
theorem dX8_close_35 : decode cX8_close 35 = .ok (.getfield 216, 3) := by decide +kernel
theorem dX8_close_38 : decode cX8_close 38 = .ok (.if_icmp .ge 34, 3) := by decide +kernel
theorem dX8_close_41 : decode cX8_close 41 = .ok (.aload_n 0, 1) := by decide +kernel
theorem dX8_close_42 : decode cX8_close 42 = .ok (.getfield 120, 3) := by decide +kernel
theorem dX8_close_45 : decode cX8_close 45 = .ok (.iload_n 3, 1) := by decide +kernel
theorem dX8_close_46 : decode cX8_close 46 = .ok (.aload_n 0, 1) := by decide +kernel
theorem dX8_close_47 : decode cX8_close 47 = .ok (.iload_n 3, 1) := by decide +kernel
theorem dX8_close_48 : decode cX8_close 48 = .ok (.iload_n 1, 1) := by decide +kernel
theorem dX8_close_49 : decode cX8_close 49 = .ok (.invokevirtual 222, 3) := by decide +kernel
theorem dX8_close_52 : decode cX8_close 52 = .ok (.ifCond .eq 7, 3) := by decide +kernel
theorem dX8_close_55 : decode cX8_close 55 = .ok (.iconst 2, 1) := by decide +kernel
theorem dX8_close_56 : decode cX8_close 56 = .ok (.goto 9, 3) := by decide +kernel
theorem dX8_close_59 : decode cX8_close 59 = .ok (.aload_n 0, 1) := by decide +kernel
theorem dX8_close_60 : decode cX8_close 60 = .ok (.getfield 120, 3) := by decide +kernel
theorem dX8_close_63 : decode cX8_close 63 = .ok (.iload_n 3, 1) := by decide +kernel
theorem dX8_close_64 : decode cX8_close 64 = .ok (.iaload, 1) := by decide +kernel
theorem dX8_close_65 : decode cX8_close 65 = .ok (.iastore, 1) := by decide +kernel
theorem dX8_close_66 : decode cX8_close 66 = .ok (.iinc 3 1, 3) := by decide +kernel
theorem dX8_close_69 : decode cX8_close 69 = .ok (.goto (-36), 3) := by decide +kernel
theorem dX8_close_72 : decode cX8_close 72 = .ok (.aload_n 0, 1) := by decide +kernel
theorem dX8_close_73 : decode cX8_close 73 = .ok (.getfield 66, 3) := by decide +kernel
theorem dX8_close_76 : decode cX8_close 76 = .ok (.iload_n 1, 1) := by decide +kernel
theorem dX8_close_77 : decode cX8_close 77 = .ok (.iconst 0, 1) := by decide +kernel
theorem dX8_close_78 : decode cX8_close 78 = .ok (.iastore, 1) := by decide +kernel
theorem dX8_close_79 : decode cX8_close 79 = .ok (.aload_n 0, 1) := by decide +kernel
theorem dX8_close_80 : decode cX8_close 80 = .ok (.getfield 69, 3) := by decide +kernel
theorem dX8_close_83 : decode cX8_close 83 = .ok (.iload_n 1, 1) := by decide +kernel
theorem dX8_close_84 : decode cX8_close 84 = .ok (.dup2, 1) := by decide +kernel
theorem dX8_close_85 : decode cX8_close 85 = .ok (.iaload, 1) := by decide +kernel
theorem dX8_close_86 : decode cX8_close 86 = .ok (.iload_n 2, 1) := by decide +kernel
theorem dX8_close_87 : decode cX8_close 87 = .ok (.iadd, 1) := by decide +kernel
theorem dX8_close_88 : decode cX8_close 88 = .ok (.iastore, 1) := by decide +kernel
theorem dX8_close_89 : decode cX8_close 89 = .ok (.iload_n 2, 1) := by decide +kernel
theorem dX8_close_90 : decode cX8_close 90 = .ok (.ireturn, 1) := by decide +kernel
theorem dX8_billed_0 : decode cX8_billed 0 = .ok (.aload_n 0, 1) := by decide +kernel
theorem dX8_billed_1 : decode cX8_billed 1 = .ok (.iload_n 1, 1) := by decide +kernel
theorem dX8_billed_2 : decode cX8_billed 2 = .ok (.invokestatic 171, 3) := by decide +kernel
theorem dX8_billed_5 : decode cX8_billed 5 = .ok (.ifCond .eq 7, 3) := by decide +kernel
theorem dX8_billed_8 : decode cX8_billed 8 = .ok (.iconst 0, 1) := by decide +kernel
theorem dX8_billed_9 : decode cX8_billed 9 = .ok (.goto 4, 3) := by decide +kernel
theorem dX8_billed_12 : decode cX8_billed 12 = .ok (.iconst 1, 1) := by decide +kernel
theorem dX8_billed_13 : decode cX8_billed 13 = .ok (.putfield 123, 3) := by decide +kernel
theorem dX8_billed_16 : decode cX8_billed 16 = .ok (.aload_n 0, 1) := by decide +kernel
theorem dX8_billed_17 : decode cX8_billed 17 = .ok (.getfield 123, 3) := by decide +kernel
theorem dX8_billed_20 : decode cX8_billed 20 = .ok (.ifCond .le 7, 3) := by decide +kernel
theorem dX8_billed_23 : decode cX8_billed 23 = .ok (.iconst 0, 1) := by decide +kernel
theorem dX8_billed_24 : decode cX8_billed 24 = .ok (.goto 9, 3) := by decide +kernel
theorem dX8_billed_27 : decode cX8_billed 27 = .ok (.aload_n 0, 1) := by decide +kernel
theorem dX8_billed_28 : decode cX8_billed 28 = .ok (.getfield 69, 3) := by decide +kernel
theorem dX8_billed_31 : decode cX8_billed 31 = .ok (.iload_n 1, 1) := by decide +kernel
theorem dX8_billed_32 : decode cX8_billed 32 = .ok (.iaload, 1) := by decide +kernel
theorem dX8_billed_33 : decode cX8_billed 33 = .ok (.ireturn, 1) := by decide +kernel
end
section
theorem dJ5_init_d00df_0 : decode cJ5_init_d00df 0 = .ok (.aload_n 0, 1) := by decide +kernel
theorem dJ5_init_d00df_1 : decode cJ5_init_d00df 1 = .ok (.invokespecial 3, 3) := by decide +kernel
theorem dJ5_init_d00df_4 : decode cJ5_init_d00df 4 = .ok (.getstatic 18, 3) := by decide +kernel
theorem dJ5_init_d00df_7 : decode cJ5_init_d00df 7 = .ok (.ifCond .eq 18, 3) := by decide +kernel
theorem dJ5_init_d00df_10 : decode cJ5_init_d00df 10 = .ok (.aload_n 0, 1) := by decide +kernel
theorem dJ5_init_d00df_11 : decode cJ5_init_d00df 11 = .ok (.iload_n 1, 1) := by decide +kernel
theorem dJ5_init_d00df_12 : decode cJ5_init_d00df 12 = .ok (.newarray .byte, 2) := by decide +kernel
theorem dJ5_init_d00df_14 : decode cJ5_init_d00df 14 = .ok (.putfield 15, 3) := by decide +kernel
theorem dJ5_init_d00df_17 : decode cJ5_init_d00df 17 = .ok (.aload_n 0, 1) := by decide +kernel
theorem dJ5_init_d00df_18 : decode cJ5_init_d00df 18 = .ok (.iconst 0, 1) := by decide +kernel
theorem dJ5_init_d00df_19 : decode cJ5_init_d00df 19 = .ok (.putfield 22, 3) := by decide +kernel
theorem dJ5_init_d00df_22 : decode cJ5_init_d00df 22 = .ok (.goto 16, 3) := by decide +kernel
theorem dJ5_init_d00df_25 : decode cJ5_init_d00df 25 = .ok (.aload_n 0, 1) := by decide +kernel
theorem dJ5_init_d00df_26 : decode cJ5_init_d00df 26 = .ok (.iload_n 1, 1) := by decide +kernel
theorem dJ5_init_d00df_27 : decode cJ5_init_d00df 27 = .ok (.invokestatic 26, 3) := by decide +kernel
theorem dJ5_init_d00df_30 : decode cJ5_init_d00df 30 = .ok (.putfield 15, 3) := by decide +kernel
theorem dJ5_init_d00df_33 : decode cJ5_init_d00df 33 = .ok (.aload_n 0, 1) := by decide +kernel
theorem dJ5_init_d00df_34 : decode cJ5_init_d00df 34 = .ok (.iconst 1, 1) := by decide +kernel
theorem dJ5_init_d00df_35 : decode cJ5_init_d00df 35 = .ok (.putfield 22, 3) := by decide +kernel
theorem dJ5_init_d00df_38 : decode cJ5_init_d00df 38 = .ok (.return_, 1) := by decide +kernel
theorem dJ5_length_8abf5_0 : decode cJ5_length_8abf5 0 = .ok (.aload_n 0, 1) := by decide +kernel
theorem dJ5_length_8abf5_1 : decode cJ5_length_8abf5 1 = .ok (.getfield 79, 3) := by decide +kernel
theorem dJ5_length_8abf5_4 : decode cJ5_length_8abf5 4 = .ok (.ireturn, 1) := by decide +kernel
theorem dJ5_ensureCapacityInternal_d00df_0 : decode cJ5_ensureCapacityInternal_d00df 0 = .ok (.aload_n 0, 1) := by decide +kernel
theorem dJ5_ensureCapacityInternal_d00df_1 : decode cJ5_ensureCapacityInternal_d00df 1 = .ok (.getfield 15, 3) := by decide +kernel
theorem dJ5_ensureCapacityInternal_d00df_4 : decode cJ5_ensureCapacityInternal_d00df 4 = .ok (.arraylength, 1) := by decide +kernel
theorem dJ5_ensureCapacityInternal_d00df_5 : decode cJ5_ensureCapacityInternal_d00df 5 = .ok (.aload_n 0, 1) := by decide +kernel
theorem dJ5_ensureCapacityInternal_d00df_6 : decode cJ5_ensureCapacityInternal_d00df 6 = .ok (.getfield 22, 3) := by decide +kernel
theorem dJ5_ensureCapacityInternal_d00df_9 : decode cJ5_ensureCapacityInternal_d00df 9 = .ok (.ishr, 1) := by decide +kernel
theorem dJ5_ensureCapacityInternal_d00df_10 : decode cJ5_ensureCapacityInternal_d00df 10 = .ok (.istore_n 2, 1) := by decide +kernel
theorem dJ5_ensureCapacityInternal_d00df_11 : decode cJ5_ensureCapacityInternal_d00df 11 = .ok (.iload_n 1, 1) := by decide +kernel
theorem dJ5_ensureCapacityInternal_d00df_12 : decode cJ5_ensureCapacityInternal_d00df 12 = .ok (.iload_n 2, 1) := by decide +kernel
theorem dJ5_ensureCapacityInternal_d00df_13 : decode cJ5_ensureCapacityInternal_d00df 13 = .ok (.isub, 1) := by decide +kernel
theorem dJ5_ensureCapacityInternal_d00df_14 : decode cJ5_ensureCapacityInternal_d00df 14 = .ok (.ifCond .le 24, 3) := by decide +kernel
theorem dJ5_ensureCapacityInternal_d00df_17 : decode cJ5_ensureCapacityInternal_d00df 17 = .ok (.aload_n 0, 1) := by decide +kernel
theorem dJ5_ensureCapacityInternal_d00df_18 : decode cJ5_ensureCapacityInternal_d00df 18 = .ok (.aload_n 0, 1) := by decide +kernel
theorem dJ5_ensureCapacityInternal_d00df_19 : decode cJ5_ensureCapacityInternal_d00df 19 = .ok (.getfield 15, 3) := by decide +kernel
theorem dJ5_ensureCapacityInternal_d00df_22 : decode cJ5_ensureCapacityInternal_d00df 22 = .ok (.aload_n 0, 1) := by decide +kernel
theorem dJ5_ensureCapacityInternal_d00df_23 : decode cJ5_ensureCapacityInternal_d00df 23 = .ok (.iload_n 1, 1) := by decide +kernel
theorem dJ5_ensureCapacityInternal_d00df_24 : decode cJ5_ensureCapacityInternal_d00df 24 = .ok (.invokevirtual 104, 3) := by decide +kernel
theorem dJ5_ensureCapacityInternal_d00df_27 : decode cJ5_ensureCapacityInternal_d00df 27 = .ok (.aload_n 0, 1) := by decide +kernel
theorem dJ5_ensureCapacityInternal_d00df_28 : decode cJ5_ensureCapacityInternal_d00df 28 = .ok (.getfield 22, 3) := by decide +kernel
theorem dJ5_ensureCapacityInternal_d00df_31 : decode cJ5_ensureCapacityInternal_d00df 31 = .ok (.ishl, 1) := by decide +kernel
theorem dJ5_ensureCapacityInternal_d00df_32 : decode cJ5_ensureCapacityInternal_d00df 32 = .ok (.invokestatic 108, 3) := by decide +kernel
theorem dJ5_ensureCapacityInternal_d00df_35 : decode cJ5_ensureCapacityInternal_d00df 35 = .ok (.putfield 15, 3) := by decide +kernel
theorem dJ5_ensureCapacityInternal_d00df_38 : decode cJ5_ensureCapacityInternal_d00df 38 = .ok (.return_, 1) := by decide +kernel
theorem dJ5_newCapacity_0f7a4_0 : decode cJ5_newCapacity_0f7a4 0 = .ok (.aload_n 0, 1) := by decide +kernel
theorem dJ5_newCapacity_0f7a4_1 : decode cJ5_newCapacity_0f7a4 1 = .ok (.getfield 15, 3) := by decide +kernel
theorem dJ5_newCapacity_0f7a4_4 : decode cJ5_newCapacity_0f7a4 4 = .ok (.arraylength, 1) := by decide +kernel
theorem dJ5_newCapacity_0f7a4_5 : decode cJ5_newCapacity_0f7a4 5 = .ok (.istore_n 2, 1) := by decide +kernel
theorem dJ5_newCapacity_0f7a4_6 : decode cJ5_newCapacity_0f7a4 6 = .ok (.iload_n 1, 1) := by decide +kernel
theorem dJ5_newCapacity_0f7a4_7 : decode cJ5_newCapacity_0f7a4 7 = .ok (.aload_n 0, 1) := by decide +kernel
theorem dJ5_newCapacity_0f7a4_8 : decode cJ5_newCapacity_0f7a4 8 = .ok (.getfield 22, 3) := by decide +kernel
theorem dJ5_newCapacity_0f7a4_11 : decode cJ5_newCapacity_0f7a4 11 = .ok (.ishl, 1) := by decide +kernel
theorem dJ5_newCapacity_0f7a4_12 : decode cJ5_newCapacity_0f7a4 12 = .ok (.istore_n 3, 1) := by decide +kernel
theorem dJ5_newCapacity_0f7a4_13 : decode cJ5_newCapacity_0f7a4 13 = .ok (.iload_n 3, 1) := by decide +kernel
theorem dJ5_newCapacity_0f7a4_14 : decode cJ5_newCapacity_0f7a4 14 = .ok (.iload_n 2, 1) := by decide +kernel
theorem dJ5_newCapacity_0f7a4_15 : decode cJ5_newCapacity_0f7a4 15 = .ok (.isub, 1) := by decide +kernel
theorem dJ5_newCapacity_0f7a4_16 : decode cJ5_newCapacity_0f7a4 16 = .ok (.istore 4, 2) := by decide +kernel
theorem dJ5_newCapacity_0f7a4_18 : decode cJ5_newCapacity_0f7a4 18 = .ok (.iload_n 2, 1) := by decide +kernel
theorem dJ5_newCapacity_0f7a4_19 : decode cJ5_newCapacity_0f7a4 19 = .ok (.iload 4, 2) := by decide +kernel
theorem dJ5_newCapacity_0f7a4_21 : decode cJ5_newCapacity_0f7a4 21 = .ok (.iload_n 2, 1) := by decide +kernel
theorem dJ5_newCapacity_0f7a4_22 : decode cJ5_newCapacity_0f7a4 22 = .ok (.iconst 2, 1) := by decide +kernel
theorem dJ5_newCapacity_0f7a4_23 : decode cJ5_newCapacity_0f7a4 23 = .ok (.aload_n 0, 1) := by decide +kernel
theorem dJ5_newCapacity_0f7a4_24 : decode cJ5_newCapacity_0f7a4 24 = .ok (.getfield 22, 3) := by decide +kernel
theorem dJ5_newCapacity_0f7a4_27 : decode cJ5_newCapacity_0f7a4 27 = .ok (.ishl, 1) := by decide +kernel
theorem dJ5_newCapacity_0f7a4_28 : decode cJ5_newCapacity_0f7a4 28 = .ok (.iadd, 1) := by decide +kernel
theorem dJ5_newCapacity_0f7a4_29 : decode cJ5_newCapacity_0f7a4 29 = .ok (.invokestatic 114, 3) := by decide +kernel
theorem dJ5_newCapacity_0f7a4_32 : decode cJ5_newCapacity_0f7a4 32 = .ok (.istore 5, 2) := by decide +kernel
theorem dJ5_newCapacity_0f7a4_34 : decode cJ5_newCapacity_0f7a4 34 = .ok (.iload 5, 2) := by decide +kernel
theorem dJ5_newCapacity_0f7a4_36 : decode cJ5_newCapacity_0f7a4 36 = .ok (.ldc 39, 2) := by decide +kernel
theorem dJ5_newCapacity_0f7a4_38 : decode cJ5_newCapacity_0f7a4 38 = .ok (.if_icmp .ne 13, 3) := by decide +kernel
theorem dJ5_newCapacity_0f7a4_41 : decode cJ5_newCapacity_0f7a4 41 = .ok (.new 120, 3) := by decide +kernel
theorem dJ5_newCapacity_0f7a4_44 : decode cJ5_newCapacity_0f7a4 44 = .ok (.dup, 1) := by decide +kernel
theorem dJ5_newCapacity_0f7a4_45 : decode cJ5_newCapacity_0f7a4 45 = .ok (.ldc 122, 2) := by decide +kernel
theorem dJ5_newCapacity_0f7a4_47 : decode cJ5_newCapacity_0f7a4 47 = .ok (.invokespecial 124, 3) := by decide +kernel
theorem dJ5_newCapacity_0f7a4_50 : decode cJ5_newCapacity_0f7a4 50 = .ok (.athrow, 1) := by decide +kernel
theorem dJ5_newCapacity_0f7a4_51 : decode cJ5_newCapacity_0f7a4 51 = .ok (.iload 5, 2) := by decide +kernel
theorem dJ5_newCapacity_0f7a4_53 : decode cJ5_newCapacity_0f7a4 53 = .ok (.aload_n 0, 1) := by decide +kernel
theorem dJ5_newCapacity_0f7a4_54 : decode cJ5_newCapacity_0f7a4 54 = .ok (.getfield 22, 3) := by decide +kernel
theorem dJ5_newCapacity_0f7a4_57 : decode cJ5_newCapacity_0f7a4 57 = .ok (.ishr, 1) := by decide +kernel
theorem dJ5_newCapacity_0f7a4_58 : decode cJ5_newCapacity_0f7a4 58 = .ok (.ireturn, 1) := by decide +kernel
theorem dJ5_append_cf1ce_0 : decode cJ5_append_cf1ce 0 = .ok (.aload_n 1, 1) := by decide +kernel
theorem dJ5_append_cf1ce_1 : decode cJ5_append_cf1ce 1 = .ok (.ifnonnull 8, 3) := by decide +kernel
theorem dJ5_append_cf1ce_4 : decode cJ5_append_cf1ce 4 = .ok (.aload_n 0, 1) := by decide +kernel
theorem dJ5_append_cf1ce_5 : decode cJ5_append_cf1ce 5 = .ok (.invokevirtual 204, 3) := by decide +kernel
theorem dJ5_append_cf1ce_8 : decode cJ5_append_cf1ce 8 = .ok (.areturn, 1) := by decide +kernel
theorem dJ5_append_cf1ce_9 : decode cJ5_append_cf1ce 9 = .ok (.aload_n 1, 1) := by decide +kernel
theorem dJ5_append_cf1ce_10 : decode cJ5_append_cf1ce 10 = .ok (.invokevirtual 32, 3) := by decide +kernel
theorem dJ5_append_cf1ce_13 : decode cJ5_append_cf1ce 13 = .ok (.istore_n 2, 1) := by decide +kernel
theorem dJ5_append_cf1ce_14 : decode cJ5_append_cf1ce 14 = .ok (.aload_n 0, 1) := by decide +kernel
theorem dJ5_append_cf1ce_15 : decode cJ5_append_cf1ce 15 = .ok (.aload_n 0, 1) := by decide +kernel
theorem dJ5_append_cf1ce_16 : decode cJ5_append_cf1ce 16 = .ok (.getfield 79, 3) := by decide +kernel
theorem dJ5_append_cf1ce_19 : decode cJ5_append_cf1ce 19 = .ok (.iload_n 2, 1) := by decide +kernel
theorem dJ5_append_cf1ce_20 : decode cJ5_append_cf1ce 20 = .ok (.iadd, 1) := by decide +kernel
theorem dJ5_append_cf1ce_21 : decode cJ5_append_cf1ce 21 = .ok (.invokevirtual 100, 3) := by decide +kernel
theorem dJ5_append_cf1ce_24 : decode cJ5_append_cf1ce 24 = .ok (.aload_n 0, 1) := by decide +kernel
theorem dJ5_append_cf1ce_25 : decode cJ5_append_cf1ce 25 = .ok (.aload_n 0, 1) := by decide +kernel
theorem dJ5_append_cf1ce_26 : decode cJ5_append_cf1ce 26 = .ok (.getfield 79, 3) := by decide +kernel
theorem dJ5_append_cf1ce_29 : decode cJ5_append_cf1ce 29 = .ok (.aload_n 1, 1) := by decide +kernel
theorem dJ5_append_cf1ce_30 : decode cJ5_append_cf1ce 30 = .ok (.invokevirtual 208, 3) := by decide +kernel
theorem dJ5_append_cf1ce_33 : decode cJ5_append_cf1ce 33 = .ok (.aload_n 0, 1) := by decide +kernel
theorem dJ5_append_cf1ce_34 : decode cJ5_append_cf1ce 34 = .ok (.dup, 1) := by decide +kernel
theorem dJ5_append_cf1ce_35 : decode cJ5_append_cf1ce 35 = .ok (.getfield 79, 3) := by decide +kernel
theorem dJ5_append_cf1ce_38 : decode cJ5_append_cf1ce 38 = .ok (.iload_n 2, 1) := by decide +kernel
theorem dJ5_append_cf1ce_39 : decode cJ5_append_cf1ce 39 = .ok (.iadd, 1) := by decide +kernel
theorem dJ5_append_cf1ce_40 : decode cJ5_append_cf1ce 40 = .ok (.putfield 79, 3) := by decide +kernel
theorem dJ5_append_cf1ce_43 : decode cJ5_append_cf1ce 43 = .ok (.aload_n 0, 1) := by decide +kernel
theorem dJ5_append_cf1ce_44 : decode cJ5_append_cf1ce 44 = .ok (.areturn, 1) := by decide +kernel
theorem dJ5_append_3fe6f_0 : decode cJ5_append_3fe6f 0 = .ok (.aload_n 0, 1) := by decide +kernel
theorem dJ5_append_3fe6f_1 : decode cJ5_append_3fe6f 1 = .ok (.aload_n 0, 1) := by decide +kernel
theorem dJ5_append_3fe6f_2 : decode cJ5_append_3fe6f 2 = .ok (.getfield 79, 3) := by decide +kernel
theorem dJ5_append_3fe6f_5 : decode cJ5_append_3fe6f 5 = .ok (.iconst 1, 1) := by decide +kernel
theorem dJ5_append_3fe6f_6 : decode cJ5_append_3fe6f 6 = .ok (.iadd, 1) := by decide +kernel
theorem dJ5_append_3fe6f_7 : decode cJ5_append_3fe6f 7 = .ok (.invokevirtual 100, 3) := by decide +kernel
theorem dJ5_append_3fe6f_10 : decode cJ5_append_3fe6f 10 = .ok (.aload_n 0, 1) := by decide +kernel
theorem dJ5_append_3fe6f_11 : decode cJ5_append_3fe6f 11 = .ok (.invokevirtual 83, 3) := by decide +kernel
theorem dJ5_append_3fe6f_14 : decode cJ5_append_3fe6f 14 = .ok (.ifCond .eq 31, 3) := by decide +kernel
theorem dJ5_append_3fe6f_17 : decode cJ5_append_3fe6f 17 = .ok (.iload_n 1, 1) := by decide +kernel
theorem dJ5_append_3fe6f_18 : decode cJ5_append_3fe6f 18 = .ok (.invokestatic 191, 3) := by decide +kernel
theorem dJ5_append_3fe6f_21 : decode cJ5_append_3fe6f 21 = .ok (.ifCond .eq 24, 3) := by decide +kernel
theorem dJ5_append_3fe6f_24 : decode cJ5_append_3fe6f 24 = .ok (.aload_n 0, 1) := by decide +kernel
theorem dJ5_append_3fe6f_25 : decode cJ5_append_3fe6f 25 = .ok (.getfield 15, 3) := by decide +kernel
theorem dJ5_append_3fe6f_28 : decode cJ5_append_3fe6f 28 = .ok (.aload_n 0, 1) := by decide +kernel
theorem dJ5_append_3fe6f_29 : decode cJ5_append_3fe6f 29 = .ok (.dup, 1) := by decide +kernel
theorem dJ5_append_3fe6f_30 : decode cJ5_append_3fe6f 30 = .ok (.getfield 79, 3) := by decide +kernel
theorem dJ5_append_3fe6f_33 : decode cJ5_append_3fe6f 33 = .ok (.dup_x1, 1) := by decide +kernel
theorem dJ5_append_3fe6f_34 : decode cJ5_append_3fe6f 34 = .ok (.iconst 1, 1) := by decide +kernel
theorem dJ5_append_3fe6f_35 : decode cJ5_append_3fe6f 35 = .ok (.iadd, 1) := by decide +kernel
theorem dJ5_append_3fe6f_36 : decode cJ5_append_3fe6f 36 = .ok (.putfield 79, 3) := by decide +kernel
theorem dJ5_append_3fe6f_39 : decode cJ5_append_3fe6f 39 = .ok (.iload_n 1, 1) := by decide +kernel
theorem dJ5_append_3fe6f_40 : decode cJ5_append_3fe6f 40 = .ok (.i2b, 1) := by decide +kernel
theorem dJ5_append_3fe6f_41 : decode cJ5_append_3fe6f 41 = .ok (.bastore, 1) := by decide +kernel
theorem dJ5_append_3fe6f_42 : decode cJ5_append_3fe6f 42 = .ok (.goto 33, 3) := by decide +kernel
theorem dJ5_append_3fe6f_45 : decode cJ5_append_3fe6f 45 = .ok (.aload_n 0, 1) := by decide +kernel
theorem dJ5_append_3fe6f_46 : decode cJ5_append_3fe6f 46 = .ok (.invokevirtual 83, 3) := by decide +kernel
theorem dJ5_append_3fe6f_49 : decode cJ5_append_3fe6f 49 = .ok (.ifCond .eq 7, 3) := by decide +kernel
theorem dJ5_append_3fe6f_52 : decode cJ5_append_3fe6f 52 = .ok (.aload_n 0, 1) := by decide +kernel
theorem dJ5_append_3fe6f_53 : decode cJ5_append_3fe6f 53 = .ok (.invokevirtual 195, 3) := by decide +kernel
theorem dJ5_append_3fe6f_56 : decode cJ5_append_3fe6f 56 = .ok (.aload_n 0, 1) := by decide +kernel
theorem dJ5_append_3fe6f_57 : decode cJ5_append_3fe6f 57 = .ok (.getfield 15, 3) := by decide +kernel
theorem dJ5_append_3fe6f_60 : decode cJ5_append_3fe6f 60 = .ok (.aload_n 0, 1) := by decide +kernel
theorem dJ5_append_3fe6f_61 : decode cJ5_append_3fe6f 61 = .ok (.dup, 1) := by decide +kernel
theorem dJ5_append_3fe6f_62 : decode cJ5_append_3fe6f 62 = .ok (.getfield 79, 3) := by decide +kernel
theorem dJ5_append_3fe6f_65 : decode cJ5_append_3fe6f 65 = .ok (.dup_x1, 1) := by decide +kernel
theorem dJ5_append_3fe6f_66 : decode cJ5_append_3fe6f 66 = .ok (.iconst 1, 1) := by decide +kernel
theorem dJ5_append_3fe6f_67 : decode cJ5_append_3fe6f 67 = .ok (.iadd, 1) := by decide +kernel
theorem dJ5_append_3fe6f_68 : decode cJ5_append_3fe6f 68 = .ok (.putfield 79, 3) := by decide +kernel
theorem dJ5_append_3fe6f_71 : decode cJ5_append_3fe6f 71 = .ok (.iload_n 1, 1) := by decide +kernel
theorem dJ5_append_3fe6f_72 : decode cJ5_append_3fe6f 72 = .ok (.invokestatic 197, 3) := by decide +kernel
theorem dJ5_append_3fe6f_75 : decode cJ5_append_3fe6f 75 = .ok (.aload_n 0, 1) := by decide +kernel
theorem dJ5_append_3fe6f_76 : decode cJ5_append_3fe6f 76 = .ok (.areturn, 1) := by decide +kernel
theorem dJ5_getValue_6d5f1_0 : decode cJ5_getValue_6d5f1 0 = .ok (.aload_n 0, 1) := by decide +kernel
theorem dJ5_getValue_6d5f1_1 : decode cJ5_getValue_6d5f1 1 = .ok (.getfield 15, 3) := by decide +kernel
theorem dJ5_getValue_6d5f1_4 : decode cJ5_getValue_6d5f1 4 = .ok (.areturn, 1) := by decide +kernel
theorem dJ5_isLatin1_aae02_0 : decode cJ5_isLatin1_aae02 0 = .ok (.getstatic 18, 3) := by decide +kernel
theorem dJ5_isLatin1_aae02_3 : decode cJ5_isLatin1_aae02 3 = .ok (.ifCond .eq 14, 3) := by decide +kernel
theorem dJ5_isLatin1_aae02_6 : decode cJ5_isLatin1_aae02 6 = .ok (.aload_n 0, 1) := by decide +kernel
theorem dJ5_isLatin1_aae02_7 : decode cJ5_isLatin1_aae02 7 = .ok (.getfield 22, 3) := by decide +kernel
theorem dJ5_isLatin1_aae02_10 : decode cJ5_isLatin1_aae02 10 = .ok (.ifCond .ne 7, 3) := by decide +kernel
theorem dJ5_isLatin1_aae02_13 : decode cJ5_isLatin1_aae02 13 = .ok (.iconst 1, 1) := by decide +kernel
theorem dJ5_isLatin1_aae02_14 : decode cJ5_isLatin1_aae02 14 = .ok (.goto 4, 3) := by decide +kernel
theorem dJ5_isLatin1_aae02_17 : decode cJ5_isLatin1_aae02 17 = .ok (.iconst 0, 1) := by decide +kernel
theorem dJ5_isLatin1_aae02_18 : decode cJ5_isLatin1_aae02 18 = .ok (.ireturn, 1) := by decide +kernel
theorem dJ5_inflateIfNeededFor_a7421_0 : decode cJ5_inflateIfNeededFor_a7421 0 = .ok (.getstatic 18, 3) := by decide +kernel
theorem dJ5_inflateIfNeededFor_a7421_3 : decode cJ5_inflateIfNeededFor_a7421 3 = .ok (.ifCond .eq 18, 3) := by decide +kernel
theorem dJ5_inflateIfNeededFor_a7421_6 : decode cJ5_inflateIfNeededFor_a7421 6 = .ok (.aload_n 0, 1) := by decide +kernel
theorem dJ5_inflateIfNeededFor_a7421_7 : decode cJ5_inflateIfNeededFor_a7421 7 = .ok (.getfield 22, 3) := by decide +kernel
theorem dJ5_inflateIfNeededFor_a7421_10 : decode cJ5_inflateIfNeededFor_a7421 10 = .ok (.aload_n 1, 1) := by decide +kernel
theorem dJ5_inflateIfNeededFor_a7421_11 : decode cJ5_inflateIfNeededFor_a7421 11 = .ok (.invokevirtual 40, 3) := by decide +kernel
theorem dJ5_inflateIfNeededFor_a7421_14 : decode cJ5_inflateIfNeededFor_a7421 14 = .ok (.if_icmp .eq 7, 3) := by decide +kernel
theorem dJ5_inflateIfNeededFor_a7421_17 : decode cJ5_inflateIfNeededFor_a7421 17 = .ok (.aload_n 0, 1) := by decide +kernel
theorem dJ5_inflateIfNeededFor_a7421_18 : decode cJ5_inflateIfNeededFor_a7421 18 = .ok (.invokevirtual 195, 3) := by decide +kernel
theorem dJ5_inflateIfNeededFor_a7421_21 : decode cJ5_inflateIfNeededFor_a7421 21 = .ok (.return_, 1) := by decide +kernel
theorem dJ5_putStringAt_47b60_0 : decode cJ5_putStringAt_47b60 0 = .ok (.aload_n 0, 1) := by decide +kernel
theorem dJ5_putStringAt_47b60_1 : decode cJ5_putStringAt_47b60 1 = .ok (.aload_n 2, 1) := by decide +kernel
theorem dJ5_putStringAt_47b60_2 : decode cJ5_putStringAt_47b60 2 = .ok (.invokevirtual 397, 3) := by decide +kernel
theorem dJ5_putStringAt_47b60_5 : decode cJ5_putStringAt_47b60 5 = .ok (.aload_n 2, 1) := by decide +kernel
theorem dJ5_putStringAt_47b60_6 : decode cJ5_putStringAt_47b60 6 = .ok (.aload_n 0, 1) := by decide +kernel
theorem dJ5_putStringAt_47b60_7 : decode cJ5_putStringAt_47b60 7 = .ok (.getfield 15, 3) := by decide +kernel
theorem dJ5_putStringAt_47b60_10 : decode cJ5_putStringAt_47b60 10 = .ok (.iload_n 1, 1) := by decide +kernel
theorem dJ5_putStringAt_47b60_11 : decode cJ5_putStringAt_47b60 11 = .ok (.aload_n 0, 1) := by decide +kernel
theorem dJ5_putStringAt_47b60_12 : decode cJ5_putStringAt_47b60 12 = .ok (.getfield 22, 3) := by decide +kernel
theorem dJ5_putStringAt_47b60_15 : decode cJ5_putStringAt_47b60 15 = .ok (.invokevirtual 399, 3) := by decide +kernel
theorem dJ5_putStringAt_47b60_18 : decode cJ5_putStringAt_47b60 18 = .ok (.return_, 1) := by decide +kernel
theorem dJ11_isValidCodePoint_9a6ad_0 : decode cJ11_isValidCodePoint_9a6ad 0 = .ok (.iload_n 0, 1) := by decide +kernel
theorem dJ11_isValidCodePoint_9a6ad_1 : decode cJ11_isValidCodePoint_9a6ad 1 = .ok (.bipush 16, 2) := by decide +kernel
theorem dJ11_isValidCodePoint_9a6ad_3 : decode cJ11_isValidCodePoint_9a6ad 3 = .ok (.iushr, 1) := by decide +kernel
theorem dJ11_isValidCodePoint_9a6ad_4 : decode cJ11_isValidCodePoint_9a6ad 4 = .ok (.istore_n 1, 1) := by decide +kernel
theorem dJ11_isValidCodePoint_9a6ad_5 : decode cJ11_isValidCodePoint_9a6ad 5 = .ok (.iload_n 1, 1) := by decide +kernel
theorem dJ11_isValidCodePoint_9a6ad_6 : decode cJ11_isValidCodePoint_9a6ad 6 = .ok (.bipush 17, 2) := by decide +kernel
theorem dJ11_isValidCodePoint_9a6ad_8 : decode cJ11_isValidCodePoint_9a6ad 8 = .ok (.if_icmp .ge 7, 3) := by decide +kernel
theorem dJ11_isValidCodePoint_9a6ad_11 : decode cJ11_isValidCodePoint_9a6ad 11 = .ok (.iconst 1, 1) := by decide +kernel
theorem dJ11_isValidCodePoint_9a6ad_12 : decode cJ11_isValidCodePoint_9a6ad 12 = .ok (.goto 4, 3) := by decide +kernel
theorem dJ11_isValidCodePoint_9a6ad_15 : decode cJ11_isValidCodePoint_9a6ad 15 = .ok (.iconst 0, 1) := by decide +kernel
theorem dJ11_isValidCodePoint_9a6ad_16 : decode cJ11_isValidCodePoint_9a6ad 16 = .ok (.ireturn, 1) := by decide +kernel
theorem dJ9_abs_0f7a4_0 : decode cJ9_abs_0f7a4 0 = .ok (.iload_n 0, 1) := by decide +kernel
theorem dJ9_abs_0f7a4_1 : decode cJ9_abs_0f7a4 1 = .ok (.ifCond .ge 8, 3) := by decide +kernel
theorem dJ9_abs_0f7a4_4 : decode cJ9_abs_0f7a4 4 = .ok (.iload_n 0, 1) := by decide +kernel
theorem dJ9_abs_0f7a4_5 : decode cJ9_abs_0f7a4 5 = .ok (.ineg, 1) := by decide +kernel
theorem dJ9_abs_0f7a4_6 : decode cJ9_abs_0f7a4 6 = .ok (.goto 4, 3) := by decide +kernel
theorem dJ9_abs_0f7a4_9 : decode cJ9_abs_0f7a4 9 = .ok (.iload_n 0, 1) := by decide +kernel
theorem dJ9_abs_0f7a4_10 : decode cJ9_abs_0f7a4 10 = .ok (.ireturn, 1) := by decide +kernel
theorem dJ9_max_7cf53_0 : decode cJ9_max_7cf53 0 = .ok (.iload_n 0, 1) := by decide +kernel
theorem dJ9_max_7cf53_1 : decode cJ9_max_7cf53 1 = .ok (.iload_n 1, 1) := by decide +kernel
theorem dJ9_max_7cf53_2 : decode cJ9_max_7cf53 2 = .ok (.if_icmp .lt 7, 3) := by decide +kernel
theorem dJ9_max_7cf53_5 : decode cJ9_max_7cf53 5 = .ok (.iload_n 0, 1) := by decide +kernel
theorem dJ9_max_7cf53_6 : decode cJ9_max_7cf53 6 = .ok (.goto 4, 3) := by decide +kernel
theorem dJ9_max_7cf53_9 : decode cJ9_max_7cf53 9 = .ok (.iload_n 1, 1) := by decide +kernel
theorem dJ9_max_7cf53_10 : decode cJ9_max_7cf53 10 = .ok (.ireturn, 1) := by decide +kernel
theorem dJ9_min_7cf53_0 : decode cJ9_min_7cf53 0 = .ok (.iload_n 0, 1) := by decide +kernel
theorem dJ9_min_7cf53_1 : decode cJ9_min_7cf53 1 = .ok (.iload_n 1, 1) := by decide +kernel
theorem dJ9_min_7cf53_2 : decode cJ9_min_7cf53 2 = .ok (.if_icmp .gt 7, 3) := by decide +kernel
theorem dJ9_min_7cf53_5 : decode cJ9_min_7cf53 5 = .ok (.iload_n 0, 1) := by decide +kernel
theorem dJ9_min_7cf53_6 : decode cJ9_min_7cf53 6 = .ok (.goto 4, 3) := by decide +kernel
theorem dJ9_min_7cf53_9 : decode cJ9_min_7cf53 9 = .ok (.iload_n 1, 1) := by decide +kernel
theorem dJ9_min_7cf53_10 : decode cJ9_min_7cf53 10 = .ok (.ireturn, 1) := by decide +kernel
theorem dJ0_init_81219_0 : decode cJ0_init_81219 0 = .ok (.aload_n 0, 1) := by decide +kernel
theorem dJ0_init_81219_1 : decode cJ0_init_81219 1 = .ok (.aload_n 1, 1) := by decide +kernel
theorem dJ0_init_81219_2 : decode cJ0_init_81219 2 = .ok (.aconst_null, 1) := by decide +kernel
theorem dJ0_init_81219_3 : decode cJ0_init_81219 3 = .ok (.invokespecial 489, 3) := by decide +kernel
theorem dJ0_init_81219_6 : decode cJ0_init_81219 6 = .ok (.return_, 1) := by decide +kernel
theorem dJ0_length_8abf5_0 : decode cJ0_length_8abf5 0 = .ok (.aload_n 0, 1) := by decide +kernel
theorem dJ0_length_8abf5_1 : decode cJ0_length_8abf5 1 = .ok (.getfield 9, 3) := by decide +kernel
theorem dJ0_length_8abf5_4 : decode cJ0_length_8abf5 4 = .ok (.arraylength, 1) := by decide +kernel
theorem dJ0_length_8abf5_5 : decode cJ0_length_8abf5 5 = .ok (.aload_n 0, 1) := by decide +kernel
theorem dJ0_length_8abf5_6 : decode cJ0_length_8abf5 6 = .ok (.invokevirtual 335, 3) := by decide +kernel
theorem dJ0_length_8abf5_9 : decode cJ0_length_8abf5 9 = .ok (.ishr, 1) := by decide +kernel
theorem dJ0_length_8abf5_10 : decode cJ0_length_8abf5 10 = .ok (.ireturn, 1) := by decide +kernel
theorem dJ0_isEmpty_aae02_0 : decode cJ0_isEmpty_aae02 0 = .ok (.aload_n 0, 1) := by decide +kernel
theorem dJ0_isEmpty_aae02_1 : decode cJ0_isEmpty_aae02 1 = .ok (.getfield 9, 3) := by decide +kernel
theorem dJ0_isEmpty_aae02_4 : decode cJ0_isEmpty_aae02 4 = .ok (.arraylength, 1) := by decide +kernel
theorem dJ0_isEmpty_aae02_5 : decode cJ0_isEmpty_aae02 5 = .ok (.ifCond .ne 7, 3) := by decide +kernel
theorem dJ0_isEmpty_aae02_8 : decode cJ0_isEmpty_aae02 8 = .ok (.iconst 1, 1) := by decide +kernel
theorem dJ0_isEmpty_aae02_9 : decode cJ0_isEmpty_aae02 9 = .ok (.goto 4, 3) := by decide +kernel
theorem dJ0_isEmpty_aae02_12 : decode cJ0_isEmpty_aae02 12 = .ok (.iconst 0, 1) := by decide +kernel
theorem dJ0_isEmpty_aae02_13 : decode cJ0_isEmpty_aae02 13 = .ok (.ireturn, 1) := by decide +kernel
theorem dJ0_charAt_5068e_0 : decode cJ0_charAt_5068e 0 = .ok (.aload_n 0, 1) := by decide +kernel
theorem dJ0_charAt_5068e_1 : decode cJ0_charAt_5068e 1 = .ok (.invokevirtual 492, 3) := by decide +kernel
theorem dJ0_charAt_5068e_4 : decode cJ0_charAt_5068e 4 = .ok (.ifCond .eq 12, 3) := by decide +kernel
theorem dJ0_charAt_5068e_7 : decode cJ0_charAt_5068e 7 = .ok (.aload_n 0, 1) := by decide +kernel
theorem dJ0_charAt_5068e_8 : decode cJ0_charAt_5068e 8 = .ok (.getfield 9, 3) := by decide +kernel
theorem dJ0_charAt_5068e_11 : decode cJ0_charAt_5068e 11 = .ok (.iload_n 1, 1) := by decide +kernel
theorem dJ0_charAt_5068e_12 : decode cJ0_charAt_5068e 12 = .ok (.invokestatic 495, 3) := by decide +kernel
theorem dJ0_charAt_5068e_15 : decode cJ0_charAt_5068e 15 = .ok (.ireturn, 1) := by decide +kernel
theorem dJ0_charAt_5068e_16 : decode cJ0_charAt_5068e 16 = .ok (.aload_n 0, 1) := by decide +kernel
theorem dJ0_charAt_5068e_17 : decode cJ0_charAt_5068e 17 = .ok (.getfield 9, 3) := by decide +kernel
theorem dJ0_charAt_5068e_20 : decode cJ0_charAt_5068e 20 = .ok (.iload_n 1, 1) := by decide +kernel
theorem dJ0_charAt_5068e_21 : decode cJ0_charAt_5068e 21 = .ok (.invokestatic 498, 3) := by decide +kernel
theorem dJ0_charAt_5068e_24 : decode cJ0_charAt_5068e 24 = .ok (.ireturn, 1) := by decide +kernel
theorem dJ0_indexOf_0f7a4_0 : decode cJ0_indexOf_0f7a4 0 = .ok (.aload_n 0, 1) := by decide +kernel
theorem dJ0_indexOf_0f7a4_1 : decode cJ0_indexOf_0f7a4 1 = .ok (.iload_n 1, 1) := by decide +kernel
theorem dJ0_indexOf_0f7a4_2 : decode cJ0_indexOf_0f7a4 2 = .ok (.iconst 0, 1) := by decide +kernel
theorem dJ0_indexOf_0f7a4_3 : decode cJ0_indexOf_0f7a4 3 = .ok (.invokevirtual 633, 3) := by decide +kernel
theorem dJ0_indexOf_0f7a4_6 : decode cJ0_indexOf_0f7a4 6 = .ok (.ireturn, 1) := by decide +kernel
theorem dJ0_indexOf_7cf53_0 : decode cJ0_indexOf_7cf53 0 = .ok (.aload_n 0, 1) := by decide +kernel
theorem dJ0_indexOf_7cf53_1 : decode cJ0_indexOf_7cf53 1 = .ok (.invokevirtual 492, 3) := by decide +kernel
theorem dJ0_indexOf_7cf53_4 : decode cJ0_indexOf_7cf53 4 = .ok (.ifCond .eq 19, 3) := by decide +kernel
theorem dJ0_indexOf_7cf53_7 : decode cJ0_indexOf_7cf53 7 = .ok (.aload_n 0, 1) := by decide +kernel
theorem dJ0_indexOf_7cf53_8 : decode cJ0_indexOf_7cf53 8 = .ok (.getfield 9, 3) := by decide +kernel
theorem dJ0_indexOf_7cf53_11 : decode cJ0_indexOf_7cf53 11 = .ok (.iload_n 1, 1) := by decide +kernel
theorem dJ0_indexOf_7cf53_12 : decode cJ0_indexOf_7cf53 12 = .ok (.iload_n 2, 1) := by decide +kernel
theorem dJ0_indexOf_7cf53_13 : decode cJ0_indexOf_7cf53 13 = .ok (.aload_n 0, 1) := by decide +kernel
theorem dJ0_indexOf_7cf53_14 : decode cJ0_indexOf_7cf53 14 = .ok (.invokevirtual 505, 3) := by decide +kernel
theorem dJ0_indexOf_7cf53_17 : decode cJ0_indexOf_7cf53 17 = .ok (.invokestatic 637, 3) := by decide +kernel
theorem dJ0_indexOf_7cf53_20 : decode cJ0_indexOf_7cf53 20 = .ok (.goto 16, 3) := by decide +kernel
theorem dJ0_indexOf_7cf53_23 : decode cJ0_indexOf_7cf53 23 = .ok (.aload_n 0, 1) := by decide +kernel
theorem dJ0_indexOf_7cf53_24 : decode cJ0_indexOf_7cf53 24 = .ok (.getfield 9, 3) := by decide +kernel
theorem dJ0_indexOf_7cf53_27 : decode cJ0_indexOf_7cf53 27 = .ok (.iload_n 1, 1) := by decide +kernel
theorem dJ0_indexOf_7cf53_28 : decode cJ0_indexOf_7cf53 28 = .ok (.iload_n 2, 1) := by decide +kernel
theorem dJ0_indexOf_7cf53_29 : decode cJ0_indexOf_7cf53 29 = .ok (.aload_n 0, 1) := by decide +kernel
theorem dJ0_indexOf_7cf53_30 : decode cJ0_indexOf_7cf53 30 = .ok (.invokevirtual 505, 3) := by decide +kernel
theorem dJ0_indexOf_7cf53_33 : decode cJ0_indexOf_7cf53 33 = .ok (.invokestatic 640, 3) := by decide +kernel
theorem dJ0_indexOf_7cf53_36 : decode cJ0_indexOf_7cf53 36 = .ok (.ireturn, 1) := by decide +kernel
theorem dJ0_getBytes_840e7_0 : decode cJ0_getBytes_840e7 0 = .ok (.aload_n 0, 1) := by decide +kernel
theorem dJ0_getBytes_840e7_1 : decode cJ0_getBytes_840e7 1 = .ok (.invokevirtual 335, 3) := by decide +kernel
theorem dJ0_getBytes_840e7_4 : decode cJ0_getBytes_840e7 4 = .ok (.iload_n 3, 1) := by decide +kernel
theorem dJ0_getBytes_840e7_5 : decode cJ0_getBytes_840e7 5 = .ok (.if_icmp .ne 23, 3) := by decide +kernel
theorem dJ0_getBytes_840e7_8 : decode cJ0_getBytes_840e7 8 = .ok (.aload_n 0, 1) := by decide +kernel
theorem dJ0_getBytes_840e7_9 : decode cJ0_getBytes_840e7 9 = .ok (.getfield 9, 3) := by decide +kernel
theorem dJ0_getBytes_840e7_12 : decode cJ0_getBytes_840e7 12 = .ok (.iconst 0, 1) := by decide +kernel
theorem dJ0_getBytes_840e7_13 : decode cJ0_getBytes_840e7 13 = .ok (.aload_n 1, 1) := by decide +kernel
theorem dJ0_getBytes_840e7_14 : decode cJ0_getBytes_840e7 14 = .ok (.iload_n 2, 1) := by decide +kernel
theorem dJ0_getBytes_840e7_15 : decode cJ0_getBytes_840e7 15 = .ok (.iload_n 3, 1) := by decide +kernel
theorem dJ0_getBytes_840e7_16 : decode cJ0_getBytes_840e7 16 = .ok (.ishl, 1) := by decide +kernel
theorem dJ0_getBytes_840e7_17 : decode cJ0_getBytes_840e7 17 = .ok (.aload_n 0, 1) := by decide +kernel
theorem dJ0_getBytes_840e7_18 : decode cJ0_getBytes_840e7 18 = .ok (.getfield 9, 3) := by decide +kernel
theorem dJ0_getBytes_840e7_21 : decode cJ0_getBytes_840e7 21 = .ok (.arraylength, 1) := by decide +kernel
theorem dJ0_getBytes_840e7_22 : decode cJ0_getBytes_840e7 22 = .ok (.invokestatic 212, 3) := by decide +kernel
theorem dJ0_getBytes_840e7_25 : decode cJ0_getBytes_840e7 25 = .ok (.goto 18, 3) := by decide +kernel
theorem dJ0_getBytes_840e7_28 : decode cJ0_getBytes_840e7 28 = .ok (.aload_n 0, 1) := by decide +kernel
theorem dJ0_getBytes_840e7_29 : decode cJ0_getBytes_840e7 29 = .ok (.getfield 9, 3) := by decide +kernel
theorem dJ0_getBytes_840e7_32 : decode cJ0_getBytes_840e7 32 = .ok (.iconst 0, 1) := by decide +kernel
theorem dJ0_getBytes_840e7_33 : decode cJ0_getBytes_840e7 33 = .ok (.aload_n 1, 1) := by decide +kernel
theorem dJ0_getBytes_840e7_34 : decode cJ0_getBytes_840e7 34 = .ok (.iload_n 2, 1) := by decide +kernel
theorem dJ0_getBytes_840e7_35 : decode cJ0_getBytes_840e7 35 = .ok (.aload_n 0, 1) := by decide +kernel
theorem dJ0_getBytes_840e7_36 : decode cJ0_getBytes_840e7 36 = .ok (.getfield 9, 3) := by decide +kernel
theorem dJ0_getBytes_840e7_39 : decode cJ0_getBytes_840e7 39 = .ok (.arraylength, 1) := by decide +kernel
theorem dJ0_getBytes_840e7_40 : decode cJ0_getBytes_840e7 40 = .ok (.invokestatic 106, 3) := by decide +kernel
theorem dJ0_getBytes_840e7_43 : decode cJ0_getBytes_840e7 43 = .ok (.return_, 1) := by decide +kernel
theorem dJ0_init_db425_0 : decode cJ0_init_db425 0 = .ok (.aload_n 0, 1) := by decide +kernel
theorem dJ0_init_db425_1 : decode cJ0_init_db425 1 = .ok (.invokespecial 1, 3) := by decide +kernel
theorem dJ0_init_db425_4 : decode cJ0_init_db425 4 = .ok (.aload_n 1, 1) := by decide +kernel
theorem dJ0_init_db425_5 : decode cJ0_init_db425 5 = .ok (.invokevirtual 552, 3) := by decide +kernel
theorem dJ0_init_db425_8 : decode cJ0_init_db425 8 = .ok (.astore_n 3, 1) := by decide +kernel
theorem dJ0_init_db425_9 : decode cJ0_init_db425 9 = .ok (.aload_n 1, 1) := by decide +kernel
theorem dJ0_init_db425_10 : decode cJ0_init_db425 10 = .ok (.invokevirtual 549, 3) := by decide +kernel
theorem dJ0_init_db425_13 : decode cJ0_init_db425 13 = .ok (.istore 4, 2) := by decide +kernel
theorem dJ0_init_db425_15 : decode cJ0_init_db425 15 = .ok (.aload_n 1, 1) := by decide +kernel
theorem dJ0_init_db425_16 : decode cJ0_init_db425 16 = .ok (.invokevirtual 1047, 3) := by decide +kernel
theorem dJ0_init_db425_19 : decode cJ0_init_db425 19 = .ok (.ifCond .eq 22, 3) := by decide +kernel
theorem dJ0_init_db425_22 : decode cJ0_init_db425 22 = .ok (.aload_n 0, 1) := by decide +kernel
theorem dJ0_init_db425_23 : decode cJ0_init_db425 23 = .ok (.iconst 0, 1) := by decide +kernel
theorem dJ0_init_db425_24 : decode cJ0_init_db425 24 = .ok (.putfield 15, 3) := by decide +kernel
theorem dJ0_init_db425_27 : decode cJ0_init_db425 27 = .ok (.aload_n 0, 1) := by decide +kernel
theorem dJ0_init_db425_28 : decode cJ0_init_db425 28 = .ok (.aload_n 3, 1) := by decide +kernel
theorem dJ0_init_db425_29 : decode cJ0_init_db425 29 = .ok (.iconst 0, 1) := by decide +kernel
theorem dJ0_init_db425_30 : decode cJ0_init_db425 30 = .ok (.iload 4, 2) := by decide +kernel
theorem dJ0_init_db425_32 : decode cJ0_init_db425 32 = .ok (.invokestatic 54, 3) := by decide +kernel
theorem dJ0_init_db425_35 : decode cJ0_init_db425 35 = .ok (.putfield 9, 3) := by decide +kernel
theorem dJ0_init_db425_38 : decode cJ0_init_db425 38 = .ok (.goto 59, 3) := by decide +kernel
theorem dJ0_init_db425_41 : decode cJ0_init_db425 41 = .ok (.getstatic 38, 3) := by decide +kernel
theorem dJ0_init_db425_44 : decode cJ0_init_db425 44 = .ok (.ifCond .eq 35, 3) := by decide +kernel
theorem dJ0_init_db425_47 : decode cJ0_init_db425 47 = .ok (.aload_n 1, 1) := by decide +kernel
theorem dJ0_init_db425_48 : decode cJ0_init_db425 48 = .ok (.getfield 1048, 3) := by decide +kernel
theorem dJ0_init_db425_51 : decode cJ0_init_db425 51 = .ok (.ifCond .eq 28, 3) := by decide +kernel
theorem dJ0_init_db425_54 : decode cJ0_init_db425 54 = .ok (.aload_n 0, 1) := by decide +kernel
theorem dJ0_init_db425_55 : decode cJ0_init_db425 55 = .ok (.aload_n 3, 1) := by decide +kernel
theorem dJ0_init_db425_56 : decode cJ0_init_db425 56 = .ok (.iconst 0, 1) := by decide +kernel
theorem dJ0_init_db425_57 : decode cJ0_init_db425 57 = .ok (.iload 4, 2) := by decide +kernel
theorem dJ0_init_db425_59 : decode cJ0_init_db425 59 = .ok (.invokestatic 1051, 3) := by decide +kernel
theorem dJ0_init_db425_62 : decode cJ0_init_db425 62 = .ok (.putfield 9, 3) := by decide +kernel
theorem dJ0_init_db425_65 : decode cJ0_init_db425 65 = .ok (.aload_n 0, 1) := by decide +kernel
theorem dJ0_init_db425_66 : decode cJ0_init_db425 66 = .ok (.aload_n 0, 1) := by decide +kernel
theorem dJ0_init_db425_67 : decode cJ0_init_db425 67 = .ok (.getfield 9, 3) := by decide +kernel
theorem dJ0_init_db425_70 : decode cJ0_init_db425 70 = .ok (.iload 4, 2) := by decide +kernel
theorem dJ0_init_db425_72 : decode cJ0_init_db425 72 = .ok (.invokestatic 47, 3) := by decide +kernel
theorem dJ0_init_db425_75 : decode cJ0_init_db425 75 = .ok (.putfield 15, 3) := by decide +kernel
theorem dJ0_init_db425_78 : decode cJ0_init_db425 78 = .ok (.return_, 1) := by decide +kernel
theorem dJ0_init_db425_79 : decode cJ0_init_db425 79 = .ok (.aload_n 0, 1) := by decide +kernel
theorem dJ0_init_db425_80 : decode cJ0_init_db425 80 = .ok (.iconst 1, 1) := by decide +kernel
theorem dJ0_init_db425_81 : decode cJ0_init_db425 81 = .ok (.putfield 15, 3) := by decide +kernel
theorem dJ0_init_db425_84 : decode cJ0_init_db425 84 = .ok (.aload_n 0, 1) := by decide +kernel
theorem dJ0_init_db425_85 : decode cJ0_init_db425 85 = .ok (.aload_n 3, 1) := by decide +kernel
theorem dJ0_init_db425_86 : decode cJ0_init_db425 86 = .ok (.iconst 0, 1) := by decide +kernel
theorem dJ0_init_db425_87 : decode cJ0_init_db425 87 = .ok (.iload 4, 2) := by decide +kernel
theorem dJ0_init_db425_89 : decode cJ0_init_db425 89 = .ok (.iconst 1, 1) := by decide +kernel
theorem dJ0_init_db425_90 : decode cJ0_init_db425 90 = .ok (.ishl, 1) := by decide +kernel
theorem dJ0_init_db425_91 : decode cJ0_init_db425 91 = .ok (.invokestatic 54, 3) := by decide +kernel
theorem dJ0_init_db425_94 : decode cJ0_init_db425 94 = .ok (.putfield 9, 3) := by decide +kernel
theorem dJ0_init_db425_97 : decode cJ0_init_db425 97 = .ok (.return_, 1) := by decide +kernel
theorem dJ0_coder_7d493_0 : decode cJ0_coder_7d493 0 = .ok (.getstatic 38, 3) := by decide +kernel
theorem dJ0_coder_7d493_3 : decode cJ0_coder_7d493 3 = .ok (.ifCond .eq 10, 3) := by decide +kernel
theorem dJ0_coder_7d493_6 : decode cJ0_coder_7d493 6 = .ok (.aload_n 0, 1) := by decide +kernel
theorem dJ0_coder_7d493_7 : decode cJ0_coder_7d493 7 = .ok (.getfield 15, 3) := by decide +kernel
theorem dJ0_coder_7d493_10 : decode cJ0_coder_7d493 10 = .ok (.goto 4, 3) := by decide +kernel
theorem dJ0_coder_7d493_13 : decode cJ0_coder_7d493 13 = .ok (.iconst 1, 1) := by decide +kernel
theorem dJ0_coder_7d493_14 : decode cJ0_coder_7d493 14 = .ok (.ireturn, 1) := by decide +kernel
theorem dJ0_isLatin1_aae02_0 : decode cJ0_isLatin1_aae02 0 = .ok (.getstatic 38, 3) := by decide +kernel
theorem dJ0_isLatin1_aae02_3 : decode cJ0_isLatin1_aae02 3 = .ok (.ifCond .eq 14, 3) := by decide +kernel
theorem dJ0_isLatin1_aae02_6 : decode cJ0_isLatin1_aae02 6 = .ok (.aload_n 0, 1) := by decide +kernel
theorem dJ0_isLatin1_aae02_7 : decode cJ0_isLatin1_aae02 7 = .ok (.getfield 15, 3) := by decide +kernel
theorem dJ0_isLatin1_aae02_10 : decode cJ0_isLatin1_aae02 10 = .ok (.ifCond .ne 7, 3) := by decide +kernel
theorem dJ0_isLatin1_aae02_13 : decode cJ0_isLatin1_aae02 13 = .ok (.iconst 1, 1) := by decide +kernel
theorem dJ0_isLatin1_aae02_14 : decode cJ0_isLatin1_aae02 14 = .ok (.goto 4, 3) := by decide +kernel
theorem dJ0_isLatin1_aae02_17 : decode cJ0_isLatin1_aae02 17 = .ok (.iconst 0, 1) := by decide +kernel
theorem dJ0_isLatin1_aae02_18 : decode cJ0_isLatin1_aae02 18 = .ok (.ireturn, 1) := by decide +kernel
theorem dJ0_checkIndex_df160_0 : decode cJ0_checkIndex_df160 0 = .ok (.iload_n 0, 1) := by decide +kernel
theorem dJ0_checkIndex_df160_1 : decode cJ0_checkIndex_df160 1 = .ok (.iload_n 1, 1) := by decide +kernel
theorem dJ0_checkIndex_df160_2 : decode cJ0_checkIndex_df160 2 = .ok (.getstatic 1053, 3) := by decide +kernel
theorem dJ0_checkIndex_df160_5 : decode cJ0_checkIndex_df160 5 = .ok (.invokestatic 1059, 3) := by decide +kernel
theorem dJ0_checkIndex_df160_8 : decode cJ0_checkIndex_df160 8 = .ok (.pop, 1) := by decide +kernel
theorem dJ0_checkIndex_df160_9 : decode cJ0_checkIndex_df160 9 = .ok (.return_, 1) := by decide +kernel
theorem dJ0_checkBoundsOffCount_cabcc_0 : decode cJ0_checkBoundsOffCount_cabcc 0 = .ok (.iload_n 0, 1) := by decide +kernel
theorem dJ0_checkBoundsOffCount_cabcc_1 : decode cJ0_checkBoundsOffCount_cabcc 1 = .ok (.iload_n 1, 1) := by decide +kernel
theorem dJ0_checkBoundsOffCount_cabcc_2 : decode cJ0_checkBoundsOffCount_cabcc 2 = .ok (.iload_n 2, 1) := by decide +kernel
theorem dJ0_checkBoundsOffCount_cabcc_3 : decode cJ0_checkBoundsOffCount_cabcc 3 = .ok (.getstatic 1053, 3) := by decide +kernel
theorem dJ0_checkBoundsOffCount_cabcc_6 : decode cJ0_checkBoundsOffCount_cabcc 6 = .ok (.invokestatic 1065, 3) := by decide +kernel
theorem dJ0_checkBoundsOffCount_cabcc_9 : decode cJ0_checkBoundsOffCount_cabcc 9 = .ok (.ireturn, 1) := by decide +kernel
theorem dJ0_checkBoundsBeginEnd_23922_0 : decode cJ0_checkBoundsBeginEnd_23922 0 = .ok (.iload_n 0, 1) := by decide +kernel
theorem dJ0_checkBoundsBeginEnd_23922_1 : decode cJ0_checkBoundsBeginEnd_23922 1 = .ok (.iload_n 1, 1) := by decide +kernel
theorem dJ0_checkBoundsBeginEnd_23922_2 : decode cJ0_checkBoundsBeginEnd_23922 2 = .ok (.iload_n 2, 1) := by decide +kernel
theorem dJ0_checkBoundsBeginEnd_23922_3 : decode cJ0_checkBoundsBeginEnd_23922 3 = .ok (.getstatic 1053, 3) := by decide +kernel
theorem dJ0_checkBoundsBeginEnd_23922_6 : decode cJ0_checkBoundsBeginEnd_23922 6 = .ok (.invokestatic 1062, 3) := by decide +kernel
theorem dJ0_checkBoundsBeginEnd_23922_9 : decode cJ0_checkBoundsBeginEnd_23922 9 = .ok (.pop, 1) := by decide +kernel
theorem dJ0_checkBoundsBeginEnd_23922_10 : decode cJ0_checkBoundsBeginEnd_23922 10 = .ok (.return_, 1) := by decide +kernel
theorem dJ4_init_da8c8_0 : decode cJ4_init_da8c8 0 = .ok (.aload_n 0, 1) := by decide +kernel
theorem dJ4_init_da8c8_1 : decode cJ4_init_da8c8 1 = .ok (.bipush 16, 2) := by decide +kernel
theorem dJ4_init_da8c8_3 : decode cJ4_init_da8c8 3 = .ok (.invokespecial 1, 3) := by decide +kernel
theorem dJ4_init_da8c8_6 : decode cJ4_init_da8c8 6 = .ok (.return_, 1) := by decide +kernel
theorem dJ4_append_15ec4_0 : decode cJ4_append_15ec4 0 = .ok (.aload_n 0, 1) := by decide +kernel
theorem dJ4_append_15ec4_1 : decode cJ4_append_15ec4 1 = .ok (.aload_n 1, 1) := by decide +kernel
theorem dJ4_append_15ec4_2 : decode cJ4_append_15ec4 2 = .ok (.invokespecial 29, 3) := by decide +kernel
theorem dJ4_append_15ec4_5 : decode cJ4_append_15ec4 5 = .ok (.pop, 1) := by decide +kernel
theorem dJ4_append_15ec4_6 : decode cJ4_append_15ec4 6 = .ok (.aload_n 0, 1) := by decide +kernel
theorem dJ4_append_15ec4_7 : decode cJ4_append_15ec4 7 = .ok (.areturn, 1) := by decide +kernel
theorem dJ4_append_cf468_0 : decode cJ4_append_cf468 0 = .ok (.aload_n 0, 1) := by decide +kernel
theorem dJ4_append_cf468_1 : decode cJ4_append_cf468 1 = .ok (.iload_n 1, 1) := by decide +kernel
theorem dJ4_append_cf468_2 : decode cJ4_append_cf468 2 = .ok (.invokespecial 50, 3) := by decide +kernel
theorem dJ4_append_cf468_5 : decode cJ4_append_cf468 5 = .ok (.pop, 1) := by decide +kernel
theorem dJ4_append_cf468_6 : decode cJ4_append_cf468 6 = .ok (.aload_n 0, 1) := by decide +kernel
theorem dJ4_append_cf468_7 : decode cJ4_append_cf468 7 = .ok (.areturn, 1) := by decide +kernel
theorem dJ4_toString_0e30d_0 : decode cJ4_toString_0e30d 0 = .ok (.new 18, 3) := by decide +kernel
theorem dJ4_toString_0e30d_3 : decode cJ4_toString_0e30d 3 = .ok (.dup, 1) := by decide +kernel
theorem dJ4_toString_0e30d_4 : decode cJ4_toString_0e30d 4 = .ok (.aload_n 0, 1) := by decide +kernel
theorem dJ4_toString_0e30d_5 : decode cJ4_toString_0e30d 5 = .ok (.invokespecial 137, 3) := by decide +kernel
theorem dJ4_toString_0e30d_8 : decode cJ4_toString_0e30d 8 = .ok (.areturn, 1) := by decide +kernel
theorem dJ4_length_8abf5_0 : decode cJ4_length_8abf5 0 = .ok (.aload_n 0, 1) := by decide +kernel
theorem dJ4_length_8abf5_1 : decode cJ4_length_8abf5 1 = .ok (.invokespecial 343, 3) := by decide +kernel
theorem dJ4_length_8abf5_4 : decode cJ4_length_8abf5 4 = .ok (.ireturn, 1) := by decide +kernel
theorem dJ1_charAt_3b067_0 : decode cJ1_charAt_3b067 0 = .ok (.iload_n 1, 1) := by decide +kernel
theorem dJ1_charAt_3b067_1 : decode cJ1_charAt_3b067 1 = .ok (.aload_n 0, 1) := by decide +kernel
theorem dJ1_charAt_3b067_2 : decode cJ1_charAt_3b067 2 = .ok (.arraylength, 1) := by decide +kernel
theorem dJ1_charAt_3b067_3 : decode cJ1_charAt_3b067 3 = .ok (.invokestatic 9, 3) := by decide +kernel
theorem dJ1_charAt_3b067_6 : decode cJ1_charAt_3b067 6 = .ok (.aload_n 0, 1) := by decide +kernel
theorem dJ1_charAt_3b067_7 : decode cJ1_charAt_3b067 7 = .ok (.iload_n 1, 1) := by decide +kernel
theorem dJ1_charAt_3b067_8 : decode cJ1_charAt_3b067 8 = .ok (.baload, 1) := by decide +kernel
theorem dJ1_charAt_3b067_9 : decode cJ1_charAt_3b067 9 = .ok (.sipush 255, 3) := by decide +kernel
theorem dJ1_charAt_3b067_12 : decode cJ1_charAt_3b067 12 = .ok (.iand, 1) := by decide +kernel
theorem dJ1_charAt_3b067_13 : decode cJ1_charAt_3b067 13 = .ok (.i2c, 1) := by decide +kernel
theorem dJ1_charAt_3b067_14 : decode cJ1_charAt_3b067 14 = .ok (.ireturn, 1) := by decide +kernel
theorem dJ1_canEncode_fc78d_0 : decode cJ1_canEncode_fc78d 0 = .ok (.iload_n 0, 1) := by decide +kernel
theorem dJ1_canEncode_fc78d_1 : decode cJ1_canEncode_fc78d 1 = .ok (.sipush 255, 3) := by decide +kernel
theorem dJ1_canEncode_fc78d_4 : decode cJ1_canEncode_fc78d 4 = .ok (.if_icmp .gt 7, 3) := by decide +kernel
theorem dJ1_canEncode_fc78d_7 : decode cJ1_canEncode_fc78d 7 = .ok (.iconst 1, 1) := by decide +kernel
theorem dJ1_canEncode_fc78d_8 : decode cJ1_canEncode_fc78d 8 = .ok (.goto 4, 3) := by decide +kernel
theorem dJ1_canEncode_fc78d_11 : decode cJ1_canEncode_fc78d 11 = .ok (.iconst 0, 1) := by decide +kernel
theorem dJ1_canEncode_fc78d_12 : decode cJ1_canEncode_fc78d 12 = .ok (.ireturn, 1) := by decide +kernel
theorem dJ1_canEncode_9a6ad_0 : decode cJ1_canEncode_9a6ad 0 = .ok (.iload_n 0, 1) := by decide +kernel
theorem dJ1_canEncode_9a6ad_1 : decode cJ1_canEncode_9a6ad 1 = .ok (.ifCond .lt 14, 3) := by decide +kernel
theorem dJ1_canEncode_9a6ad_4 : decode cJ1_canEncode_9a6ad 4 = .ok (.iload_n 0, 1) := by decide +kernel
theorem dJ1_canEncode_9a6ad_5 : decode cJ1_canEncode_9a6ad 5 = .ok (.sipush 255, 3) := by decide +kernel
theorem dJ1_canEncode_9a6ad_8 : decode cJ1_canEncode_9a6ad 8 = .ok (.if_icmp .gt 7, 3) := by decide +kernel
theorem dJ1_canEncode_9a6ad_11 : decode cJ1_canEncode_9a6ad 11 = .ok (.iconst 1, 1) := by decide +kernel
theorem dJ1_canEncode_9a6ad_12 : decode cJ1_canEncode_9a6ad 12 = .ok (.goto 4, 3) := by decide +kernel
theorem dJ1_canEncode_9a6ad_15 : decode cJ1_canEncode_9a6ad 15 = .ok (.iconst 0, 1) := by decide +kernel
theorem dJ1_canEncode_9a6ad_16 : decode cJ1_canEncode_9a6ad 16 = .ok (.ireturn, 1) := by decide +kernel
theorem dJ1_indexOf_4cfef_0 : decode cJ1_indexOf_4cfef 0 = .ok (.iload_n 1, 1) := by decide +kernel
theorem dJ1_indexOf_4cfef_1 : decode cJ1_indexOf_4cfef 1 = .ok (.invokestatic 88, 3) := by decide +kernel
theorem dJ1_indexOf_4cfef_4 : decode cJ1_indexOf_4cfef 4 = .ok (.ifCond .ne 5, 3) := by decide +kernel
theorem dJ1_indexOf_4cfef_7 : decode cJ1_indexOf_4cfef 7 = .ok (.iconst (-1), 1) := by decide +kernel
theorem dJ1_indexOf_4cfef_8 : decode cJ1_indexOf_4cfef 8 = .ok (.ireturn, 1) := by decide +kernel
theorem dJ1_indexOf_4cfef_9 : decode cJ1_indexOf_4cfef 9 = .ok (.iload_n 2, 1) := by decide +kernel
theorem dJ1_indexOf_4cfef_10 : decode cJ1_indexOf_4cfef 10 = .ok (.iconst 0, 1) := by decide +kernel
theorem dJ1_indexOf_4cfef_11 : decode cJ1_indexOf_4cfef 11 = .ok (.invokestatic 92, 3) := by decide +kernel
theorem dJ1_indexOf_4cfef_14 : decode cJ1_indexOf_4cfef 14 = .ok (.istore_n 2, 1) := by decide +kernel
theorem dJ1_indexOf_4cfef_15 : decode cJ1_indexOf_4cfef 15 = .ok (.iload_n 3, 1) := by decide +kernel
theorem dJ1_indexOf_4cfef_16 : decode cJ1_indexOf_4cfef 16 = .ok (.aload_n 0, 1) := by decide +kernel
theorem dJ1_indexOf_4cfef_17 : decode cJ1_indexOf_4cfef 17 = .ok (.arraylength, 1) := by decide +kernel
theorem dJ1_indexOf_4cfef_18 : decode cJ1_indexOf_4cfef 18 = .ok (.invokestatic 38, 3) := by decide +kernel
theorem dJ1_indexOf_4cfef_21 : decode cJ1_indexOf_4cfef 21 = .ok (.istore_n 3, 1) := by decide +kernel
theorem dJ1_indexOf_4cfef_22 : decode cJ1_indexOf_4cfef 22 = .ok (.iload_n 2, 1) := by decide +kernel
theorem dJ1_indexOf_4cfef_23 : decode cJ1_indexOf_4cfef 23 = .ok (.iload_n 3, 1) := by decide +kernel
theorem dJ1_indexOf_4cfef_24 : decode cJ1_indexOf_4cfef 24 = .ok (.if_icmp .lt 5, 3) := by decide +kernel
theorem dJ1_indexOf_4cfef_27 : decode cJ1_indexOf_4cfef 27 = .ok (.iconst (-1), 1) := by decide +kernel
theorem dJ1_indexOf_4cfef_28 : decode cJ1_indexOf_4cfef 28 = .ok (.ireturn, 1) := by decide +kernel
theorem dJ1_indexOf_4cfef_29 : decode cJ1_indexOf_4cfef 29 = .ok (.aload_n 0, 1) := by decide +kernel
theorem dJ1_indexOf_4cfef_30 : decode cJ1_indexOf_4cfef 30 = .ok (.iload_n 1, 1) := by decide +kernel
theorem dJ1_indexOf_4cfef_31 : decode cJ1_indexOf_4cfef 31 = .ok (.iload_n 2, 1) := by decide +kernel
theorem dJ1_indexOf_4cfef_32 : decode cJ1_indexOf_4cfef 32 = .ok (.iload_n 3, 1) := by decide +kernel
theorem dJ1_indexOf_4cfef_33 : decode cJ1_indexOf_4cfef 33 = .ok (.invokestatic 95, 3) := by decide +kernel
theorem dJ1_indexOf_4cfef_36 : decode cJ1_indexOf_4cfef 36 = .ok (.ireturn, 1) := by decide +kernel
theorem dJ1_indexOfChar_4cfef_0 : decode cJ1_indexOfChar_4cfef 0 = .ok (.iload_n 1, 1) := by decide +kernel
theorem dJ1_indexOfChar_4cfef_1 : decode cJ1_indexOfChar_4cfef 1 = .ok (.i2b, 1) := by decide +kernel
theorem dJ1_indexOfChar_4cfef_2 : decode cJ1_indexOfChar_4cfef 2 = .ok (.istore 4, 2) := by decide +kernel
theorem dJ1_indexOfChar_4cfef_4 : decode cJ1_indexOfChar_4cfef 4 = .ok (.iload_n 2, 1) := by decide +kernel
theorem dJ1_indexOfChar_4cfef_5 : decode cJ1_indexOfChar_4cfef 5 = .ok (.istore 5, 2) := by decide +kernel
theorem dJ1_indexOfChar_4cfef_7 : decode cJ1_indexOfChar_4cfef 7 = .ok (.iload 5, 2) := by decide +kernel
theorem dJ1_indexOfChar_4cfef_9 : decode cJ1_indexOfChar_4cfef 9 = .ok (.iload_n 3, 1) := by decide +kernel
theorem dJ1_indexOfChar_4cfef_10 : decode cJ1_indexOfChar_4cfef 10 = .ok (.if_icmp .ge 21, 3) := by decide +kernel
theorem dJ1_indexOfChar_4cfef_13 : decode cJ1_indexOfChar_4cfef 13 = .ok (.aload_n 0, 1) := by decide +kernel
theorem dJ1_indexOfChar_4cfef_14 : decode cJ1_indexOfChar_4cfef 14 = .ok (.iload 5, 2) := by decide +kernel
theorem dJ1_indexOfChar_4cfef_16 : decode cJ1_indexOfChar_4cfef 16 = .ok (.baload, 1) := by decide +kernel
theorem dJ1_indexOfChar_4cfef_17 : decode cJ1_indexOfChar_4cfef 17 = .ok (.iload 4, 2) := by decide +kernel
theorem dJ1_indexOfChar_4cfef_19 : decode cJ1_indexOfChar_4cfef 19 = .ok (.if_icmp .ne 6, 3) := by decide +kernel
theorem dJ1_indexOfChar_4cfef_22 : decode cJ1_indexOfChar_4cfef 22 = .ok (.iload 5, 2) := by decide +kernel
theorem dJ1_indexOfChar_4cfef_24 : decode cJ1_indexOfChar_4cfef 24 = .ok (.ireturn, 1) := by decide +kernel
theorem dJ1_indexOfChar_4cfef_25 : decode cJ1_indexOfChar_4cfef 25 = .ok (.iinc 5 1, 3) := by decide +kernel
theorem dJ1_indexOfChar_4cfef_28 : decode cJ1_indexOfChar_4cfef 28 = .ok (.goto (-21), 3) := by decide +kernel
theorem dJ1_indexOfChar_4cfef_31 : decode cJ1_indexOfChar_4cfef 31 = .ok (.iconst (-1), 1) := by decide +kernel
theorem dJ1_indexOfChar_4cfef_32 : decode cJ1_indexOfChar_4cfef 32 = .ok (.ireturn, 1) := by decide +kernel
theorem dJ2_newBytesFor_77867_0 : decode cJ2_newBytesFor_77867 0 = .ok (.iload_n 0, 1) := by decide +kernel
theorem dJ2_newBytesFor_77867_1 : decode cJ2_newBytesFor_77867 1 = .ok (.invokestatic 11, 3) := by decide +kernel
theorem dJ2_newBytesFor_77867_4 : decode cJ2_newBytesFor_77867 4 = .ok (.newarray .byte, 2) := by decide +kernel
theorem dJ2_newBytesFor_77867_6 : decode cJ2_newBytesFor_77867 6 = .ok (.areturn, 1) := by decide +kernel
theorem dJ2_newBytesLength_0f7a4_0 : decode cJ2_newBytesLength_0f7a4 0 = .ok (.iload_n 0, 1) := by decide +kernel
theorem dJ2_newBytesLength_0f7a4_1 : decode cJ2_newBytesLength_0f7a4 1 = .ok (.ifCond .ge 11, 3) := by decide +kernel
theorem dJ2_newBytesLength_0f7a4_4 : decode cJ2_newBytesLength_0f7a4 4 = .ok (.new 17, 3) := by decide +kernel
theorem dJ2_newBytesLength_0f7a4_7 : decode cJ2_newBytesLength_0f7a4 7 = .ok (.dup, 1) := by decide +kernel
theorem dJ2_newBytesLength_0f7a4_8 : decode cJ2_newBytesLength_0f7a4 8 = .ok (.invokespecial 19, 3) := by decide +kernel
theorem dJ2_newBytesLength_0f7a4_11 : decode cJ2_newBytesLength_0f7a4 11 = .ok (.athrow, 1) := by decide +kernel
theorem dJ2_newBytesLength_0f7a4_12 : decode cJ2_newBytesLength_0f7a4 12 = .ok (.iload_n 0, 1) := by decide +kernel
theorem dJ2_newBytesLength_0f7a4_13 : decode cJ2_newBytesLength_0f7a4 13 = .ok (.ldc 20, 2) := by decide +kernel
theorem dJ2_newBytesLength_0f7a4_15 : decode cJ2_newBytesLength_0f7a4 15 = .ok (.if_icmp .lt 40, 3) := by decide +kernel
theorem dJ2_newBytesLength_0f7a4_18 : decode cJ2_newBytesLength_0f7a4 18 = .ok (.new 21, 3) := by decide +kernel
theorem dJ2_newBytesLength_0f7a4_21 : decode cJ2_newBytesLength_0f7a4 21 = .ok (.dup, 1) := by decide +kernel
theorem dJ2_newBytesLength_0f7a4_22 : decode cJ2_newBytesLength_0f7a4 22 = .ok (.new 23, 3) := by decide +kernel
theorem dJ2_newBytesLength_0f7a4_25 : decode cJ2_newBytesLength_0f7a4 25 = .ok (.dup, 1) := by decide +kernel
theorem dJ2_newBytesLength_0f7a4_26 : decode cJ2_newBytesLength_0f7a4 26 = .ok (.invokespecial 25, 3) := by decide +kernel
theorem dJ2_newBytesLength_0f7a4_29 : decode cJ2_newBytesLength_0f7a4 29 = .ok (.ldc 26, 2) := by decide +kernel
theorem dJ2_newBytesLength_0f7a4_31 : decode cJ2_newBytesLength_0f7a4 31 = .ok (.invokevirtual 28, 3) := by decide +kernel
theorem dJ2_newBytesLength_0f7a4_34 : decode cJ2_newBytesLength_0f7a4 34 = .ok (.iload_n 0, 1) := by decide +kernel
theorem dJ2_newBytesLength_0f7a4_35 : decode cJ2_newBytesLength_0f7a4 35 = .ok (.invokevirtual 32, 3) := by decide +kernel
theorem dJ2_newBytesLength_0f7a4_38 : decode cJ2_newBytesLength_0f7a4 38 = .ok (.ldc 35, 2) := by decide +kernel
theorem dJ2_newBytesLength_0f7a4_40 : decode cJ2_newBytesLength_0f7a4 40 = .ok (.invokevirtual 28, 3) := by decide +kernel
theorem dJ2_newBytesLength_0f7a4_43 : decode cJ2_newBytesLength_0f7a4 43 = .ok (.ldc 20, 2) := by decide +kernel
theorem dJ2_newBytesLength_0f7a4_45 : decode cJ2_newBytesLength_0f7a4 45 = .ok (.invokevirtual 32, 3) := by decide +kernel
theorem dJ2_newBytesLength_0f7a4_48 : decode cJ2_newBytesLength_0f7a4 48 = .ok (.invokevirtual 37, 3) := by decide +kernel
theorem dJ2_newBytesLength_0f7a4_51 : decode cJ2_newBytesLength_0f7a4 51 = .ok (.invokespecial 41, 3) := by decide +kernel
theorem dJ2_newBytesLength_0f7a4_54 : decode cJ2_newBytesLength_0f7a4 54 = .ok (.athrow, 1) := by decide +kernel
theorem dJ2_newBytesLength_0f7a4_55 : decode cJ2_newBytesLength_0f7a4 55 = .ok (.iload_n 0, 1) := by decide +kernel
theorem dJ2_newBytesLength_0f7a4_56 : decode cJ2_newBytesLength_0f7a4 56 = .ok (.iconst 1, 1) := by decide +kernel
theorem dJ2_newBytesLength_0f7a4_57 : decode cJ2_newBytesLength_0f7a4 57 = .ok (.ishl, 1) := by decide +kernel
theorem dJ2_newBytesLength_0f7a4_58 : decode cJ2_newBytesLength_0f7a4 58 = .ok (.ireturn, 1) := by decide +kernel
theorem dJ2_length_9d52b_0 : decode cJ2_length_9d52b 0 = .ok (.aload_n 0, 1) := by decide +kernel
theorem dJ2_length_9d52b_1 : decode cJ2_length_9d52b 1 = .ok (.arraylength, 1) := by decide +kernel
theorem dJ2_length_9d52b_2 : decode cJ2_length_9d52b 2 = .ok (.iconst 1, 1) := by decide +kernel
theorem dJ2_length_9d52b_3 : decode cJ2_length_9d52b 3 = .ok (.ishr, 1) := by decide +kernel
theorem dJ2_length_9d52b_4 : decode cJ2_length_9d52b 4 = .ok (.ireturn, 1) := by decide +kernel
theorem dJ2_coderFromArrayLen_85cad_0 : decode cJ2_coderFromArrayLen_85cad 0 = .ok (.iload_n 1, 1) := by decide +kernel
theorem dJ2_coderFromArrayLen_85cad_1 : decode cJ2_coderFromArrayLen_85cad 1 = .ok (.aload_n 0, 1) := by decide +kernel
theorem dJ2_coderFromArrayLen_85cad_2 : decode cJ2_coderFromArrayLen_85cad 2 = .ok (.arraylength, 1) := by decide +kernel
theorem dJ2_coderFromArrayLen_85cad_3 : decode cJ2_coderFromArrayLen_85cad 3 = .ok (.isub, 1) := by decide +kernel
theorem dJ2_coderFromArrayLen_85cad_4 : decode cJ2_coderFromArrayLen_85cad 4 = .ok (.bipush 31, 2) := by decide +kernel
theorem dJ2_coderFromArrayLen_85cad_6 : decode cJ2_coderFromArrayLen_85cad 6 = .ok (.iushr, 1) := by decide +kernel
theorem dJ2_coderFromArrayLen_85cad_7 : decode cJ2_coderFromArrayLen_85cad 7 = .ok (.i2b, 1) := by decide +kernel
theorem dJ2_coderFromArrayLen_85cad_8 : decode cJ2_coderFromArrayLen_85cad 8 = .ok (.ireturn, 1) := by decide +kernel
theorem dJ2_putCharSB_b72d1_0 : decode cJ2_putCharSB_b72d1 0 = .ok (.iload_n 1, 1) := by decide +kernel
theorem dJ2_putCharSB_b72d1_1 : decode cJ2_putCharSB_b72d1 1 = .ok (.aload_n 0, 1) := by decide +kernel
theorem dJ2_putCharSB_b72d1_2 : decode cJ2_putCharSB_b72d1 2 = .ok (.invokestatic 67, 3) := by decide +kernel
theorem dJ2_putCharSB_b72d1_5 : decode cJ2_putCharSB_b72d1 5 = .ok (.aload_n 0, 1) := by decide +kernel
theorem dJ2_putCharSB_b72d1_6 : decode cJ2_putCharSB_b72d1 6 = .ok (.iload_n 1, 1) := by decide +kernel
theorem dJ2_putCharSB_b72d1_7 : decode cJ2_putCharSB_b72d1 7 = .ok (.iload_n 2, 1) := by decide +kernel
theorem dJ2_putCharSB_b72d1_8 : decode cJ2_putCharSB_b72d1 8 = .ok (.invokestatic 111, 3) := by decide +kernel
theorem dJ2_putCharSB_b72d1_11 : decode cJ2_putCharSB_b72d1 11 = .ok (.return_, 1) := by decide +kernel
theorem dJ2_charAt_3b067_0 : decode cJ2_charAt_3b067 0 = .ok (.iload_n 1, 1) := by decide +kernel
theorem dJ2_charAt_3b067_1 : decode cJ2_charAt_3b067 1 = .ok (.aload_n 0, 1) := by decide +kernel
theorem dJ2_charAt_3b067_2 : decode cJ2_charAt_3b067 2 = .ok (.invokestatic 67, 3) := by decide +kernel
theorem dJ2_charAt_3b067_5 : decode cJ2_charAt_3b067 5 = .ok (.aload_n 0, 1) := by decide +kernel
theorem dJ2_charAt_3b067_6 : decode cJ2_charAt_3b067 6 = .ok (.iload_n 1, 1) := by decide +kernel
theorem dJ2_charAt_3b067_7 : decode cJ2_charAt_3b067 7 = .ok (.invokestatic 71, 3) := by decide +kernel
theorem dJ2_charAt_3b067_10 : decode cJ2_charAt_3b067 10 = .ok (.ireturn, 1) := by decide +kernel
theorem dJ2_checkIndex_2214a_0 : decode cJ2_checkIndex_2214a 0 = .ok (.iload_n 0, 1) := by decide +kernel
theorem dJ2_checkIndex_2214a_1 : decode cJ2_checkIndex_2214a 1 = .ok (.aload_n 1, 1) := by decide +kernel
theorem dJ2_checkIndex_2214a_2 : decode cJ2_checkIndex_2214a 2 = .ok (.invokestatic 48, 3) := by decide +kernel
theorem dJ2_checkIndex_2214a_5 : decode cJ2_checkIndex_2214a 5 = .ok (.invokestatic 414, 3) := by decide +kernel
theorem dJ2_checkIndex_2214a_8 : decode cJ2_checkIndex_2214a 8 = .ok (.return_, 1) := by decide +kernel
theorem dJ2_checkBoundsBeginEnd_d044e_0 : decode cJ2_checkBoundsBeginEnd_d044e 0 = .ok (.iload_n 0, 1) := by decide +kernel
theorem dJ2_checkBoundsBeginEnd_d044e_1 : decode cJ2_checkBoundsBeginEnd_d044e 1 = .ok (.iload_n 1, 1) := by decide +kernel
theorem dJ2_checkBoundsBeginEnd_d044e_2 : decode cJ2_checkBoundsBeginEnd_d044e 2 = .ok (.aload_n 2, 1) := by decide +kernel
theorem dJ2_checkBoundsBeginEnd_d044e_3 : decode cJ2_checkBoundsBeginEnd_d044e 3 = .ok (.invokestatic 48, 3) := by decide +kernel
theorem dJ2_checkBoundsBeginEnd_d044e_6 : decode cJ2_checkBoundsBeginEnd_d044e 6 = .ok (.invokestatic 241, 3) := by decide +kernel
theorem dJ2_checkBoundsBeginEnd_d044e_9 : decode cJ2_checkBoundsBeginEnd_d044e 9 = .ok (.return_, 1) := by decide +kernel
theorem dJ2_checkBoundsOffCount_d044e_0 : decode cJ2_checkBoundsOffCount_d044e 0 = .ok (.iload_n 0, 1) := by decide +kernel
theorem dJ2_checkBoundsOffCount_d044e_1 : decode cJ2_checkBoundsOffCount_d044e 1 = .ok (.iload_n 1, 1) := by decide +kernel
theorem dJ2_checkBoundsOffCount_d044e_2 : decode cJ2_checkBoundsOffCount_d044e 2 = .ok (.aload_n 2, 1) := by decide +kernel
theorem dJ2_checkBoundsOffCount_d044e_3 : decode cJ2_checkBoundsOffCount_d044e 3 = .ok (.invokestatic 48, 3) := by decide +kernel
theorem dJ2_checkBoundsOffCount_d044e_6 : decode cJ2_checkBoundsOffCount_d044e 6 = .ok (.invokestatic 419, 3) := by decide +kernel
theorem dJ2_checkBoundsOffCount_d044e_9 : decode cJ2_checkBoundsOffCount_d044e 9 = .ok (.pop, 1) := by decide +kernel
theorem dJ2_checkBoundsOffCount_d044e_10 : decode cJ2_checkBoundsOffCount_d044e 10 = .ok (.return_, 1) := by decide +kernel
theorem dJxa1e45_init_da8c8_0 : decode cJxa1e45_init_da8c8 0 = .ok (.aload_n 0, 1) := by decide +kernel
theorem dJxa1e45_init_da8c8_1 : decode cJxa1e45_init_da8c8 1 = .ok (.invokespecial 1, 3) := by decide +kernel
theorem dJxa1e45_init_da8c8_4 : decode cJxa1e45_init_da8c8 4 = .ok (.return_, 1) := by decide +kernel
theorem dJxc12de_init_da8c8_0 : decode cJxc12de_init_da8c8 0 = .ok (.aload_n 0, 1) := by decide +kernel
theorem dJxc12de_init_da8c8_1 : decode cJxc12de_init_da8c8 1 = .ok (.invokespecial 1, 3) := by decide +kernel
theorem dJxc12de_init_da8c8_4 : decode cJxc12de_init_da8c8 4 = .ok (.aload_n 0, 1) := by decide +kernel
theorem dJxc12de_init_da8c8_5 : decode cJxc12de_init_da8c8 5 = .ok (.iconst 0, 1) := by decide +kernel
theorem dJxc12de_init_da8c8_6 : decode cJxc12de_init_da8c8 6 = .ok (.putfield 7, 3) := by decide +kernel
theorem dJxc12de_init_da8c8_9 : decode cJxc12de_init_da8c8 9 = .ok (.return_, 1) := by decide +kernel
theorem dJx4a65c_init_da8c8_0 : decode cJx4a65c_init_da8c8 0 = .ok (.aload_n 0, 1) := by decide +kernel
theorem dJx4a65c_init_da8c8_1 : decode cJx4a65c_init_da8c8 1 = .ok (.invokespecial 1, 3) := by decide +kernel
theorem dJx4a65c_init_da8c8_4 : decode cJx4a65c_init_da8c8 4 = .ok (.aload_n 0, 1) := by decide +kernel
theorem dJx4a65c_init_da8c8_5 : decode cJx4a65c_init_da8c8 5 = .ok (.getstatic 39, 3) := by decide +kernel
theorem dJx4a65c_init_da8c8_8 : decode cJx4a65c_init_da8c8 8 = .ok (.putfield 9, 3) := by decide +kernel
theorem dJx4a65c_init_da8c8_11 : decode cJx4a65c_init_da8c8 11 = .ok (.return_, 1) := by decide +kernel
theorem dJx4a65c_grow_92f84_0 : decode cJx4a65c_grow_92f84 0 = .ok (.aload_n 0, 1) := by decide +kernel
theorem dJx4a65c_grow_92f84_1 : decode cJx4a65c_grow_92f84 1 = .ok (.getfield 9, 3) := by decide +kernel
theorem dJx4a65c_grow_92f84_4 : decode cJx4a65c_grow_92f84 4 = .ok (.arraylength, 1) := by decide +kernel
theorem dJx4a65c_grow_92f84_5 : decode cJx4a65c_grow_92f84 5 = .ok (.istore_n 2, 1) := by decide +kernel
theorem dJx4a65c_grow_92f84_6 : decode cJx4a65c_grow_92f84 6 = .ok (.iload_n 2, 1) := by decide +kernel
theorem dJx4a65c_grow_92f84_7 : decode cJx4a65c_grow_92f84 7 = .ok (.ifCond .gt 13, 3) := by decide +kernel
theorem dJx4a65c_grow_92f84_10 : decode cJx4a65c_grow_92f84 10 = .ok (.aload_n 0, 1) := by decide +kernel
theorem dJx4a65c_grow_92f84_11 : decode cJx4a65c_grow_92f84 11 = .ok (.getfield 9, 3) := by decide +kernel
theorem dJx4a65c_grow_92f84_14 : decode cJx4a65c_grow_92f84 14 = .ok (.getstatic 39, 3) := by decide +kernel
theorem dJx4a65c_grow_92f84_17 : decode cJx4a65c_grow_92f84 17 = .ok (.if_acmp .eq 28, 3) := by decide +kernel
theorem dJx4a65c_grow_92f84_20 : decode cJx4a65c_grow_92f84 20 = .ok (.iload_n 2, 1) := by decide +kernel
theorem dJx4a65c_grow_92f84_21 : decode cJx4a65c_grow_92f84 21 = .ok (.iload_n 1, 1) := by decide +kernel
theorem dJx4a65c_grow_92f84_22 : decode cJx4a65c_grow_92f84 22 = .ok (.iload_n 2, 1) := by decide +kernel
theorem dJx4a65c_grow_92f84_23 : decode cJx4a65c_grow_92f84 23 = .ok (.isub, 1) := by decide +kernel
theorem dJx4a65c_grow_92f84_24 : decode cJx4a65c_grow_92f84 24 = .ok (.iload_n 2, 1) := by decide +kernel
theorem dJx4a65c_grow_92f84_25 : decode cJx4a65c_grow_92f84 25 = .ok (.iconst 1, 1) := by decide +kernel
theorem dJx4a65c_grow_92f84_26 : decode cJx4a65c_grow_92f84 26 = .ok (.ishr, 1) := by decide +kernel
theorem dJx4a65c_grow_92f84_27 : decode cJx4a65c_grow_92f84 27 = .ok (.invokestatic 73, 3) := by decide +kernel
theorem dJx4a65c_grow_92f84_30 : decode cJx4a65c_grow_92f84 30 = .ok (.istore_n 3, 1) := by decide +kernel
theorem dJx4a65c_grow_92f84_31 : decode cJx4a65c_grow_92f84 31 = .ok (.aload_n 0, 1) := by decide +kernel
theorem dJx4a65c_grow_92f84_32 : decode cJx4a65c_grow_92f84 32 = .ok (.aload_n 0, 1) := by decide +kernel
theorem dJx4a65c_grow_92f84_33 : decode cJx4a65c_grow_92f84 33 = .ok (.getfield 9, 3) := by decide +kernel
theorem dJx4a65c_grow_92f84_36 : decode cJx4a65c_grow_92f84 36 = .ok (.iload_n 3, 1) := by decide +kernel
theorem dJx4a65c_grow_92f84_37 : decode cJx4a65c_grow_92f84 37 = .ok (.invokestatic 66, 3) := by decide +kernel
theorem dJx4a65c_grow_92f84_40 : decode cJx4a65c_grow_92f84 40 = .ok (.dup_x1, 1) := by decide +kernel
theorem dJx4a65c_grow_92f84_41 : decode cJx4a65c_grow_92f84 41 = .ok (.putfield 9, 3) := by decide +kernel
theorem dJx4a65c_grow_92f84_44 : decode cJx4a65c_grow_92f84 44 = .ok (.areturn, 1) := by decide +kernel
theorem dJx4a65c_grow_92f84_45 : decode cJx4a65c_grow_92f84 45 = .ok (.aload_n 0, 1) := by decide +kernel
theorem dJx4a65c_grow_92f84_46 : decode cJx4a65c_grow_92f84 46 = .ok (.bipush 10, 2) := by decide +kernel
theorem dJx4a65c_grow_92f84_48 : decode cJx4a65c_grow_92f84 48 = .ok (.iload_n 1, 1) := by decide +kernel
theorem dJx4a65c_grow_92f84_49 : decode cJx4a65c_grow_92f84 49 = .ok (.invokestatic 79, 3) := by decide +kernel
theorem dJx4a65c_grow_92f84_52 : decode cJx4a65c_grow_92f84 52 = .ok (.anewarray 7, 3) := by decide +kernel
theorem dJx4a65c_grow_92f84_55 : decode cJx4a65c_grow_92f84 55 = .ok (.dup_x1, 1) := by decide +kernel
theorem dJx4a65c_grow_92f84_56 : decode cJx4a65c_grow_92f84 56 = .ok (.putfield 9, 3) := by decide +kernel
theorem dJx4a65c_grow_92f84_59 : decode cJx4a65c_grow_92f84 59 = .ok (.areturn, 1) := by decide +kernel
theorem dJx4a65c_grow_d5877_0 : decode cJx4a65c_grow_d5877 0 = .ok (.aload_n 0, 1) := by decide +kernel
theorem dJx4a65c_grow_d5877_1 : decode cJx4a65c_grow_d5877 1 = .ok (.aload_n 0, 1) := by decide +kernel
theorem dJx4a65c_grow_d5877_2 : decode cJx4a65c_grow_d5877 2 = .ok (.getfield 48, 3) := by decide +kernel
theorem dJx4a65c_grow_d5877_5 : decode cJx4a65c_grow_d5877 5 = .ok (.iconst 1, 1) := by decide +kernel
theorem dJx4a65c_grow_d5877_6 : decode cJx4a65c_grow_d5877 6 = .ok (.iadd, 1) := by decide +kernel
theorem dJx4a65c_grow_d5877_7 : decode cJx4a65c_grow_d5877 7 = .ok (.invokevirtual 69, 3) := by decide +kernel
theorem dJx4a65c_grow_d5877_10 : decode cJx4a65c_grow_d5877 10 = .ok (.areturn, 1) := by decide +kernel
theorem dJx4a65c_size_8abf5_0 : decode cJx4a65c_size_8abf5 0 = .ok (.aload_n 0, 1) := by decide +kernel
theorem dJx4a65c_size_8abf5_1 : decode cJx4a65c_size_8abf5 1 = .ok (.getfield 48, 3) := by decide +kernel
theorem dJx4a65c_size_8abf5_4 : decode cJx4a65c_size_8abf5 4 = .ok (.ireturn, 1) := by decide +kernel
theorem dJx4a65c_elementData_915e3_0 : decode cJx4a65c_elementData_915e3 0 = .ok (.aload_n 0, 1) := by decide +kernel
theorem dJx4a65c_elementData_915e3_1 : decode cJx4a65c_elementData_915e3 1 = .ok (.getfield 9, 3) := by decide +kernel
theorem dJx4a65c_elementData_915e3_4 : decode cJx4a65c_elementData_915e3 4 = .ok (.iload_n 1, 1) := by decide +kernel
theorem dJx4a65c_elementData_915e3_5 : decode cJx4a65c_elementData_915e3 5 = .ok (.aaload, 1) := by decide +kernel
theorem dJx4a65c_elementData_915e3_6 : decode cJx4a65c_elementData_915e3 6 = .ok (.areturn, 1) := by decide +kernel
theorem dJx4a65c_get_915e3_0 : decode cJx4a65c_get_915e3 0 = .ok (.iload_n 1, 1) := by decide +kernel
theorem dJx4a65c_get_915e3_1 : decode cJx4a65c_get_915e3 1 = .ok (.aload_n 0, 1) := by decide +kernel
theorem dJx4a65c_get_915e3_2 : decode cJx4a65c_get_915e3 2 = .ok (.getfield 48, 3) := by decide +kernel
theorem dJx4a65c_get_915e3_5 : decode cJx4a65c_get_915e3 5 = .ok (.invokestatic 118, 3) := by decide +kernel
theorem dJx4a65c_get_915e3_8 : decode cJx4a65c_get_915e3 8 = .ok (.pop, 1) := by decide +kernel
theorem dJx4a65c_get_915e3_9 : decode cJx4a65c_get_915e3 9 = .ok (.aload_n 0, 1) := by decide +kernel
theorem dJx4a65c_get_915e3_10 : decode cJx4a65c_get_915e3 10 = .ok (.iload_n 1, 1) := by decide +kernel
theorem dJx4a65c_get_915e3_11 : decode cJx4a65c_get_915e3 11 = .ok (.invokevirtual 123, 3) := by decide +kernel
theorem dJx4a65c_get_915e3_14 : decode cJx4a65c_get_915e3 14 = .ok (.areturn, 1) := by decide +kernel
theorem dJx4a65c_add_72be8_0 : decode cJx4a65c_add_72be8 0 = .ok (.iload_n 3, 1) := by decide +kernel
theorem dJx4a65c_add_72be8_1 : decode cJx4a65c_add_72be8 1 = .ok (.aload_n 2, 1) := by decide +kernel
theorem dJx4a65c_add_72be8_2 : decode cJx4a65c_add_72be8 2 = .ok (.arraylength, 1) := by decide +kernel
theorem dJx4a65c_add_72be8_3 : decode cJx4a65c_add_72be8 3 = .ok (.if_icmp .ne 8, 3) := by decide +kernel
theorem dJx4a65c_add_72be8_6 : decode cJx4a65c_add_72be8 6 = .ok (.aload_n 0, 1) := by decide +kernel
theorem dJx4a65c_add_72be8_7 : decode cJx4a65c_add_72be8 7 = .ok (.invokevirtual 129, 3) := by decide +kernel
theorem dJx4a65c_add_72be8_10 : decode cJx4a65c_add_72be8 10 = .ok (.astore_n 2, 1) := by decide +kernel
theorem dJx4a65c_add_72be8_11 : decode cJx4a65c_add_72be8 11 = .ok (.aload_n 2, 1) := by decide +kernel
theorem dJx4a65c_add_72be8_12 : decode cJx4a65c_add_72be8 12 = .ok (.iload_n 3, 1) := by decide +kernel
theorem dJx4a65c_add_72be8_13 : decode cJx4a65c_add_72be8 13 = .ok (.aload_n 1, 1) := by decide +kernel
theorem dJx4a65c_add_72be8_14 : decode cJx4a65c_add_72be8 14 = .ok (.aastore, 1) := by decide +kernel
theorem dJx4a65c_add_72be8_15 : decode cJx4a65c_add_72be8 15 = .ok (.aload_n 0, 1) := by decide +kernel
theorem dJx4a65c_add_72be8_16 : decode cJx4a65c_add_72be8 16 = .ok (.iload_n 3, 1) := by decide +kernel
theorem dJx4a65c_add_72be8_17 : decode cJx4a65c_add_72be8 17 = .ok (.iconst 1, 1) := by decide +kernel
theorem dJx4a65c_add_72be8_18 : decode cJx4a65c_add_72be8 18 = .ok (.iadd, 1) := by decide +kernel
theorem dJx4a65c_add_72be8_19 : decode cJx4a65c_add_72be8 19 = .ok (.putfield 48, 3) := by decide +kernel
theorem dJx4a65c_add_72be8_22 : decode cJx4a65c_add_72be8 22 = .ok (.return_, 1) := by decide +kernel
theorem dJx4a65c_add_9ea2d_0 : decode cJx4a65c_add_9ea2d 0 = .ok (.aload_n 0, 1) := by decide +kernel
theorem dJx4a65c_add_9ea2d_1 : decode cJx4a65c_add_9ea2d 1 = .ok (.dup, 1) := by decide +kernel
theorem dJx4a65c_add_9ea2d_2 : decode cJx4a65c_add_9ea2d 2 = .ok (.getfield 63, 3) := by decide +kernel
theorem dJx4a65c_add_9ea2d_5 : decode cJx4a65c_add_9ea2d 5 = .ok (.iconst 1, 1) := by decide +kernel
theorem dJx4a65c_add_9ea2d_6 : decode cJx4a65c_add_9ea2d 6 = .ok (.iadd, 1) := by decide +kernel
theorem dJx4a65c_add_9ea2d_7 : decode cJx4a65c_add_9ea2d 7 = .ok (.putfield 63, 3) := by decide +kernel
theorem dJx4a65c_add_9ea2d_10 : decode cJx4a65c_add_9ea2d 10 = .ok (.aload_n 0, 1) := by decide +kernel
theorem dJx4a65c_add_9ea2d_11 : decode cJx4a65c_add_9ea2d 11 = .ok (.aload_n 1, 1) := by decide +kernel
theorem dJx4a65c_add_9ea2d_12 : decode cJx4a65c_add_9ea2d 12 = .ok (.aload_n 0, 1) := by decide +kernel
theorem dJx4a65c_add_9ea2d_13 : decode cJx4a65c_add_9ea2d 13 = .ok (.getfield 9, 3) := by decide +kernel
theorem dJx4a65c_add_9ea2d_16 : decode cJx4a65c_add_9ea2d 16 = .ok (.aload_n 0, 1) := by decide +kernel
theorem dJx4a65c_add_9ea2d_17 : decode cJx4a65c_add_9ea2d 17 = .ok (.getfield 48, 3) := by decide +kernel
theorem dJx4a65c_add_9ea2d_20 : decode cJx4a65c_add_9ea2d 20 = .ok (.invokevirtual 131, 3) := by decide +kernel
theorem dJx4a65c_add_9ea2d_23 : decode cJx4a65c_add_9ea2d 23 = .ok (.iconst 1, 1) := by decide +kernel
theorem dJx4a65c_add_9ea2d_24 : decode cJx4a65c_add_9ea2d 24 = .ok (.ireturn, 1) := by decide +kernel
theorem dJ7_fill_53178_0 : decode cJ7_fill_53178 0 = .ok (.iconst 0, 1) := by decide +kernel
theorem dJ7_fill_53178_1 : decode cJ7_fill_53178 1 = .ok (.istore_n 2, 1) := by decide +kernel
theorem dJ7_fill_53178_2 : decode cJ7_fill_53178 2 = .ok (.aload_n 0, 1) := by decide +kernel
theorem dJ7_fill_53178_3 : decode cJ7_fill_53178 3 = .ok (.arraylength, 1) := by decide +kernel
theorem dJ7_fill_53178_4 : decode cJ7_fill_53178 4 = .ok (.istore_n 3, 1) := by decide +kernel
theorem dJ7_fill_53178_5 : decode cJ7_fill_53178 5 = .ok (.iload_n 2, 1) := by decide +kernel
theorem dJ7_fill_53178_6 : decode cJ7_fill_53178 6 = .ok (.iload_n 3, 1) := by decide +kernel
theorem dJ7_fill_53178_7 : decode cJ7_fill_53178 7 = .ok (.if_icmp .ge 13, 3) := by decide +kernel
theorem dJ7_fill_53178_10 : decode cJ7_fill_53178 10 = .ok (.aload_n 0, 1) := by decide +kernel
theorem dJ7_fill_53178_11 : decode cJ7_fill_53178 11 = .ok (.iload_n 2, 1) := by decide +kernel
theorem dJ7_fill_53178_12 : decode cJ7_fill_53178 12 = .ok (.iload_n 1, 1) := by decide +kernel
theorem dJ7_fill_53178_13 : decode cJ7_fill_53178 13 = .ok (.iastore, 1) := by decide +kernel
theorem dJ7_fill_53178_14 : decode cJ7_fill_53178 14 = .ok (.iinc 2 1, 3) := by decide +kernel
theorem dJ7_fill_53178_17 : decode cJ7_fill_53178 17 = .ok (.goto (-12), 3) := by decide +kernel
theorem dJ7_fill_53178_20 : decode cJ7_fill_53178 20 = .ok (.return_, 1) := by decide +kernel
theorem dJ7_copyOf_1904c_0 : decode cJ7_copyOf_1904c 0 = .ok (.aload_n 0, 1) := by decide +kernel
theorem dJ7_copyOf_1904c_1 : decode cJ7_copyOf_1904c 1 = .ok (.iload_n 1, 1) := by decide +kernel
theorem dJ7_copyOf_1904c_2 : decode cJ7_copyOf_1904c 2 = .ok (.aload_n 0, 1) := by decide +kernel
theorem dJ7_copyOf_1904c_3 : decode cJ7_copyOf_1904c 3 = .ok (.invokevirtual 86, 3) := by decide +kernel
theorem dJ7_copyOf_1904c_6 : decode cJ7_copyOf_1904c 6 = .ok (.invokestatic 300, 3) := by decide +kernel
theorem dJ7_copyOf_1904c_9 : decode cJ7_copyOf_1904c 9 = .ok (.areturn, 1) := by decide +kernel
theorem dJ7_copyOf_6403c_0 : decode cJ7_copyOf_6403c 0 = .ok (.aload_n 2, 1) := by decide +kernel
theorem dJ7_copyOf_6403c_1 : decode cJ7_copyOf_6403c 1 = .ok (.ldc 110, 2) := by decide +kernel
theorem dJ7_copyOf_6403c_3 : decode cJ7_copyOf_6403c 3 = .ok (.if_acmp .ne 10, 3) := by decide +kernel
theorem dJ7_copyOf_6403c_6 : decode cJ7_copyOf_6403c 6 = .ok (.iload_n 1, 1) := by decide +kernel
theorem dJ7_copyOf_6403c_7 : decode cJ7_copyOf_6403c 7 = .ok (.anewarray 2, 3) := by decide +kernel
theorem dJ7_copyOf_6403c_10 : decode cJ7_copyOf_6403c 10 = .ok (.goto 14, 3) := by decide +kernel
theorem dJ7_copyOf_6403c_13 : decode cJ7_copyOf_6403c 13 = .ok (.aload_n 2, 1) := by decide +kernel
theorem dJ7_copyOf_6403c_14 : decode cJ7_copyOf_6403c 14 = .ok (.invokevirtual 90, 3) := by decide +kernel
theorem dJ7_copyOf_6403c_17 : decode cJ7_copyOf_6403c 17 = .ok (.iload_n 1, 1) := by decide +kernel
theorem dJ7_copyOf_6403c_18 : decode cJ7_copyOf_6403c 18 = .ok (.invokestatic 95, 3) := by decide +kernel
theorem dJ7_copyOf_6403c_21 : decode cJ7_copyOf_6403c 21 = .ok (.checkcast 110, 3) := by decide +kernel
theorem dJ7_copyOf_6403c_24 : decode cJ7_copyOf_6403c 24 = .ok (.astore_n 3, 1) := by decide +kernel
theorem dJ7_copyOf_6403c_25 : decode cJ7_copyOf_6403c 25 = .ok (.aload_n 0, 1) := by decide +kernel
theorem dJ7_copyOf_6403c_26 : decode cJ7_copyOf_6403c 26 = .ok (.iconst 0, 1) := by decide +kernel
theorem dJ7_copyOf_6403c_27 : decode cJ7_copyOf_6403c 27 = .ok (.aload_n 3, 1) := by decide +kernel
theorem dJ7_copyOf_6403c_28 : decode cJ7_copyOf_6403c 28 = .ok (.iconst 0, 1) := by decide +kernel
theorem dJ7_copyOf_6403c_29 : decode cJ7_copyOf_6403c 29 = .ok (.aload_n 0, 1) := by decide +kernel
theorem dJ7_copyOf_6403c_30 : decode cJ7_copyOf_6403c 30 = .ok (.arraylength, 1) := by decide +kernel
theorem dJ7_copyOf_6403c_31 : decode cJ7_copyOf_6403c 31 = .ok (.iload_n 1, 1) := by decide +kernel
theorem dJ7_copyOf_6403c_32 : decode cJ7_copyOf_6403c 32 = .ok (.invokestatic 304, 3) := by decide +kernel
theorem dJ7_copyOf_6403c_35 : decode cJ7_copyOf_6403c 35 = .ok (.invokestatic 150, 3) := by decide +kernel
theorem dJ7_copyOf_6403c_38 : decode cJ7_copyOf_6403c 38 = .ok (.aload_n 3, 1) := by decide +kernel
theorem dJ7_copyOf_6403c_39 : decode cJ7_copyOf_6403c 39 = .ok (.areturn, 1) := by decide +kernel
theorem dJ7_copyOf_9075b_0 : decode cJ7_copyOf_9075b 0 = .ok (.iload_n 1, 1) := by decide +kernel
theorem dJ7_copyOf_9075b_1 : decode cJ7_copyOf_9075b 1 = .ok (.aload_n 0, 1) := by decide +kernel
theorem dJ7_copyOf_9075b_2 : decode cJ7_copyOf_9075b 2 = .ok (.arraylength, 1) := by decide +kernel
theorem dJ7_copyOf_9075b_3 : decode cJ7_copyOf_9075b 3 = .ok (.if_icmp .ne 11, 3) := by decide +kernel
theorem dJ7_copyOf_9075b_6 : decode cJ7_copyOf_9075b 6 = .ok (.aload_n 0, 1) := by decide +kernel
theorem dJ7_copyOf_9075b_7 : decode cJ7_copyOf_9075b 7 = .ok (.invokevirtual 310, 3) := by decide +kernel
theorem dJ7_copyOf_9075b_10 : decode cJ7_copyOf_9075b 10 = .ok (.checkcast 311, 3) := by decide +kernel
theorem dJ7_copyOf_9075b_13 : decode cJ7_copyOf_9075b 13 = .ok (.areturn, 1) := by decide +kernel
theorem dJ7_copyOf_9075b_14 : decode cJ7_copyOf_9075b 14 = .ok (.iload_n 1, 1) := by decide +kernel
theorem dJ7_copyOf_9075b_15 : decode cJ7_copyOf_9075b 15 = .ok (.newarray .byte, 2) := by decide +kernel
theorem dJ7_copyOf_9075b_17 : decode cJ7_copyOf_9075b 17 = .ok (.astore_n 2, 1) := by decide +kernel
theorem dJ7_copyOf_9075b_18 : decode cJ7_copyOf_9075b 18 = .ok (.aload_n 0, 1) := by decide +kernel
theorem dJ7_copyOf_9075b_19 : decode cJ7_copyOf_9075b 19 = .ok (.iconst 0, 1) := by decide +kernel
theorem dJ7_copyOf_9075b_20 : decode cJ7_copyOf_9075b 20 = .ok (.aload_n 2, 1) := by decide +kernel
theorem dJ7_copyOf_9075b_21 : decode cJ7_copyOf_9075b 21 = .ok (.iconst 0, 1) := by decide +kernel
theorem dJ7_copyOf_9075b_22 : decode cJ7_copyOf_9075b 22 = .ok (.aload_n 0, 1) := by decide +kernel
theorem dJ7_copyOf_9075b_23 : decode cJ7_copyOf_9075b 23 = .ok (.arraylength, 1) := by decide +kernel
theorem dJ7_copyOf_9075b_24 : decode cJ7_copyOf_9075b 24 = .ok (.iload_n 1, 1) := by decide +kernel
theorem dJ7_copyOf_9075b_25 : decode cJ7_copyOf_9075b 25 = .ok (.invokestatic 304, 3) := by decide +kernel
theorem dJ7_copyOf_9075b_28 : decode cJ7_copyOf_9075b 28 = .ok (.invokestatic 150, 3) := by decide +kernel
theorem dJ7_copyOf_9075b_31 : decode cJ7_copyOf_9075b 31 = .ok (.aload_n 2, 1) := by decide +kernel
theorem dJ7_copyOf_9075b_32 : decode cJ7_copyOf_9075b 32 = .ok (.areturn, 1) := by decide +kernel
theorem dJ7_checkLength_df160_0 : decode cJ7_checkLength_df160 0 = .ok (.iload_n 1, 1) := by decide +kernel
theorem dJ7_checkLength_df160_1 : decode cJ7_checkLength_df160 1 = .ok (.iload_n 0, 1) := by decide +kernel
theorem dJ7_checkLength_df160_2 : decode cJ7_checkLength_df160 2 = .ok (.if_icmp .ge 35, 3) := by decide +kernel
theorem dJ7_checkLength_df160_5 : decode cJ7_checkLength_df160 5 = .ok (.new 43, 3) := by decide +kernel
theorem dJ7_checkLength_df160_8 : decode cJ7_checkLength_df160 8 = .ok (.dup, 1) := by decide +kernel
theorem dJ7_checkLength_df160_9 : decode cJ7_checkLength_df160 9 = .ok (.new 45, 3) := by decide +kernel
theorem dJ7_checkLength_df160_12 : decode cJ7_checkLength_df160 12 = .ok (.dup, 1) := by decide +kernel
theorem dJ7_checkLength_df160_13 : decode cJ7_checkLength_df160 13 = .ok (.invokespecial 47, 3) := by decide +kernel
theorem dJ7_checkLength_df160_16 : decode cJ7_checkLength_df160 16 = .ok (.iload_n 0, 1) := by decide +kernel
theorem dJ7_checkLength_df160_17 : decode cJ7_checkLength_df160 17 = .ok (.invokevirtual 54, 3) := by decide +kernel
theorem dJ7_checkLength_df160_20 : decode cJ7_checkLength_df160 20 = .ok (.ldc_w 337, 3) := by decide +kernel
theorem dJ7_checkLength_df160_23 : decode cJ7_checkLength_df160 23 = .ok (.invokevirtual 50, 3) := by decide +kernel
theorem dJ7_checkLength_df160_26 : decode cJ7_checkLength_df160 26 = .ok (.iload_n 1, 1) := by decide +kernel
theorem dJ7_checkLength_df160_27 : decode cJ7_checkLength_df160 27 = .ok (.invokevirtual 54, 3) := by decide +kernel
theorem dJ7_checkLength_df160_30 : decode cJ7_checkLength_df160 30 = .ok (.invokevirtual 61, 3) := by decide +kernel
theorem dJ7_checkLength_df160_33 : decode cJ7_checkLength_df160 33 = .ok (.invokespecial 65, 3) := by decide +kernel
theorem dJ7_checkLength_df160_36 : decode cJ7_checkLength_df160 36 = .ok (.athrow, 1) := by decide +kernel
theorem dJ7_checkLength_df160_37 : decode cJ7_checkLength_df160 37 = .ok (.return_, 1) := by decide +kernel
theorem dJ7_copyOfRange_39247_0 : decode cJ7_copyOfRange_39247 0 = .ok (.iload_n 1, 1) := by decide +kernel
theorem dJ7_copyOfRange_39247_1 : decode cJ7_copyOfRange_39247 1 = .ok (.ifCond .ne 9, 3) := by decide +kernel
theorem dJ7_copyOfRange_39247_4 : decode cJ7_copyOfRange_39247 4 = .ok (.iload_n 2, 1) := by decide +kernel
theorem dJ7_copyOfRange_39247_5 : decode cJ7_copyOfRange_39247 5 = .ok (.aload_n 0, 1) := by decide +kernel
theorem dJ7_copyOfRange_39247_6 : decode cJ7_copyOfRange_39247 6 = .ok (.arraylength, 1) := by decide +kernel
theorem dJ7_copyOfRange_39247_7 : decode cJ7_copyOfRange_39247 7 = .ok (.if_icmp .eq 10, 3) := by decide +kernel
theorem dJ7_copyOfRange_39247_10 : decode cJ7_copyOfRange_39247 10 = .ok (.aload_n 0, 1) := by decide +kernel
theorem dJ7_copyOfRange_39247_11 : decode cJ7_copyOfRange_39247 11 = .ok (.iload_n 1, 1) := by decide +kernel
theorem dJ7_copyOfRange_39247_12 : decode cJ7_copyOfRange_39247 12 = .ok (.iload_n 2, 1) := by decide +kernel
theorem dJ7_copyOfRange_39247_13 : decode cJ7_copyOfRange_39247 13 = .ok (.invokestatic 339, 3) := by decide +kernel
theorem dJ7_copyOfRange_39247_16 : decode cJ7_copyOfRange_39247 16 = .ok (.areturn, 1) := by decide +kernel
theorem dJ7_copyOfRange_39247_17 : decode cJ7_copyOfRange_39247 17 = .ok (.aload_n 0, 1) := by decide +kernel
theorem dJ7_copyOfRange_39247_18 : decode cJ7_copyOfRange_39247 18 = .ok (.invokevirtual 310, 3) := by decide +kernel
theorem dJ7_copyOfRange_39247_21 : decode cJ7_copyOfRange_39247 21 = .ok (.checkcast 311, 3) := by decide +kernel
theorem dJ7_copyOfRange_39247_24 : decode cJ7_copyOfRange_39247 24 = .ok (.areturn, 1) := by decide +kernel
theorem dJ7_copyOfRangeByte_39247_0 : decode cJ7_copyOfRangeByte_39247 0 = .ok (.iload_n 1, 1) := by decide +kernel
theorem dJ7_copyOfRangeByte_39247_1 : decode cJ7_copyOfRangeByte_39247 1 = .ok (.iload_n 2, 1) := by decide +kernel
theorem dJ7_copyOfRangeByte_39247_2 : decode cJ7_copyOfRangeByte_39247 2 = .ok (.invokestatic 343, 3) := by decide +kernel
theorem dJ7_copyOfRangeByte_39247_5 : decode cJ7_copyOfRangeByte_39247 5 = .ok (.iload_n 2, 1) := by decide +kernel
theorem dJ7_copyOfRangeByte_39247_6 : decode cJ7_copyOfRangeByte_39247 6 = .ok (.iload_n 1, 1) := by decide +kernel
theorem dJ7_copyOfRangeByte_39247_7 : decode cJ7_copyOfRangeByte_39247 7 = .ok (.isub, 1) := by decide +kernel
theorem dJ7_copyOfRangeByte_39247_8 : decode cJ7_copyOfRangeByte_39247 8 = .ok (.istore_n 3, 1) := by decide +kernel
theorem dJ7_copyOfRangeByte_39247_9 : decode cJ7_copyOfRangeByte_39247 9 = .ok (.iload_n 3, 1) := by decide +kernel
theorem dJ7_copyOfRangeByte_39247_10 : decode cJ7_copyOfRangeByte_39247 10 = .ok (.newarray .byte, 2) := by decide +kernel
theorem dJ7_copyOfRangeByte_39247_12 : decode cJ7_copyOfRangeByte_39247 12 = .ok (.astore 4, 2) := by decide +kernel
theorem dJ7_copyOfRangeByte_39247_14 : decode cJ7_copyOfRangeByte_39247 14 = .ok (.aload_n 0, 1) := by decide +kernel
theorem dJ7_copyOfRangeByte_39247_15 : decode cJ7_copyOfRangeByte_39247 15 = .ok (.iload_n 1, 1) := by decide +kernel
theorem dJ7_copyOfRangeByte_39247_16 : decode cJ7_copyOfRangeByte_39247 16 = .ok (.aload 4, 2) := by decide +kernel
theorem dJ7_copyOfRangeByte_39247_18 : decode cJ7_copyOfRangeByte_39247 18 = .ok (.iconst 0, 1) := by decide +kernel
theorem dJ7_copyOfRangeByte_39247_19 : decode cJ7_copyOfRangeByte_39247 19 = .ok (.aload_n 0, 1) := by decide +kernel
theorem dJ7_copyOfRangeByte_39247_20 : decode cJ7_copyOfRangeByte_39247 20 = .ok (.arraylength, 1) := by decide +kernel
theorem dJ7_copyOfRangeByte_39247_21 : decode cJ7_copyOfRangeByte_39247 21 = .ok (.iload_n 1, 1) := by decide +kernel
theorem dJ7_copyOfRangeByte_39247_22 : decode cJ7_copyOfRangeByte_39247 22 = .ok (.isub, 1) := by decide +kernel
theorem dJ7_copyOfRangeByte_39247_23 : decode cJ7_copyOfRangeByte_39247 23 = .ok (.iload_n 3, 1) := by decide +kernel
theorem dJ7_copyOfRangeByte_39247_24 : decode cJ7_copyOfRangeByte_39247 24 = .ok (.invokestatic 304, 3) := by decide +kernel
theorem dJ7_copyOfRangeByte_39247_27 : decode cJ7_copyOfRangeByte_39247 27 = .ok (.invokestatic 150, 3) := by decide +kernel
theorem dJ7_copyOfRangeByte_39247_30 : decode cJ7_copyOfRangeByte_39247 30 = .ok (.aload 4, 2) := by decide +kernel
theorem dJ7_copyOfRangeByte_39247_32 : decode cJ7_copyOfRangeByte_39247 32 = .ok (.areturn, 1) := by decide +kernel
theorem dJ15_checkIndex_7cf53_0 : decode cJ15_checkIndex_7cf53 0 = .ok (.iload_n 0, 1) := by decide +kernel
theorem dJ15_checkIndex_7cf53_1 : decode cJ15_checkIndex_7cf53 1 = .ok (.iload_n 1, 1) := by decide +kernel
theorem dJ15_checkIndex_7cf53_2 : decode cJ15_checkIndex_7cf53 2 = .ok (.aconst_null, 1) := by decide +kernel
theorem dJ15_checkIndex_7cf53_3 : decode cJ15_checkIndex_7cf53 3 = .ok (.invokestatic 105, 3) := by decide +kernel
theorem dJ15_checkIndex_7cf53_6 : decode cJ15_checkIndex_7cf53 6 = .ok (.ireturn, 1) := by decide +kernel
theorem dJ8_newLength_cabcc_0 : decode cJ8_newLength_cabcc 0 = .ok (.iload_n 0, 1) := by decide +kernel
theorem dJ8_newLength_cabcc_1 : decode cJ8_newLength_cabcc 1 = .ok (.iload_n 1, 1) := by decide +kernel
theorem dJ8_newLength_cabcc_2 : decode cJ8_newLength_cabcc 2 = .ok (.iload_n 2, 1) := by decide +kernel
theorem dJ8_newLength_cabcc_3 : decode cJ8_newLength_cabcc 3 = .ok (.invokestatic 194, 3) := by decide +kernel
theorem dJ8_newLength_cabcc_6 : decode cJ8_newLength_cabcc 6 = .ok (.iadd, 1) := by decide +kernel
theorem dJ8_newLength_cabcc_7 : decode cJ8_newLength_cabcc 7 = .ok (.istore_n 3, 1) := by decide +kernel
theorem dJ8_newLength_cabcc_8 : decode cJ8_newLength_cabcc 8 = .ok (.iconst 0, 1) := by decide +kernel
theorem dJ8_newLength_cabcc_9 : decode cJ8_newLength_cabcc 9 = .ok (.iload_n 3, 1) := by decide +kernel
theorem dJ8_newLength_cabcc_10 : decode cJ8_newLength_cabcc 10 = .ok (.if_icmp .ge 11, 3) := by decide +kernel
theorem dJ8_newLength_cabcc_13 : decode cJ8_newLength_cabcc 13 = .ok (.iload_n 3, 1) := by decide +kernel
theorem dJ8_newLength_cabcc_14 : decode cJ8_newLength_cabcc 14 = .ok (.ldc 200, 2) := by decide +kernel
theorem dJ8_newLength_cabcc_16 : decode cJ8_newLength_cabcc 16 = .ok (.if_icmp .gt 5, 3) := by decide +kernel
theorem dJ8_newLength_cabcc_19 : decode cJ8_newLength_cabcc 19 = .ok (.iload_n 3, 1) := by decide +kernel
theorem dJ8_newLength_cabcc_20 : decode cJ8_newLength_cabcc 20 = .ok (.ireturn, 1) := by decide +kernel
theorem dJ8_newLength_cabcc_21 : decode cJ8_newLength_cabcc 21 = .ok (.iload_n 0, 1) := by decide +kernel
theorem dJ8_newLength_cabcc_22 : decode cJ8_newLength_cabcc 22 = .ok (.iload_n 1, 1) := by decide +kernel
theorem dJ8_newLength_cabcc_23 : decode cJ8_newLength_cabcc 23 = .ok (.invokestatic 201, 3) := by decide +kernel
theorem dJ8_newLength_cabcc_26 : decode cJ8_newLength_cabcc 26 = .ok (.ireturn, 1) := by decide +kernel
theorem dJ3_checkIndex_8e157_0 : decode cJ3_checkIndex_8e157 0 = .ok (.iload_n 0, 1) := by decide +kernel
theorem dJ3_checkIndex_8e157_1 : decode cJ3_checkIndex_8e157 1 = .ok (.ifCond .lt 8, 3) := by decide +kernel
theorem dJ3_checkIndex_8e157_4 : decode cJ3_checkIndex_8e157 4 = .ok (.iload_n 0, 1) := by decide +kernel
theorem dJ3_checkIndex_8e157_5 : decode cJ3_checkIndex_8e157 5 = .ok (.iload_n 1, 1) := by decide +kernel
theorem dJ3_checkIndex_8e157_6 : decode cJ3_checkIndex_8e157 6 = .ok (.if_icmp .lt 10, 3) := by decide +kernel
theorem dJ3_checkIndex_8e157_9 : decode cJ3_checkIndex_8e157 9 = .ok (.aload_n 2, 1) := by decide +kernel
theorem dJ3_checkIndex_8e157_10 : decode cJ3_checkIndex_8e157 10 = .ok (.iload_n 0, 1) := by decide +kernel
theorem dJ3_checkIndex_8e157_11 : decode cJ3_checkIndex_8e157 11 = .ok (.iload_n 1, 1) := by decide +kernel
theorem dJ3_checkIndex_8e157_12 : decode cJ3_checkIndex_8e157 12 = .ok (.invokestatic 95, 3) := by decide +kernel
theorem dJ3_checkIndex_8e157_15 : decode cJ3_checkIndex_8e157 15 = .ok (.athrow, 1) := by decide +kernel
theorem dJ3_checkIndex_8e157_16 : decode cJ3_checkIndex_8e157 16 = .ok (.iload_n 0, 1) := by decide +kernel
theorem dJ3_checkIndex_8e157_17 : decode cJ3_checkIndex_8e157 17 = .ok (.ireturn, 1) := by decide +kernel
theorem dJ3_checkFromToIndex_8c36e_0 : decode cJ3_checkFromToIndex_8c36e 0 = .ok (.iload_n 0, 1) := by decide +kernel
theorem dJ3_checkFromToIndex_8c36e_1 : decode cJ3_checkFromToIndex_8c36e 1 = .ok (.ifCond .lt 13, 3) := by decide +kernel
theorem dJ3_checkFromToIndex_8c36e_4 : decode cJ3_checkFromToIndex_8c36e 4 = .ok (.iload_n 0, 1) := by decide +kernel
theorem dJ3_checkFromToIndex_8c36e_5 : decode cJ3_checkFromToIndex_8c36e 5 = .ok (.iload_n 1, 1) := by decide +kernel
theorem dJ3_checkFromToIndex_8c36e_6 : decode cJ3_checkFromToIndex_8c36e 6 = .ok (.if_icmp .gt 8, 3) := by decide +kernel
theorem dJ3_checkFromToIndex_8c36e_9 : decode cJ3_checkFromToIndex_8c36e 9 = .ok (.iload_n 1, 1) := by decide +kernel
theorem dJ3_checkFromToIndex_8c36e_10 : decode cJ3_checkFromToIndex_8c36e 10 = .ok (.iload_n 2, 1) := by decide +kernel
theorem dJ3_checkFromToIndex_8c36e_11 : decode cJ3_checkFromToIndex_8c36e 11 = .ok (.if_icmp .le 11, 3) := by decide +kernel
theorem dJ3_checkFromToIndex_8c36e_14 : decode cJ3_checkFromToIndex_8c36e 14 = .ok (.aload_n 3, 1) := by decide +kernel
theorem dJ3_checkFromToIndex_8c36e_15 : decode cJ3_checkFromToIndex_8c36e 15 = .ok (.iload_n 0, 1) := by decide +kernel
theorem dJ3_checkFromToIndex_8c36e_16 : decode cJ3_checkFromToIndex_8c36e 16 = .ok (.iload_n 1, 1) := by decide +kernel
theorem dJ3_checkFromToIndex_8c36e_17 : decode cJ3_checkFromToIndex_8c36e 17 = .ok (.iload_n 2, 1) := by decide +kernel
theorem dJ3_checkFromToIndex_8c36e_18 : decode cJ3_checkFromToIndex_8c36e 18 = .ok (.invokestatic 99, 3) := by decide +kernel
theorem dJ3_checkFromToIndex_8c36e_21 : decode cJ3_checkFromToIndex_8c36e 21 = .ok (.athrow, 1) := by decide +kernel
theorem dJ3_checkFromToIndex_8c36e_22 : decode cJ3_checkFromToIndex_8c36e 22 = .ok (.iload_n 0, 1) := by decide +kernel
theorem dJ3_checkFromToIndex_8c36e_23 : decode cJ3_checkFromToIndex_8c36e 23 = .ok (.ireturn, 1) := by decide +kernel
theorem dJ3_checkFromIndexSize_8c36e_0 : decode cJ3_checkFromIndexSize_8c36e 0 = .ok (.iload_n 2, 1) := by decide +kernel
theorem dJ3_checkFromIndexSize_8c36e_1 : decode cJ3_checkFromIndexSize_8c36e 1 = .ok (.iload_n 0, 1) := by decide +kernel
theorem dJ3_checkFromIndexSize_8c36e_2 : decode cJ3_checkFromIndexSize_8c36e 2 = .ok (.ior, 1) := by decide +kernel
theorem dJ3_checkFromIndexSize_8c36e_3 : decode cJ3_checkFromIndexSize_8c36e 3 = .ok (.iload_n 1, 1) := by decide +kernel
theorem dJ3_checkFromIndexSize_8c36e_4 : decode cJ3_checkFromIndexSize_8c36e 4 = .ok (.ior, 1) := by decide +kernel
theorem dJ3_checkFromIndexSize_8c36e_5 : decode cJ3_checkFromIndexSize_8c36e 5 = .ok (.ifCond .lt 10, 3) := by decide +kernel
theorem dJ3_checkFromIndexSize_8c36e_8 : decode cJ3_checkFromIndexSize_8c36e 8 = .ok (.iload_n 1, 1) := by decide +kernel
theorem dJ3_checkFromIndexSize_8c36e_9 : decode cJ3_checkFromIndexSize_8c36e 9 = .ok (.iload_n 2, 1) := by decide +kernel
theorem dJ3_checkFromIndexSize_8c36e_10 : decode cJ3_checkFromIndexSize_8c36e 10 = .ok (.iload_n 0, 1) := by decide +kernel
theorem dJ3_checkFromIndexSize_8c36e_11 : decode cJ3_checkFromIndexSize_8c36e 11 = .ok (.isub, 1) := by decide +kernel
theorem dJ3_checkFromIndexSize_8c36e_12 : decode cJ3_checkFromIndexSize_8c36e 12 = .ok (.if_icmp .le 11, 3) := by decide +kernel
theorem dJ3_checkFromIndexSize_8c36e_15 : decode cJ3_checkFromIndexSize_8c36e 15 = .ok (.aload_n 3, 1) := by decide +kernel
theorem dJ3_checkFromIndexSize_8c36e_16 : decode cJ3_checkFromIndexSize_8c36e 16 = .ok (.iload_n 0, 1) := by decide +kernel
theorem dJ3_checkFromIndexSize_8c36e_17 : decode cJ3_checkFromIndexSize_8c36e 17 = .ok (.iload_n 1, 1) := by decide +kernel
theorem dJ3_checkFromIndexSize_8c36e_18 : decode cJ3_checkFromIndexSize_8c36e 18 = .ok (.iload_n 2, 1) := by decide +kernel
theorem dJ3_checkFromIndexSize_8c36e_19 : decode cJ3_checkFromIndexSize_8c36e 19 = .ok (.invokestatic 103, 3) := by decide +kernel
theorem dJ3_checkFromIndexSize_8c36e_22 : decode cJ3_checkFromIndexSize_8c36e 22 = .ok (.athrow, 1) := by decide +kernel
theorem dJ3_checkFromIndexSize_8c36e_23 : decode cJ3_checkFromIndexSize_8c36e 23 = .ok (.iload_n 0, 1) := by decide +kernel
theorem dJ3_checkFromIndexSize_8c36e_24 : decode cJ3_checkFromIndexSize_8c36e 24 = .ok (.ireturn, 1) := by decide +kernel
end
section
theorem dL_type_0 : decode cL_type 0 = .ok (.aload_n 2, 1) := by decide +kernel
theorem dL_type_1 : decode cL_type 1 = .ok (.iconst 0, 1) := by decide +kernel
theorem dL_type_2 : decode cL_type 2 = .ok (.aload_n 0, 1) := by decide +kernel
theorem dL_type_3 : decode cL_type 3 = .ok (.iload_n 1, 1) := by decide +kernel
theorem dL_type_4 : decode cL_type 4 = .ok (.invokevirtual 7, 3) := by decide +kernel
theorem dL_type_7 : decode cL_type 7 = .ok (.i2l, 1) := by decide +kernel
theorem dL_type_8 : decode cL_type 8 = .ok (.lastore, 1) := by decide +kernel
theorem dL_type_9 : decode cL_type 9 = .ok (.goto 9, 3) := by decide +kernel
theorem dL_type_12 : decode cL_type 12 = .ok (.astore_n 3, 1) := by decide +kernel
theorem dL_type_13 : decode cL_type 13 = .ok (.iconst 1, 1) := by decide +kernel
theorem dL_type_14 : decode cL_type 14 = .ok (.ireturn, 1) := by decide +kernel
theorem dL_type_15 : decode cL_type 15 = .ok (.astore_n 3, 1) := by decide +kernel
theorem dL_type_16 : decode cL_type 16 = .ok (.iconst 2, 1) := by decide +kernel
theorem dL_type_17 : decode cL_type 17 = .ok (.ireturn, 1) := by decide +kernel
theorem dL_type_18 : decode cL_type 18 = .ok (.iconst 0, 1) := by decide +kernel
theorem dL_type_19 : decode cL_type 19 = .ok (.ireturn, 1) := by decide +kernel
theorem dL_fault_0 : decode cL_fault 0 = .ok (.aload_n 2, 1) := by decide +kernel
theorem dL_fault_1 : decode cL_fault 1 = .ok (.iconst 0, 1) := by decide +kernel
theorem dL_fault_2 : decode cL_fault 2 = .ok (.aload_n 0, 1) := by decide +kernel
theorem dL_fault_3 : decode cL_fault 3 = .ok (.iload_n 1, 1) := by decide +kernel
theorem dL_fault_4 : decode cL_fault 4 = .ok (.invokevirtual 17, 3) := by decide +kernel
theorem dL_fault_7 : decode cL_fault 7 = .ok (.i2l, 1) := by decide +kernel
theorem dL_fault_8 : decode cL_fault 8 = .ok (.lastore, 1) := by decide +kernel
theorem dL_fault_9 : decode cL_fault 9 = .ok (.goto 6, 3) := by decide +kernel
theorem dL_fault_12 : decode cL_fault 12 = .ok (.astore_n 3, 1) := by decide +kernel
theorem dL_fault_13 : decode cL_fault 13 = .ok (.iconst 1, 1) := by decide +kernel
theorem dL_fault_14 : decode cL_fault 14 = .ok (.ireturn, 1) := by decide +kernel
theorem dL_fault_15 : decode cL_fault 15 = .ok (.iconst 0, 1) := by decide +kernel
theorem dL_fault_16 : decode cL_fault 16 = .ok (.ireturn, 1) := by decide +kernel
theorem dL_pass_0 : decode cL_pass 0 = .ok (.aload_n 2, 1) := by decide +kernel
theorem dL_pass_1 : decode cL_pass 1 = .ok (.iconst 0, 1) := by decide +kernel
theorem dL_pass_2 : decode cL_pass 2 = .ok (.aload_n 0, 1) := by decide +kernel
theorem dL_pass_3 : decode cL_pass 3 = .ok (.iload_n 1, 1) := by decide +kernel
theorem dL_pass_4 : decode cL_pass 4 = .ok (.invokevirtual 23, 3) := by decide +kernel
theorem dL_pass_7 : decode cL_pass 7 = .ok (.i2l, 1) := by decide +kernel
theorem dL_pass_8 : decode cL_pass 8 = .ok (.lastore, 1) := by decide +kernel
theorem dL_pass_9 : decode cL_pass 9 = .ok (.goto 9, 3) := by decide +kernel
theorem dL_pass_12 : decode cL_pass 12 = .ok (.astore_n 3, 1) := by decide +kernel
theorem dL_pass_13 : decode cL_pass 13 = .ok (.iconst 1, 1) := by decide +kernel
theorem dL_pass_14 : decode cL_pass 14 = .ok (.ireturn, 1) := by decide +kernel
theorem dL_pass_15 : decode cL_pass 15 = .ok (.astore_n 3, 1) := by decide +kernel
theorem dL_pass_16 : decode cL_pass 16 = .ok (.iconst 2, 1) := by decide +kernel
theorem dL_pass_17 : decode cL_pass 17 = .ok (.ireturn, 1) := by decide +kernel
theorem dL_pass_18 : decode cL_pass 18 = .ok (.iconst 0, 1) := by decide +kernel
theorem dL_pass_19 : decode cL_pass 19 = .ok (.ireturn, 1) := by decide +kernel
theorem dL_quota_0 : decode cL_quota 0 = .ok (.aload 4, 2) := by decide +kernel
theorem dL_quota_2 : decode cL_quota 2 = .ok (.iconst 0, 1) := by decide +kernel
theorem dL_quota_3 : decode cL_quota 3 = .ok (.aload_n 0, 1) := by decide +kernel
theorem dL_quota_4 : decode cL_quota 4 = .ok (.iload_n 1, 1) := by decide +kernel
theorem dL_quota_5 : decode cL_quota 5 = .ok (.iload_n 2, 1) := by decide +kernel
theorem dL_quota_6 : decode cL_quota 6 = .ok (.iload_n 3, 1) := by decide +kernel
theorem dL_quota_7 : decode cL_quota 7 = .ok (.invokevirtual 27, 3) := by decide +kernel
theorem dL_quota_10 : decode cL_quota 10 = .ok (.i2l, 1) := by decide +kernel
theorem dL_quota_11 : decode cL_quota 11 = .ok (.lastore, 1) := by decide +kernel
theorem dL_quota_12 : decode cL_quota 12 = .ok (.goto 11, 3) := by decide +kernel
theorem dL_quota_15 : decode cL_quota 15 = .ok (.astore 5, 2) := by decide +kernel
theorem dL_quota_17 : decode cL_quota 17 = .ok (.iconst 1, 1) := by decide +kernel
theorem dL_quota_18 : decode cL_quota 18 = .ok (.ireturn, 1) := by decide +kernel
theorem dL_quota_19 : decode cL_quota 19 = .ok (.astore 5, 2) := by decide +kernel
theorem dL_quota_21 : decode cL_quota 21 = .ok (.iconst 2, 1) := by decide +kernel
theorem dL_quota_22 : decode cL_quota 22 = .ok (.ireturn, 1) := by decide +kernel
theorem dL_quota_23 : decode cL_quota 23 = .ok (.iconst 0, 1) := by decide +kernel
theorem dL_quota_24 : decode cL_quota 24 = .ok (.ireturn, 1) := by decide +kernel
theorem dL_carrier_0 : decode cL_carrier 0 = .ok (.aload 4, 2) := by decide +kernel
theorem dL_carrier_2 : decode cL_carrier 2 = .ok (.iconst 0, 1) := by decide +kernel
theorem dL_carrier_3 : decode cL_carrier 3 = .ok (.aload_n 0, 1) := by decide +kernel
theorem dL_carrier_4 : decode cL_carrier 4 = .ok (.iload_n 1, 1) := by decide +kernel
theorem dL_carrier_5 : decode cL_carrier 5 = .ok (.iload_n 2, 1) := by decide +kernel
theorem dL_carrier_6 : decode cL_carrier 6 = .ok (.iload_n 3, 1) := by decide +kernel
theorem dL_carrier_7 : decode cL_carrier 7 = .ok (.invokevirtual 31, 3) := by decide +kernel
theorem dL_carrier_10 : decode cL_carrier 10 = .ok (.i2l, 1) := by decide +kernel
theorem dL_carrier_11 : decode cL_carrier 11 = .ok (.lastore, 1) := by decide +kernel
theorem dL_carrier_12 : decode cL_carrier 12 = .ok (.goto 11, 3) := by decide +kernel
theorem dL_carrier_15 : decode cL_carrier 15 = .ok (.astore 5, 2) := by decide +kernel
theorem dL_carrier_17 : decode cL_carrier 17 = .ok (.iconst 1, 1) := by decide +kernel
theorem dL_carrier_18 : decode cL_carrier 18 = .ok (.ireturn, 1) := by decide +kernel
theorem dL_carrier_19 : decode cL_carrier 19 = .ok (.astore 5, 2) := by decide +kernel
theorem dL_carrier_21 : decode cL_carrier 21 = .ok (.iconst 2, 1) := by decide +kernel
theorem dL_carrier_22 : decode cL_carrier 22 = .ok (.ireturn, 1) := by decide +kernel
theorem dL_carrier_23 : decode cL_carrier 23 = .ok (.iconst 0, 1) := by decide +kernel
theorem dL_carrier_24 : decode cL_carrier 24 = .ok (.ireturn, 1) := by decide +kernel
theorem dL_tariff_0 : decode cL_tariff 0 = .ok (.aload 5, 2) := by decide +kernel
theorem dL_tariff_2 : decode cL_tariff 2 = .ok (.iconst 0, 1) := by decide +kernel
theorem dL_tariff_3 : decode cL_tariff 3 = .ok (.aload_n 0, 1) := by decide +kernel
theorem dL_tariff_4 : decode cL_tariff 4 = .ok (.iload_n 1, 1) := by decide +kernel
theorem dL_tariff_5 : decode cL_tariff 5 = .ok (.iload_n 2, 1) := by decide +kernel
theorem dL_tariff_6 : decode cL_tariff 6 = .ok (.iload_n 3, 1) := by decide +kernel
theorem dL_tariff_7 : decode cL_tariff 7 = .ok (.iload 4, 2) := by decide +kernel
theorem dL_tariff_9 : decode cL_tariff 9 = .ok (.invokevirtual 35, 3) := by decide +kernel
theorem dL_tariff_12 : decode cL_tariff 12 = .ok (.i2l, 1) := by decide +kernel
theorem dL_tariff_13 : decode cL_tariff 13 = .ok (.lastore, 1) := by decide +kernel
theorem dL_tariff_14 : decode cL_tariff 14 = .ok (.goto 11, 3) := by decide +kernel
theorem dL_tariff_17 : decode cL_tariff 17 = .ok (.astore 6, 2) := by decide +kernel
theorem dL_tariff_19 : decode cL_tariff 19 = .ok (.iconst 1, 1) := by decide +kernel
theorem dL_tariff_20 : decode cL_tariff 20 = .ok (.ireturn, 1) := by decide +kernel
theorem dL_tariff_21 : decode cL_tariff 21 = .ok (.astore 6, 2) := by decide +kernel
theorem dL_tariff_23 : decode cL_tariff 23 = .ok (.iconst 2, 1) := by decide +kernel
theorem dL_tariff_24 : decode cL_tariff 24 = .ok (.ireturn, 1) := by decide +kernel
theorem dL_tariff_25 : decode cL_tariff 25 = .ok (.iconst 0, 1) := by decide +kernel
theorem dL_tariff_26 : decode cL_tariff 26 = .ok (.ireturn, 1) := by decide +kernel
theorem dL_call_0 : decode cL_call 0 = .ok (.aload_n 1, 1) := by decide +kernel
theorem dL_call_1 : decode cL_call 1 = .ok (.iconst 0, 1) := by decide +kernel
theorem dL_call_2 : decode cL_call 2 = .ok (.aload_n 0, 1) := by decide +kernel
theorem dL_call_3 : decode cL_call 3 = .ok (.invokevirtual 39, 3) := by decide +kernel
theorem dL_call_6 : decode cL_call 6 = .ok (.i2l, 1) := by decide +kernel
theorem dL_call_7 : decode cL_call 7 = .ok (.lastore, 1) := by decide +kernel
theorem dL_call_8 : decode cL_call 8 = .ok (.goto 9, 3) := by decide +kernel
theorem dL_call_11 : decode cL_call 11 = .ok (.astore_n 2, 1) := by decide +kernel
theorem dL_call_12 : decode cL_call 12 = .ok (.iconst 1, 1) := by decide +kernel
theorem dL_call_13 : decode cL_call 13 = .ok (.ireturn, 1) := by decide +kernel
theorem dL_call_14 : decode cL_call 14 = .ok (.astore_n 2, 1) := by decide +kernel
theorem dL_call_15 : decode cL_call 15 = .ok (.iconst 2, 1) := by decide +kernel
theorem dL_call_16 : decode cL_call 16 = .ok (.ireturn, 1) := by decide +kernel
theorem dL_call_17 : decode cL_call 17 = .ok (.iconst 0, 1) := by decide +kernel
theorem dL_call_18 : decode cL_call 18 = .ok (.ireturn, 1) := by decide +kernel
theorem dL_price_0 : decode cL_price 0 = .ok (.aload_n 2, 1) := by decide +kernel
theorem dL_price_1 : decode cL_price 1 = .ok (.iconst 0, 1) := by decide +kernel
theorem dL_price_2 : decode cL_price 2 = .ok (.aload_n 0, 1) := by decide +kernel
theorem dL_price_3 : decode cL_price 3 = .ok (.iload_n 1, 1) := by decide +kernel
theorem dL_price_4 : decode cL_price 4 = .ok (.invokevirtual 43, 3) := by decide +kernel
theorem dL_price_7 : decode cL_price 7 = .ok (.i2l, 1) := by decide +kernel
theorem dL_price_8 : decode cL_price 8 = .ok (.lastore, 1) := by decide +kernel
theorem dL_price_9 : decode cL_price 9 = .ok (.goto 6, 3) := by decide +kernel
theorem dL_price_12 : decode cL_price 12 = .ok (.astore_n 3, 1) := by decide +kernel
theorem dL_price_13 : decode cL_price 13 = .ok (.iconst 1, 1) := by decide +kernel
theorem dL_price_14 : decode cL_price 14 = .ok (.ireturn, 1) := by decide +kernel
theorem dL_price_15 : decode cL_price 15 = .ok (.iconst 0, 1) := by decide +kernel
theorem dL_price_16 : decode cL_price 16 = .ok (.ireturn, 1) := by decide +kernel
theorem dL_fixed_0 : decode cL_fixed 0 = .ok (.aload_n 2, 1) := by decide +kernel
theorem dL_fixed_1 : decode cL_fixed 1 = .ok (.iconst 0, 1) := by decide +kernel
theorem dL_fixed_2 : decode cL_fixed 2 = .ok (.aload_n 0, 1) := by decide +kernel
theorem dL_fixed_3 : decode cL_fixed 3 = .ok (.iload_n 1, 1) := by decide +kernel
theorem dL_fixed_4 : decode cL_fixed 4 = .ok (.invokevirtual 46, 3) := by decide +kernel
theorem dL_fixed_7 : decode cL_fixed 7 = .ok (.i2l, 1) := by decide +kernel
theorem dL_fixed_8 : decode cL_fixed 8 = .ok (.lastore, 1) := by decide +kernel
theorem dL_fixed_9 : decode cL_fixed 9 = .ok (.goto 6, 3) := by decide +kernel
theorem dL_fixed_12 : decode cL_fixed 12 = .ok (.astore_n 3, 1) := by decide +kernel
theorem dL_fixed_13 : decode cL_fixed 13 = .ok (.iconst 1, 1) := by decide +kernel
theorem dL_fixed_14 : decode cL_fixed 14 = .ok (.ireturn, 1) := by decide +kernel
theorem dL_fixed_15 : decode cL_fixed 15 = .ok (.iconst 0, 1) := by decide +kernel
theorem dL_fixed_16 : decode cL_fixed 16 = .ok (.ireturn, 1) := by decide +kernel
theorem dL_left_0 : decode cL_left 0 = .ok (.aload_n 2, 1) := by decide +kernel
theorem dL_left_1 : decode cL_left 1 = .ok (.iconst 0, 1) := by decide +kernel
theorem dL_left_2 : decode cL_left 2 = .ok (.aload_n 0, 1) := by decide +kernel
theorem dL_left_3 : decode cL_left 3 = .ok (.iload_n 1, 1) := by decide +kernel
theorem dL_left_4 : decode cL_left 4 = .ok (.invokevirtual 49, 3) := by decide +kernel
theorem dL_left_7 : decode cL_left 7 = .ok (.i2l, 1) := by decide +kernel
theorem dL_left_8 : decode cL_left 8 = .ok (.lastore, 1) := by decide +kernel
theorem dL_left_9 : decode cL_left 9 = .ok (.goto 6, 3) := by decide +kernel
theorem dL_left_12 : decode cL_left 12 = .ok (.astore_n 3, 1) := by decide +kernel
theorem dL_left_13 : decode cL_left 13 = .ok (.iconst 1, 1) := by decide +kernel
theorem dL_left_14 : decode cL_left 14 = .ok (.ireturn, 1) := by decide +kernel
theorem dL_left_15 : decode cL_left 15 = .ok (.iconst 0, 1) := by decide +kernel
theorem dL_left_16 : decode cL_left 16 = .ok (.ireturn, 1) := by decide +kernel
theorem dL_leftByLog_0 : decode cL_leftByLog 0 = .ok (.aload_n 2, 1) := by decide +kernel
theorem dL_leftByLog_1 : decode cL_leftByLog 1 = .ok (.iconst 0, 1) := by decide +kernel
theorem dL_leftByLog_2 : decode cL_leftByLog 2 = .ok (.aload_n 0, 1) := by decide +kernel
theorem dL_leftByLog_3 : decode cL_leftByLog 3 = .ok (.iload_n 1, 1) := by decide +kernel
theorem dL_leftByLog_4 : decode cL_leftByLog 4 = .ok (.invokevirtual 52, 3) := by decide +kernel
theorem dL_leftByLog_7 : decode cL_leftByLog 7 = .ok (.i2l, 1) := by decide +kernel
theorem dL_leftByLog_8 : decode cL_leftByLog 8 = .ok (.lastore, 1) := by decide +kernel
theorem dL_leftByLog_9 : decode cL_leftByLog 9 = .ok (.goto 6, 3) := by decide +kernel
theorem dL_leftByLog_12 : decode cL_leftByLog 12 = .ok (.astore_n 3, 1) := by decide +kernel
theorem dL_leftByLog_13 : decode cL_leftByLog 13 = .ok (.iconst 1, 1) := by decide +kernel
theorem dL_leftByLog_14 : decode cL_leftByLog 14 = .ok (.ireturn, 1) := by decide +kernel
theorem dL_leftByLog_15 : decode cL_leftByLog 15 = .ok (.iconst 0, 1) := by decide +kernel
theorem dL_leftByLog_16 : decode cL_leftByLog 16 = .ok (.ireturn, 1) := by decide +kernel
theorem dL_circuit_0 : decode cL_circuit 0 = .ok (.aload_n 2, 1) := by decide +kernel
theorem dL_circuit_1 : decode cL_circuit 1 = .ok (.iconst 0, 1) := by decide +kernel
theorem dL_circuit_2 : decode cL_circuit 2 = .ok (.aload_n 0, 1) := by decide +kernel
theorem dL_circuit_3 : decode cL_circuit 3 = .ok (.iload_n 1, 1) := by decide +kernel
theorem dL_circuit_4 : decode cL_circuit 4 = .ok (.invokevirtual 55, 3) := by decide +kernel
theorem dL_circuit_7 : decode cL_circuit 7 = .ok (.i2l, 1) := by decide +kernel
theorem dL_circuit_8 : decode cL_circuit 8 = .ok (.lastore, 1) := by decide +kernel
theorem dL_circuit_9 : decode cL_circuit 9 = .ok (.goto 6, 3) := by decide +kernel
theorem dL_circuit_12 : decode cL_circuit 12 = .ok (.astore_n 3, 1) := by decide +kernel
theorem dL_circuit_13 : decode cL_circuit 13 = .ok (.iconst 1, 1) := by decide +kernel
theorem dL_circuit_14 : decode cL_circuit 14 = .ok (.ireturn, 1) := by decide +kernel
theorem dL_circuit_15 : decode cL_circuit 15 = .ok (.iconst 0, 1) := by decide +kernel
theorem dL_circuit_16 : decode cL_circuit 16 = .ok (.ireturn, 1) := by decide +kernel
theorem dL_tries_0 : decode cL_tries 0 = .ok (.aload_n 2, 1) := by decide +kernel
theorem dL_tries_1 : decode cL_tries 1 = .ok (.iconst 0, 1) := by decide +kernel
theorem dL_tries_2 : decode cL_tries 2 = .ok (.aload_n 0, 1) := by decide +kernel
theorem dL_tries_3 : decode cL_tries 3 = .ok (.iload_n 1, 1) := by decide +kernel
theorem dL_tries_4 : decode cL_tries 4 = .ok (.invokevirtual 58, 3) := by decide +kernel
theorem dL_tries_7 : decode cL_tries 7 = .ok (.i2l, 1) := by decide +kernel
theorem dL_tries_8 : decode cL_tries 8 = .ok (.lastore, 1) := by decide +kernel
theorem dL_tries_9 : decode cL_tries 9 = .ok (.goto 6, 3) := by decide +kernel
theorem dL_tries_12 : decode cL_tries 12 = .ok (.astore_n 3, 1) := by decide +kernel
theorem dL_tries_13 : decode cL_tries 13 = .ok (.iconst 1, 1) := by decide +kernel
theorem dL_tries_14 : decode cL_tries 14 = .ok (.ireturn, 1) := by decide +kernel
theorem dL_tries_15 : decode cL_tries 15 = .ok (.iconst 0, 1) := by decide +kernel
theorem dL_tries_16 : decode cL_tries 16 = .ok (.ireturn, 1) := by decide +kernel
theorem dL_book_0 : decode cL_book 0 = .ok (.aload_n 2, 1) := by decide +kernel
theorem dL_book_1 : decode cL_book 1 = .ok (.iconst 0, 1) := by decide +kernel
theorem dL_book_2 : decode cL_book 2 = .ok (.aload_n 0, 1) := by decide +kernel
theorem dL_book_3 : decode cL_book 3 = .ok (.iload_n 1, 1) := by decide +kernel
theorem dL_book_4 : decode cL_book 4 = .ok (.invokevirtual 61, 3) := by decide +kernel
theorem dL_book_7 : decode cL_book 7 = .ok (.i2l, 1) := by decide +kernel
theorem dL_book_8 : decode cL_book 8 = .ok (.lastore, 1) := by decide +kernel
theorem dL_book_9 : decode cL_book 9 = .ok (.goto 9, 3) := by decide +kernel
theorem dL_book_12 : decode cL_book 12 = .ok (.astore_n 3, 1) := by decide +kernel
theorem dL_book_13 : decode cL_book 13 = .ok (.iconst 1, 1) := by decide +kernel
theorem dL_book_14 : decode cL_book 14 = .ok (.ireturn, 1) := by decide +kernel
theorem dL_book_15 : decode cL_book 15 = .ok (.astore_n 3, 1) := by decide +kernel
theorem dL_book_16 : decode cL_book 16 = .ok (.iconst 2, 1) := by decide +kernel
theorem dL_book_17 : decode cL_book 17 = .ok (.ireturn, 1) := by decide +kernel
theorem dL_book_18 : decode cL_book 18 = .ok (.iconst 0, 1) := by decide +kernel
theorem dL_book_19 : decode cL_book 19 = .ok (.ireturn, 1) := by decide +kernel
theorem dL_weigh_0 : decode cL_weigh 0 = .ok (.aload_n 3, 1) := by decide +kernel
theorem dL_weigh_1 : decode cL_weigh 1 = .ok (.iconst 0, 1) := by decide +kernel
theorem dL_weigh_2 : decode cL_weigh 2 = .ok (.aload_n 0, 1) := by decide +kernel
theorem dL_weigh_3 : decode cL_weigh 3 = .ok (.iload_n 1, 1) := by decide +kernel
theorem dL_weigh_4 : decode cL_weigh 4 = .ok (.iload_n 2, 1) := by decide +kernel
theorem dL_weigh_5 : decode cL_weigh 5 = .ok (.invokevirtual 64, 3) := by decide +kernel
theorem dL_weigh_8 : decode cL_weigh 8 = .ok (.i2l, 1) := by decide +kernel
theorem dL_weigh_9 : decode cL_weigh 9 = .ok (.lastore, 1) := by decide +kernel
theorem dL_weigh_10 : decode cL_weigh 10 = .ok (.goto 15, 3) := by decide +kernel
theorem dL_weigh_13 : decode cL_weigh 13 = .ok (.astore 4, 2) := by decide +kernel
theorem dL_weigh_15 : decode cL_weigh 15 = .ok (.iconst 1, 1) := by decide +kernel
theorem dL_weigh_16 : decode cL_weigh 16 = .ok (.ireturn, 1) := by decide +kernel
theorem dL_weigh_17 : decode cL_weigh 17 = .ok (.astore 4, 2) := by decide +kernel
theorem dL_weigh_19 : decode cL_weigh 19 = .ok (.iconst 2, 1) := by decide +kernel
theorem dL_weigh_20 : decode cL_weigh 20 = .ok (.ireturn, 1) := by decide +kernel
theorem dL_weigh_21 : decode cL_weigh 21 = .ok (.astore 4, 2) := by decide +kernel
theorem dL_weigh_23 : decode cL_weigh 23 = .ok (.iconst 3, 1) := by decide +kernel
theorem dL_weigh_24 : decode cL_weigh 24 = .ok (.ireturn, 1) := by decide +kernel
theorem dL_weigh_25 : decode cL_weigh 25 = .ok (.iconst 0, 1) := by decide +kernel
theorem dL_weigh_26 : decode cL_weigh 26 = .ok (.ireturn, 1) := by decide +kernel
theorem dL_cancel_0 : decode cL_cancel 0 = .ok (.aload_n 2, 1) := by decide +kernel
theorem dL_cancel_1 : decode cL_cancel 1 = .ok (.iconst 0, 1) := by decide +kernel
theorem dL_cancel_2 : decode cL_cancel 2 = .ok (.aload_n 0, 1) := by decide +kernel
theorem dL_cancel_3 : decode cL_cancel 3 = .ok (.iload_n 1, 1) := by decide +kernel
theorem dL_cancel_4 : decode cL_cancel 4 = .ok (.invokevirtual 68, 3) := by decide +kernel
theorem dL_cancel_7 : decode cL_cancel 7 = .ok (.i2l, 1) := by decide +kernel
theorem dL_cancel_8 : decode cL_cancel 8 = .ok (.lastore, 1) := by decide +kernel
theorem dL_cancel_9 : decode cL_cancel 9 = .ok (.goto 9, 3) := by decide +kernel
theorem dL_cancel_12 : decode cL_cancel 12 = .ok (.astore_n 3, 1) := by decide +kernel
theorem dL_cancel_13 : decode cL_cancel 13 = .ok (.iconst 1, 1) := by decide +kernel
theorem dL_cancel_14 : decode cL_cancel 14 = .ok (.ireturn, 1) := by decide +kernel
theorem dL_cancel_15 : decode cL_cancel 15 = .ok (.astore_n 3, 1) := by decide +kernel
theorem dL_cancel_16 : decode cL_cancel 16 = .ok (.iconst 2, 1) := by decide +kernel
theorem dL_cancel_17 : decode cL_cancel 17 = .ok (.ireturn, 1) := by decide +kernel
theorem dL_cancel_18 : decode cL_cancel 18 = .ok (.iconst 0, 1) := by decide +kernel
theorem dL_cancel_19 : decode cL_cancel 19 = .ok (.ireturn, 1) := by decide +kernel
theorem dL_state_0 : decode cL_state 0 = .ok (.aload_n 2, 1) := by decide +kernel
theorem dL_state_1 : decode cL_state 1 = .ok (.iconst 0, 1) := by decide +kernel
theorem dL_state_2 : decode cL_state 2 = .ok (.aload_n 0, 1) := by decide +kernel
theorem dL_state_3 : decode cL_state 3 = .ok (.iload_n 1, 1) := by decide +kernel
theorem dL_state_4 : decode cL_state 4 = .ok (.invokevirtual 71, 3) := by decide +kernel
theorem dL_state_7 : decode cL_state 7 = .ok (.i2l, 1) := by decide +kernel
theorem dL_state_8 : decode cL_state 8 = .ok (.lastore, 1) := by decide +kernel
theorem dL_state_9 : decode cL_state 9 = .ok (.goto 6, 3) := by decide +kernel
theorem dL_state_12 : decode cL_state 12 = .ok (.astore_n 3, 1) := by decide +kernel
theorem dL_state_13 : decode cL_state 13 = .ok (.iconst 1, 1) := by decide +kernel
theorem dL_state_14 : decode cL_state 14 = .ok (.ireturn, 1) := by decide +kernel
theorem dL_state_15 : decode cL_state 15 = .ok (.iconst 0, 1) := by decide +kernel
theorem dL_state_16 : decode cL_state 16 = .ok (.ireturn, 1) := by decide +kernel
theorem dL_cost_0 : decode cL_cost 0 = .ok (.aload_n 2, 1) := by decide +kernel
theorem dL_cost_1 : decode cL_cost 1 = .ok (.iconst 0, 1) := by decide +kernel
theorem dL_cost_2 : decode cL_cost 2 = .ok (.aload_n 0, 1) := by decide +kernel
theorem dL_cost_3 : decode cL_cost 3 = .ok (.iload_n 1, 1) := by decide +kernel
theorem dL_cost_4 : decode cL_cost 4 = .ok (.invokevirtual 74, 3) := by decide +kernel
theorem dL_cost_7 : decode cL_cost 7 = .ok (.i2l, 1) := by decide +kernel
theorem dL_cost_8 : decode cL_cost 8 = .ok (.lastore, 1) := by decide +kernel
theorem dL_cost_9 : decode cL_cost 9 = .ok (.goto 6, 3) := by decide +kernel
theorem dL_cost_12 : decode cL_cost 12 = .ok (.astore_n 3, 1) := by decide +kernel
theorem dL_cost_13 : decode cL_cost 13 = .ok (.iconst 1, 1) := by decide +kernel
theorem dL_cost_14 : decode cL_cost 14 = .ok (.ireturn, 1) := by decide +kernel
theorem dL_cost_15 : decode cL_cost 15 = .ok (.iconst 0, 1) := by decide +kernel
theorem dL_cost_16 : decode cL_cost 16 = .ok (.ireturn, 1) := by decide +kernel
theorem dL_bill_0 : decode cL_bill 0 = .ok (.aload_n 2, 1) := by decide +kernel
theorem dL_bill_1 : decode cL_bill 1 = .ok (.iconst 0, 1) := by decide +kernel
theorem dL_bill_2 : decode cL_bill 2 = .ok (.aload_n 0, 1) := by decide +kernel
theorem dL_bill_3 : decode cL_bill 3 = .ok (.iload_n 1, 1) := by decide +kernel
theorem dL_bill_4 : decode cL_bill 4 = .ok (.invokevirtual 77, 3) := by decide +kernel
theorem dL_bill_7 : decode cL_bill 7 = .ok (.i2l, 1) := by decide +kernel
theorem dL_bill_8 : decode cL_bill 8 = .ok (.lastore, 1) := by decide +kernel
theorem dL_bill_9 : decode cL_bill 9 = .ok (.goto 6, 3) := by decide +kernel
theorem dL_bill_12 : decode cL_bill 12 = .ok (.astore_n 3, 1) := by decide +kernel
theorem dL_bill_13 : decode cL_bill 13 = .ok (.iconst 1, 1) := by decide +kernel
theorem dL_bill_14 : decode cL_bill 14 = .ok (.ireturn, 1) := by decide +kernel
theorem dL_bill_15 : decode cL_bill 15 = .ok (.iconst 0, 1) := by decide +kernel
theorem dL_bill_16 : decode cL_bill 16 = .ok (.ireturn, 1) := by decide +kernel
theorem dL_close_0 : decode cL_close 0 = .ok (.aload_n 2, 1) := by decide +kernel
theorem dL_close_1 : decode cL_close 1 = .ok (.iconst 0, 1) := by decide +kernel
theorem dL_close_2 : decode cL_close 2 = .ok (.aload_n 0, 1) := by decide +kernel
theorem dL_close_3 : decode cL_close 3 = .ok (.iload_n 1, 1) := by decide +kernel
theorem dL_close_4 : decode cL_close 4 = .ok (.invokevirtual 80, 3) := by decide +kernel
theorem dL_close_7 : decode cL_close 7 = .ok (.i2l, 1) := by decide +kernel
theorem dL_close_8 : decode cL_close 8 = .ok (.lastore, 1) := by decide +kernel
theorem dL_close_9 : decode cL_close 9 = .ok (.goto 6, 3) := by decide +kernel
theorem dL_close_12 : decode cL_close 12 = .ok (.astore_n 3, 1) := by decide +kernel
theorem dL_close_13 : decode cL_close 13 = .ok (.iconst 1, 1) := by decide +kernel
theorem dL_close_14 : decode cL_close 14 = .ok (.ireturn, 1) := by decide +kernel
theorem dL_close_15 : decode cL_close 15 = .ok (.iconst 0, 1) := by decide +kernel
theorem dL_close_16 : decode cL_close 16 = .ok (.ireturn, 1) := by decide +kernel
theorem dL_billed_0 : decode cL_billed 0 = .ok (.aload_n 2, 1) := by decide +kernel
theorem dL_billed_1 : decode cL_billed 1 = .ok (.iconst 0, 1) := by decide +kernel
theorem dL_billed_2 : decode cL_billed 2 = .ok (.aload_n 0, 1) := by decide +kernel
theorem dL_billed_3 : decode cL_billed 3 = .ok (.iload_n 1, 1) := by decide +kernel
theorem dL_billed_4 : decode cL_billed 4 = .ok (.invokevirtual 83, 3) := by decide +kernel
theorem dL_billed_7 : decode cL_billed 7 = .ok (.i2l, 1) := by decide +kernel
theorem dL_billed_8 : decode cL_billed 8 = .ok (.lastore, 1) := by decide +kernel
theorem dL_billed_9 : decode cL_billed 9 = .ok (.goto 6, 3) := by decide +kernel
theorem dL_billed_12 : decode cL_billed 12 = .ok (.astore_n 3, 1) := by decide +kernel
theorem dL_billed_13 : decode cL_billed 13 = .ok (.iconst 1, 1) := by decide +kernel
theorem dL_billed_14 : decode cL_billed 14 = .ok (.ireturn, 1) := by decide +kernel
theorem dL_billed_15 : decode cL_billed 15 = .ok (.iconst 0, 1) := by decide +kernel
theorem dL_billed_16 : decode cL_billed 16 = .ok (.ireturn, 1) := by decide +kernel
theorem dL_law_0 : decode cL_law 0 = .ok (.new 8, 3) := by decide +kernel
theorem dL_law_3 : decode cL_law 3 = .ok (.dup, 1) := by decide +kernel
theorem dL_law_4 : decode cL_law 4 = .ok (.invokespecial 86, 3) := by decide +kernel
theorem dL_law_7 : decode cL_law 7 = .ok (.astore_n 1, 1) := by decide +kernel
theorem dL_law_8 : decode cL_law 8 = .ok (.new 87, 3) := by decide +kernel
theorem dL_law_11 : decode cL_law 11 = .ok (.dup, 1) := by decide +kernel
theorem dL_law_12 : decode cL_law 12 = .ok (.invokespecial 89, 3) := by decide +kernel
theorem dL_law_15 : decode cL_law 15 = .ok (.astore_n 2, 1) := by decide +kernel
theorem dL_law_16 : decode cL_law 16 = .ok (.iconst 1, 1) := by decide +kernel
theorem dL_law_17 : decode cL_law 17 = .ok (.newarray .long, 2) := by decide +kernel
theorem dL_law_19 : decode cL_law 19 = .ok (.astore_n 3, 1) := by decide +kernel
theorem dL_law_20 : decode cL_law 20 = .ok (.iconst 0, 1) := by decide +kernel
theorem dL_law_21 : decode cL_law 21 = .ok (.istore 4, 2) := by decide +kernel
theorem dL_law_23 : decode cL_law 23 = .ok (.iload 4, 2) := by decide +kernel
theorem dL_law_25 : decode cL_law 25 = .ok (.aload_n 0, 1) := by decide +kernel
theorem dL_law_26 : decode cL_law 26 = .ok (.arraylength, 1) := by decide +kernel
theorem dL_law_27 : decode cL_law 27 = .ok (.iconst 5, 1) := by decide +kernel
theorem dL_law_28 : decode cL_law 28 = .ok (.isub, 1) := by decide +kernel
theorem dL_law_29 : decode cL_law 29 = .ok (.if_icmp .gt 1459, 3) := by decide +kernel
theorem dL_law_32 : decode cL_law 32 = .ok (.aload_n 0, 1) := by decide +kernel
theorem dL_law_33 : decode cL_law 33 = .ok (.iload 4, 2) := by decide +kernel
theorem dL_law_35 : decode cL_law 35 = .ok (.iaload, 1) := by decide +kernel
theorem dL_law_36 : decode cL_law 36 = .ok (.bipush 31, 2) := by decide +kernel
theorem dL_law_38 : decode cL_law 38 = .ok (.iand, 1) := by decide +kernel
theorem dL_law_39 : decode cL_law 39 = .ok (.tableswitch 1443 0 24 #[113, 171, 184, 197, 210, 266, 322, 402, 498, 590, 634, 690, 746, 802, 858, 914, 970, 983, 1039, 1107, 1163, 1219, 1275, 1331, 1387], 113) := by decide +kernel
theorem dL_law_152 : decode cL_law 152 = .ok (.aload_n 1, 1) := by decide +kernel
theorem dL_law_153 : decode cL_law 153 = .ok (.aload_n 0, 1) := by decide +kernel
theorem dL_law_154 : decode cL_law 154 = .ok (.iload 4, 2) := by decide +kernel
theorem dL_law_156 : decode cL_law 156 = .ok (.iconst 1, 1) := by decide +kernel
theorem dL_law_157 : decode cL_law 157 = .ok (.iadd, 1) := by decide +kernel
theorem dL_law_158 : decode cL_law 158 = .ok (.iaload, 1) := by decide +kernel
theorem dL_law_159 : decode cL_law 159 = .ok (.i2c, 1) := by decide +kernel
theorem dL_law_160 : decode cL_law 160 = .ok (.aload_n 3, 1) := by decide +kernel
theorem dL_law_161 : decode cL_law 161 = .ok (.invokestatic 90, 3) := by decide +kernel
theorem dL_law_164 : decode cL_law 164 = .ok (.istore 5, 2) := by decide +kernel
theorem dL_law_166 : decode cL_law 166 = .ok (.aload_n 2, 1) := by decide +kernel
theorem dL_law_167 : decode cL_law 167 = .ok (.aload_n 0, 1) := by decide +kernel
theorem dL_law_168 : decode cL_law 168 = .ok (.iload 4, 2) := by decide +kernel
theorem dL_law_170 : decode cL_law 170 = .ok (.iconst 1, 1) := by decide +kernel
theorem dL_law_171 : decode cL_law 171 = .ok (.iadd, 1) := by decide +kernel
theorem dL_law_172 : decode cL_law 172 = .ok (.iaload, 1) := by decide +kernel
theorem dL_law_173 : decode cL_law 173 = .ok (.i2c, 1) := by decide +kernel
theorem dL_law_174 : decode cL_law 174 = .ok (.invokevirtual 95, 3) := by decide +kernel
theorem dL_law_177 : decode cL_law 177 = .ok (.istore 6, 2) := by decide +kernel
theorem dL_law_179 : decode cL_law 179 = .ok (.aload_n 2, 1) := by decide +kernel
theorem dL_law_180 : decode cL_law 180 = .ok (.invokevirtual 96, 3) := by decide +kernel
theorem dL_law_183 : decode cL_law 183 = .ok (.iload 5, 2) := by decide +kernel
theorem dL_law_185 : decode cL_law 185 = .ok (.if_icmp .eq 5, 3) := by decide +kernel
theorem dL_law_188 : decode cL_law 188 = .ok (.iconst 0, 1) := by decide +kernel
theorem dL_law_189 : decode cL_law 189 = .ok (.ireturn, 1) := by decide +kernel
theorem dL_law_190 : decode cL_law 190 = .ok (.iload 5, 2) := by decide +kernel
theorem dL_law_192 : decode cL_law 192 = .ok (.ifCond .ne 15, 3) := by decide +kernel
theorem dL_law_195 : decode cL_law 195 = .ok (.aload_n 3, 1) := by decide +kernel
theorem dL_law_196 : decode cL_law 196 = .ok (.iconst 0, 1) := by decide +kernel
theorem dL_law_197 : decode cL_law 197 = .ok (.laload, 1) := by decide +kernel
theorem dL_law_198 : decode cL_law 198 = .ok (.iload 6, 2) := by decide +kernel
theorem dL_law_200 : decode cL_law 200 = .ok (.i2l, 1) := by decide +kernel
theorem dL_law_201 : decode cL_law 201 = .ok (.lcmp, 1) := by decide +kernel
theorem dL_law_202 : decode cL_law 202 = .ok (.ifCond .eq 5, 3) := by decide +kernel
theorem dL_law_205 : decode cL_law 205 = .ok (.iconst 0, 1) := by decide +kernel
theorem dL_law_206 : decode cL_law 206 = .ok (.ireturn, 1) := by decide +kernel
theorem dL_law_207 : decode cL_law 207 = .ok (.goto 1275, 3) := by decide +kernel
theorem dL_law_210 : decode cL_law 210 = .ok (.aload_n 1, 1) := by decide +kernel
theorem dL_law_211 : decode cL_law 211 = .ok (.invokevirtual 99, 3) := by decide +kernel
theorem dL_law_214 : decode cL_law 214 = .ok (.aload_n 2, 1) := by decide +kernel
theorem dL_law_215 : decode cL_law 215 = .ok (.invokevirtual 102, 3) := by decide +kernel
theorem dL_law_218 : decode cL_law 218 = .ok (.if_icmp .eq 1264, 3) := by decide +kernel
theorem dL_law_221 : decode cL_law 221 = .ok (.iconst 0, 1) := by decide +kernel
theorem dL_law_222 : decode cL_law 222 = .ok (.ireturn, 1) := by decide +kernel
theorem dL_law_223 : decode cL_law 223 = .ok (.aload_n 1, 1) := by decide +kernel
theorem dL_law_224 : decode cL_law 224 = .ok (.invokevirtual 103, 3) := by decide +kernel
theorem dL_law_227 : decode cL_law 227 = .ok (.aload_n 2, 1) := by decide +kernel
theorem dL_law_228 : decode cL_law 228 = .ok (.invokevirtual 107, 3) := by decide +kernel
theorem dL_law_231 : decode cL_law 231 = .ok (.if_icmp .eq 1251, 3) := by decide +kernel
theorem dL_law_234 : decode cL_law 234 = .ok (.iconst 0, 1) := by decide +kernel
theorem dL_law_235 : decode cL_law 235 = .ok (.ireturn, 1) := by decide +kernel
theorem dL_law_236 : decode cL_law 236 = .ok (.aload_n 1, 1) := by decide +kernel
theorem dL_law_237 : decode cL_law 237 = .ok (.invokevirtual 108, 3) := by decide +kernel
theorem dL_law_240 : decode cL_law 240 = .ok (.aload_n 2, 1) := by decide +kernel
theorem dL_law_241 : decode cL_law 241 = .ok (.invokevirtual 111, 3) := by decide +kernel
theorem dL_law_244 : decode cL_law 244 = .ok (.if_icmp .eq 1238, 3) := by decide +kernel
theorem dL_law_247 : decode cL_law 247 = .ok (.iconst 0, 1) := by decide +kernel
theorem dL_law_248 : decode cL_law 248 = .ok (.ireturn, 1) := by decide +kernel
theorem dL_law_249 : decode cL_law 249 = .ok (.aload_n 1, 1) := by decide +kernel
theorem dL_law_250 : decode cL_law 250 = .ok (.aload_n 0, 1) := by decide +kernel
theorem dL_law_251 : decode cL_law 251 = .ok (.iload 4, 2) := by decide +kernel
theorem dL_law_253 : decode cL_law 253 = .ok (.iconst 1, 1) := by decide +kernel
theorem dL_law_254 : decode cL_law 254 = .ok (.iadd, 1) := by decide +kernel
theorem dL_law_255 : decode cL_law 255 = .ok (.iaload, 1) := by decide +kernel
theorem dL_law_256 : decode cL_law 256 = .ok (.aload_n 3, 1) := by decide +kernel
theorem dL_law_257 : decode cL_law 257 = .ok (.invokestatic 112, 3) := by decide +kernel
theorem dL_law_260 : decode cL_law 260 = .ok (.istore 5, 2) := by decide +kernel
theorem dL_law_262 : decode cL_law 262 = .ok (.aload_n 2, 1) := by decide +kernel
theorem dL_law_263 : decode cL_law 263 = .ok (.aload_n 0, 1) := by decide +kernel
theorem dL_law_264 : decode cL_law 264 = .ok (.iload 4, 2) := by decide +kernel
theorem dL_law_266 : decode cL_law 266 = .ok (.iconst 1, 1) := by decide +kernel
theorem dL_law_267 : decode cL_law 267 = .ok (.iadd, 1) := by decide +kernel
theorem dL_law_268 : decode cL_law 268 = .ok (.iaload, 1) := by decide +kernel
theorem dL_law_269 : decode cL_law 269 = .ok (.invokevirtual 115, 3) := by decide +kernel
theorem dL_law_272 : decode cL_law 272 = .ok (.istore 6, 2) := by decide +kernel
theorem dL_law_274 : decode cL_law 274 = .ok (.aload_n 2, 1) := by decide +kernel
theorem dL_law_275 : decode cL_law 275 = .ok (.invokevirtual 96, 3) := by decide +kernel
theorem dL_law_278 : decode cL_law 278 = .ok (.iload 5, 2) := by decide +kernel
theorem dL_law_280 : decode cL_law 280 = .ok (.if_icmp .eq 5, 3) := by decide +kernel
theorem dL_law_283 : decode cL_law 283 = .ok (.iconst 0, 1) := by decide +kernel
theorem dL_law_284 : decode cL_law 284 = .ok (.ireturn, 1) := by decide +kernel
theorem dL_law_285 : decode cL_law 285 = .ok (.iload 5, 2) := by decide +kernel
theorem dL_law_287 : decode cL_law 287 = .ok (.ifCond .ne 15, 3) := by decide +kernel
theorem dL_law_290 : decode cL_law 290 = .ok (.aload_n 3, 1) := by decide +kernel
theorem dL_law_291 : decode cL_law 291 = .ok (.iconst 0, 1) := by decide +kernel
theorem dL_law_292 : decode cL_law 292 = .ok (.laload, 1) := by decide +kernel
theorem dL_law_293 : decode cL_law 293 = .ok (.iload 6, 2) := by decide +kernel
theorem dL_law_295 : decode cL_law 295 = .ok (.i2l, 1) := by decide +kernel
theorem dL_law_296 : decode cL_law 296 = .ok (.lcmp, 1) := by decide +kernel
theorem dL_law_297 : decode cL_law 297 = .ok (.ifCond .eq 5, 3) := by decide +kernel
theorem dL_law_300 : decode cL_law 300 = .ok (.iconst 0, 1) := by decide +kernel
theorem dL_law_301 : decode cL_law 301 = .ok (.ireturn, 1) := by decide +kernel
theorem dL_law_302 : decode cL_law 302 = .ok (.goto 1180, 3) := by decide +kernel
theorem dL_law_305 : decode cL_law 305 = .ok (.aload_n 1, 1) := by decide +kernel
theorem dL_law_306 : decode cL_law 306 = .ok (.aload_n 0, 1) := by decide +kernel
theorem dL_law_307 : decode cL_law 307 = .ok (.iload 4, 2) := by decide +kernel
theorem dL_law_309 : decode cL_law 309 = .ok (.iconst 1, 1) := by decide +kernel
theorem dL_law_310 : decode cL_law 310 = .ok (.iadd, 1) := by decide +kernel
theorem dL_law_311 : decode cL_law 311 = .ok (.iaload, 1) := by decide +kernel
theorem dL_law_312 : decode cL_law 312 = .ok (.aload_n 3, 1) := by decide +kernel
theorem dL_law_313 : decode cL_law 313 = .ok (.invokestatic 116, 3) := by decide +kernel
theorem dL_law_316 : decode cL_law 316 = .ok (.istore 5, 2) := by decide +kernel
theorem dL_law_318 : decode cL_law 318 = .ok (.aload_n 2, 1) := by decide +kernel
theorem dL_law_319 : decode cL_law 319 = .ok (.aload_n 0, 1) := by decide +kernel
theorem dL_law_320 : decode cL_law 320 = .ok (.iload 4, 2) := by decide +kernel
theorem dL_law_322 : decode cL_law 322 = .ok (.iconst 1, 1) := by decide +kernel
theorem dL_law_323 : decode cL_law 323 = .ok (.iadd, 1) := by decide +kernel
theorem dL_law_324 : decode cL_law 324 = .ok (.iaload, 1) := by decide +kernel
theorem dL_law_325 : decode cL_law 325 = .ok (.invokevirtual 118, 3) := by decide +kernel
theorem dL_law_328 : decode cL_law 328 = .ok (.istore 6, 2) := by decide +kernel
theorem dL_law_330 : decode cL_law 330 = .ok (.aload_n 2, 1) := by decide +kernel
theorem dL_law_331 : decode cL_law 331 = .ok (.invokevirtual 96, 3) := by decide +kernel
theorem dL_law_334 : decode cL_law 334 = .ok (.iload 5, 2) := by decide +kernel
theorem dL_law_336 : decode cL_law 336 = .ok (.if_icmp .eq 5, 3) := by decide +kernel
theorem dL_law_339 : decode cL_law 339 = .ok (.iconst 0, 1) := by decide +kernel
theorem dL_law_340 : decode cL_law 340 = .ok (.ireturn, 1) := by decide +kernel
theorem dL_law_341 : decode cL_law 341 = .ok (.iload 5, 2) := by decide +kernel
theorem dL_law_343 : decode cL_law 343 = .ok (.ifCond .ne 15, 3) := by decide +kernel
theorem dL_law_346 : decode cL_law 346 = .ok (.aload_n 3, 1) := by decide +kernel
theorem dL_law_347 : decode cL_law 347 = .ok (.iconst 0, 1) := by decide +kernel
theorem dL_law_348 : decode cL_law 348 = .ok (.laload, 1) := by decide +kernel
theorem dL_law_349 : decode cL_law 349 = .ok (.iload 6, 2) := by decide +kernel
theorem dL_law_351 : decode cL_law 351 = .ok (.i2l, 1) := by decide +kernel
theorem dL_law_352 : decode cL_law 352 = .ok (.lcmp, 1) := by decide +kernel
theorem dL_law_353 : decode cL_law 353 = .ok (.ifCond .eq 5, 3) := by decide +kernel
theorem dL_law_356 : decode cL_law 356 = .ok (.iconst 0, 1) := by decide +kernel
theorem dL_law_357 : decode cL_law 357 = .ok (.ireturn, 1) := by decide +kernel
theorem dL_law_358 : decode cL_law 358 = .ok (.goto 1124, 3) := by decide +kernel
theorem dL_law_361 : decode cL_law 361 = .ok (.aload_n 1, 1) := by decide +kernel
theorem dL_law_362 : decode cL_law 362 = .ok (.aload_n 0, 1) := by decide +kernel
theorem dL_law_363 : decode cL_law 363 = .ok (.iload 4, 2) := by decide +kernel
theorem dL_law_365 : decode cL_law 365 = .ok (.iconst 1, 1) := by decide +kernel
theorem dL_law_366 : decode cL_law 366 = .ok (.iadd, 1) := by decide +kernel
theorem dL_law_367 : decode cL_law 367 = .ok (.iaload, 1) := by decide +kernel
theorem dL_law_368 : decode cL_law 368 = .ok (.aload_n 0, 1) := by decide +kernel
theorem dL_law_369 : decode cL_law 369 = .ok (.iload 4, 2) := by decide +kernel
theorem dL_law_371 : decode cL_law 371 = .ok (.iconst 2, 1) := by decide +kernel
theorem dL_law_372 : decode cL_law 372 = .ok (.iadd, 1) := by decide +kernel
theorem dL_law_373 : decode cL_law 373 = .ok (.iaload, 1) := by decide +kernel
theorem dL_law_374 : decode cL_law 374 = .ok (.aload_n 0, 1) := by decide +kernel
theorem dL_law_375 : decode cL_law 375 = .ok (.iload 4, 2) := by decide +kernel
theorem dL_law_377 : decode cL_law 377 = .ok (.iconst 3, 1) := by decide +kernel
theorem dL_law_378 : decode cL_law 378 = .ok (.iadd, 1) := by decide +kernel
theorem dL_law_379 : decode cL_law 379 = .ok (.iaload, 1) := by decide +kernel
theorem dL_law_380 : decode cL_law 380 = .ok (.aload_n 3, 1) := by decide +kernel
theorem dL_law_381 : decode cL_law 381 = .ok (.invokestatic 119, 3) := by decide +kernel
theorem dL_law_384 : decode cL_law 384 = .ok (.istore 5, 2) := by decide +kernel
theorem dL_law_386 : decode cL_law 386 = .ok (.aload_n 2, 1) := by decide +kernel
theorem dL_law_387 : decode cL_law 387 = .ok (.aload_n 0, 1) := by decide +kernel
theorem dL_law_388 : decode cL_law 388 = .ok (.iload 4, 2) := by decide +kernel
theorem dL_law_390 : decode cL_law 390 = .ok (.iconst 1, 1) := by decide +kernel
theorem dL_law_391 : decode cL_law 391 = .ok (.iadd, 1) := by decide +kernel
theorem dL_law_392 : decode cL_law 392 = .ok (.iaload, 1) := by decide +kernel
theorem dL_law_393 : decode cL_law 393 = .ok (.aload_n 0, 1) := by decide +kernel
theorem dL_law_394 : decode cL_law 394 = .ok (.iload 4, 2) := by decide +kernel
theorem dL_law_396 : decode cL_law 396 = .ok (.iconst 2, 1) := by decide +kernel
theorem dL_law_397 : decode cL_law 397 = .ok (.iadd, 1) := by decide +kernel
theorem dL_law_398 : decode cL_law 398 = .ok (.iaload, 1) := by decide +kernel
theorem dL_law_399 : decode cL_law 399 = .ok (.aload_n 0, 1) := by decide +kernel
theorem dL_law_400 : decode cL_law 400 = .ok (.iload 4, 2) := by decide +kernel
theorem dL_law_402 : decode cL_law 402 = .ok (.iconst 3, 1) := by decide +kernel
theorem dL_law_403 : decode cL_law 403 = .ok (.iadd, 1) := by decide +kernel
theorem dL_law_404 : decode cL_law 404 = .ok (.iaload, 1) := by decide +kernel
theorem dL_law_405 : decode cL_law 405 = .ok (.invokevirtual 122, 3) := by decide +kernel
theorem dL_law_408 : decode cL_law 408 = .ok (.istore 6, 2) := by decide +kernel
theorem dL_law_410 : decode cL_law 410 = .ok (.aload_n 2, 1) := by decide +kernel
theorem dL_law_411 : decode cL_law 411 = .ok (.invokevirtual 96, 3) := by decide +kernel
theorem dL_law_414 : decode cL_law 414 = .ok (.iload 5, 2) := by decide +kernel
theorem dL_law_416 : decode cL_law 416 = .ok (.if_icmp .eq 5, 3) := by decide +kernel
theorem dL_law_419 : decode cL_law 419 = .ok (.iconst 0, 1) := by decide +kernel
theorem dL_law_420 : decode cL_law 420 = .ok (.ireturn, 1) := by decide +kernel
theorem dL_law_421 : decode cL_law 421 = .ok (.iload 5, 2) := by decide +kernel
theorem dL_law_423 : decode cL_law 423 = .ok (.ifCond .ne 15, 3) := by decide +kernel
theorem dL_law_426 : decode cL_law 426 = .ok (.aload_n 3, 1) := by decide +kernel
theorem dL_law_427 : decode cL_law 427 = .ok (.iconst 0, 1) := by decide +kernel
theorem dL_law_428 : decode cL_law 428 = .ok (.laload, 1) := by decide +kernel
theorem dL_law_429 : decode cL_law 429 = .ok (.iload 6, 2) := by decide +kernel
theorem dL_law_431 : decode cL_law 431 = .ok (.i2l, 1) := by decide +kernel
theorem dL_law_432 : decode cL_law 432 = .ok (.lcmp, 1) := by decide +kernel
theorem dL_law_433 : decode cL_law 433 = .ok (.ifCond .eq 5, 3) := by decide +kernel
theorem dL_law_436 : decode cL_law 436 = .ok (.iconst 0, 1) := by decide +kernel
theorem dL_law_437 : decode cL_law 437 = .ok (.ireturn, 1) := by decide +kernel
theorem dL_law_438 : decode cL_law 438 = .ok (.goto 1044, 3) := by decide +kernel
theorem dL_law_441 : decode cL_law 441 = .ok (.aload_n 1, 1) := by decide +kernel
theorem dL_law_442 : decode cL_law 442 = .ok (.aload_n 0, 1) := by decide +kernel
theorem dL_law_443 : decode cL_law 443 = .ok (.iload 4, 2) := by decide +kernel
theorem dL_law_445 : decode cL_law 445 = .ok (.iconst 1, 1) := by decide +kernel
theorem dL_law_446 : decode cL_law 446 = .ok (.iadd, 1) := by decide +kernel
theorem dL_law_447 : decode cL_law 447 = .ok (.iaload, 1) := by decide +kernel
theorem dL_law_448 : decode cL_law 448 = .ok (.aload_n 0, 1) := by decide +kernel
theorem dL_law_449 : decode cL_law 449 = .ok (.iload 4, 2) := by decide +kernel
theorem dL_law_451 : decode cL_law 451 = .ok (.iconst 2, 1) := by decide +kernel
theorem dL_law_452 : decode cL_law 452 = .ok (.iadd, 1) := by decide +kernel
theorem dL_law_453 : decode cL_law 453 = .ok (.iaload, 1) := by decide +kernel
theorem dL_law_454 : decode cL_law 454 = .ok (.ifCond .eq 7, 3) := by decide +kernel
theorem dL_law_457 : decode cL_law 457 = .ok (.iconst 1, 1) := by decide +kernel
theorem dL_law_458 : decode cL_law 458 = .ok (.goto 4, 3) := by decide +kernel
theorem dL_law_461 : decode cL_law 461 = .ok (.iconst 0, 1) := by decide +kernel
theorem dL_law_462 : decode cL_law 462 = .ok (.aload_n 0, 1) := by decide +kernel
theorem dL_law_463 : decode cL_law 463 = .ok (.iload 4, 2) := by decide +kernel
theorem dL_law_465 : decode cL_law 465 = .ok (.iconst 3, 1) := by decide +kernel
theorem dL_law_466 : decode cL_law 466 = .ok (.iadd, 1) := by decide +kernel
theorem dL_law_467 : decode cL_law 467 = .ok (.iaload, 1) := by decide +kernel
theorem dL_law_468 : decode cL_law 468 = .ok (.aload_n 3, 1) := by decide +kernel
theorem dL_law_469 : decode cL_law 469 = .ok (.invokestatic 123, 3) := by decide +kernel
theorem dL_law_472 : decode cL_law 472 = .ok (.istore 5, 2) := by decide +kernel
theorem dL_law_474 : decode cL_law 474 = .ok (.aload_n 2, 1) := by decide +kernel
theorem dL_law_475 : decode cL_law 475 = .ok (.aload_n 0, 1) := by decide +kernel
theorem dL_law_476 : decode cL_law 476 = .ok (.iload 4, 2) := by decide +kernel
theorem dL_law_478 : decode cL_law 478 = .ok (.iconst 1, 1) := by decide +kernel
theorem dL_law_479 : decode cL_law 479 = .ok (.iadd, 1) := by decide +kernel
theorem dL_law_480 : decode cL_law 480 = .ok (.iaload, 1) := by decide +kernel
theorem dL_law_481 : decode cL_law 481 = .ok (.aload_n 0, 1) := by decide +kernel
theorem dL_law_482 : decode cL_law 482 = .ok (.iload 4, 2) := by decide +kernel
theorem dL_law_484 : decode cL_law 484 = .ok (.iconst 2, 1) := by decide +kernel
theorem dL_law_485 : decode cL_law 485 = .ok (.iadd, 1) := by decide +kernel
theorem dL_law_486 : decode cL_law 486 = .ok (.iaload, 1) := by decide +kernel
theorem dL_law_487 : decode cL_law 487 = .ok (.ifCond .eq 7, 3) := by decide +kernel
theorem dL_law_490 : decode cL_law 490 = .ok (.iconst 1, 1) := by decide +kernel
theorem dL_law_491 : decode cL_law 491 = .ok (.goto 4, 3) := by decide +kernel
theorem dL_law_494 : decode cL_law 494 = .ok (.iconst 0, 1) := by decide +kernel
theorem dL_law_495 : decode cL_law 495 = .ok (.aload_n 0, 1) := by decide +kernel
theorem dL_law_496 : decode cL_law 496 = .ok (.iload 4, 2) := by decide +kernel
theorem dL_law_498 : decode cL_law 498 = .ok (.iconst 3, 1) := by decide +kernel
theorem dL_law_499 : decode cL_law 499 = .ok (.iadd, 1) := by decide +kernel
theorem dL_law_500 : decode cL_law 500 = .ok (.iaload, 1) := by decide +kernel
theorem dL_law_501 : decode cL_law 501 = .ok (.invokevirtual 126, 3) := by decide +kernel
theorem dL_law_504 : decode cL_law 504 = .ok (.istore 6, 2) := by decide +kernel
theorem dL_law_506 : decode cL_law 506 = .ok (.aload_n 2, 1) := by decide +kernel
theorem dL_law_507 : decode cL_law 507 = .ok (.invokevirtual 96, 3) := by decide +kernel
theorem dL_law_510 : decode cL_law 510 = .ok (.iload 5, 2) := by decide +kernel
theorem dL_law_512 : decode cL_law 512 = .ok (.if_icmp .eq 5, 3) := by decide +kernel
theorem dL_law_515 : decode cL_law 515 = .ok (.iconst 0, 1) := by decide +kernel
theorem dL_law_516 : decode cL_law 516 = .ok (.ireturn, 1) := by decide +kernel
theorem dL_law_517 : decode cL_law 517 = .ok (.iload 5, 2) := by decide +kernel
theorem dL_law_519 : decode cL_law 519 = .ok (.ifCond .ne 15, 3) := by decide +kernel
theorem dL_law_522 : decode cL_law 522 = .ok (.aload_n 3, 1) := by decide +kernel
theorem dL_law_523 : decode cL_law 523 = .ok (.iconst 0, 1) := by decide +kernel
theorem dL_law_524 : decode cL_law 524 = .ok (.laload, 1) := by decide +kernel
theorem dL_law_525 : decode cL_law 525 = .ok (.iload 6, 2) := by decide +kernel
theorem dL_law_527 : decode cL_law 527 = .ok (.i2l, 1) := by decide +kernel
theorem dL_law_528 : decode cL_law 528 = .ok (.lcmp, 1) := by decide +kernel
theorem dL_law_529 : decode cL_law 529 = .ok (.ifCond .eq 5, 3) := by decide +kernel
theorem dL_law_532 : decode cL_law 532 = .ok (.iconst 0, 1) := by decide +kernel
theorem dL_law_533 : decode cL_law 533 = .ok (.ireturn, 1) := by decide +kernel
theorem dL_law_534 : decode cL_law 534 = .ok (.goto 948, 3) := by decide +kernel
theorem dL_law_537 : decode cL_law 537 = .ok (.aload_n 1, 1) := by decide +kernel
theorem dL_law_538 : decode cL_law 538 = .ok (.aload_n 0, 1) := by decide +kernel
theorem dL_law_539 : decode cL_law 539 = .ok (.iload 4, 2) := by decide +kernel
theorem dL_law_541 : decode cL_law 541 = .ok (.iconst 1, 1) := by decide +kernel
theorem dL_law_542 : decode cL_law 542 = .ok (.iadd, 1) := by decide +kernel
theorem dL_law_543 : decode cL_law 543 = .ok (.iaload, 1) := by decide +kernel
theorem dL_law_544 : decode cL_law 544 = .ok (.aload_n 0, 1) := by decide +kernel
theorem dL_law_545 : decode cL_law 545 = .ok (.iload 4, 2) := by decide +kernel
theorem dL_law_547 : decode cL_law 547 = .ok (.iconst 2, 1) := by decide +kernel
theorem dL_law_548 : decode cL_law 548 = .ok (.iadd, 1) := by decide +kernel
theorem dL_law_549 : decode cL_law 549 = .ok (.iaload, 1) := by decide +kernel
theorem dL_law_550 : decode cL_law 550 = .ok (.aload_n 0, 1) := by decide +kernel
theorem dL_law_551 : decode cL_law 551 = .ok (.iload 4, 2) := by decide +kernel
theorem dL_law_553 : decode cL_law 553 = .ok (.iconst 3, 1) := by decide +kernel
theorem dL_law_554 : decode cL_law 554 = .ok (.iadd, 1) := by decide +kernel
theorem dL_law_555 : decode cL_law 555 = .ok (.iaload, 1) := by decide +kernel
theorem dL_law_556 : decode cL_law 556 = .ok (.aload_n 0, 1) := by decide +kernel
theorem dL_law_557 : decode cL_law 557 = .ok (.iload 4, 2) := by decide +kernel
theorem dL_law_559 : decode cL_law 559 = .ok (.iconst 4, 1) := by decide +kernel
theorem dL_law_560 : decode cL_law 560 = .ok (.iadd, 1) := by decide +kernel
theorem dL_law_561 : decode cL_law 561 = .ok (.iaload, 1) := by decide +kernel
theorem dL_law_562 : decode cL_law 562 = .ok (.aload_n 3, 1) := by decide +kernel
theorem dL_law_563 : decode cL_law 563 = .ok (.invokestatic 127, 3) := by decide +kernel
theorem dL_law_566 : decode cL_law 566 = .ok (.istore 5, 2) := by decide +kernel
theorem dL_law_568 : decode cL_law 568 = .ok (.aload_n 2, 1) := by decide +kernel
theorem dL_law_569 : decode cL_law 569 = .ok (.aload_n 0, 1) := by decide +kernel
theorem dL_law_570 : decode cL_law 570 = .ok (.iload 4, 2) := by decide +kernel
theorem dL_law_572 : decode cL_law 572 = .ok (.iconst 1, 1) := by decide +kernel
theorem dL_law_573 : decode cL_law 573 = .ok (.iadd, 1) := by decide +kernel
theorem dL_law_574 : decode cL_law 574 = .ok (.iaload, 1) := by decide +kernel
theorem dL_law_575 : decode cL_law 575 = .ok (.aload_n 0, 1) := by decide +kernel
theorem dL_law_576 : decode cL_law 576 = .ok (.iload 4, 2) := by decide +kernel
theorem dL_law_578 : decode cL_law 578 = .ok (.iconst 2, 1) := by decide +kernel
theorem dL_law_579 : decode cL_law 579 = .ok (.iadd, 1) := by decide +kernel
theorem dL_law_580 : decode cL_law 580 = .ok (.iaload, 1) := by decide +kernel
theorem dL_law_581 : decode cL_law 581 = .ok (.aload_n 0, 1) := by decide +kernel
theorem dL_law_582 : decode cL_law 582 = .ok (.iload 4, 2) := by decide +kernel
theorem dL_law_584 : decode cL_law 584 = .ok (.iconst 3, 1) := by decide +kernel
theorem dL_law_585 : decode cL_law 585 = .ok (.iadd, 1) := by decide +kernel
theorem dL_law_586 : decode cL_law 586 = .ok (.iaload, 1) := by decide +kernel
theorem dL_law_587 : decode cL_law 587 = .ok (.aload_n 0, 1) := by decide +kernel
theorem dL_law_588 : decode cL_law 588 = .ok (.iload 4, 2) := by decide +kernel
theorem dL_law_590 : decode cL_law 590 = .ok (.iconst 4, 1) := by decide +kernel
theorem dL_law_591 : decode cL_law 591 = .ok (.iadd, 1) := by decide +kernel
theorem dL_law_592 : decode cL_law 592 = .ok (.iaload, 1) := by decide +kernel
theorem dL_law_593 : decode cL_law 593 = .ok (.invokevirtual 130, 3) := by decide +kernel
theorem dL_law_596 : decode cL_law 596 = .ok (.istore 6, 2) := by decide +kernel
theorem dL_law_598 : decode cL_law 598 = .ok (.aload_n 2, 1) := by decide +kernel
theorem dL_law_599 : decode cL_law 599 = .ok (.invokevirtual 96, 3) := by decide +kernel
theorem dL_law_602 : decode cL_law 602 = .ok (.iload 5, 2) := by decide +kernel
theorem dL_law_604 : decode cL_law 604 = .ok (.if_icmp .eq 5, 3) := by decide +kernel
theorem dL_law_607 : decode cL_law 607 = .ok (.iconst 0, 1) := by decide +kernel
theorem dL_law_608 : decode cL_law 608 = .ok (.ireturn, 1) := by decide +kernel
theorem dL_law_609 : decode cL_law 609 = .ok (.iload 5, 2) := by decide +kernel
theorem dL_law_611 : decode cL_law 611 = .ok (.ifCond .ne 15, 3) := by decide +kernel
theorem dL_law_614 : decode cL_law 614 = .ok (.aload_n 3, 1) := by decide +kernel
theorem dL_law_615 : decode cL_law 615 = .ok (.iconst 0, 1) := by decide +kernel
theorem dL_law_616 : decode cL_law 616 = .ok (.laload, 1) := by decide +kernel
theorem dL_law_617 : decode cL_law 617 = .ok (.iload 6, 2) := by decide +kernel
theorem dL_law_619 : decode cL_law 619 = .ok (.i2l, 1) := by decide +kernel
theorem dL_law_620 : decode cL_law 620 = .ok (.lcmp, 1) := by decide +kernel
theorem dL_law_621 : decode cL_law 621 = .ok (.ifCond .eq 5, 3) := by decide +kernel
theorem dL_law_624 : decode cL_law 624 = .ok (.iconst 0, 1) := by decide +kernel
theorem dL_law_625 : decode cL_law 625 = .ok (.ireturn, 1) := by decide +kernel
theorem dL_law_626 : decode cL_law 626 = .ok (.goto 856, 3) := by decide +kernel
theorem dL_law_629 : decode cL_law 629 = .ok (.aload_n 1, 1) := by decide +kernel
theorem dL_law_630 : decode cL_law 630 = .ok (.aload_n 3, 1) := by decide +kernel
theorem dL_law_631 : decode cL_law 631 = .ok (.invokestatic 131, 3) := by decide +kernel
theorem dL_law_634 : decode cL_law 634 = .ok (.istore 5, 2) := by decide +kernel
theorem dL_law_636 : decode cL_law 636 = .ok (.aload_n 2, 1) := by decide +kernel
theorem dL_law_637 : decode cL_law 637 = .ok (.invokevirtual 134, 3) := by decide +kernel
theorem dL_law_640 : decode cL_law 640 = .ok (.istore 6, 2) := by decide +kernel
theorem dL_law_642 : decode cL_law 642 = .ok (.aload_n 2, 1) := by decide +kernel
theorem dL_law_643 : decode cL_law 643 = .ok (.invokevirtual 96, 3) := by decide +kernel
theorem dL_law_646 : decode cL_law 646 = .ok (.iload 5, 2) := by decide +kernel
theorem dL_law_648 : decode cL_law 648 = .ok (.if_icmp .eq 5, 3) := by decide +kernel
theorem dL_law_651 : decode cL_law 651 = .ok (.iconst 0, 1) := by decide +kernel
theorem dL_law_652 : decode cL_law 652 = .ok (.ireturn, 1) := by decide +kernel
theorem dL_law_653 : decode cL_law 653 = .ok (.iload 5, 2) := by decide +kernel
theorem dL_law_655 : decode cL_law 655 = .ok (.ifCond .ne 15, 3) := by decide +kernel
theorem dL_law_658 : decode cL_law 658 = .ok (.aload_n 3, 1) := by decide +kernel
theorem dL_law_659 : decode cL_law 659 = .ok (.iconst 0, 1) := by decide +kernel
theorem dL_law_660 : decode cL_law 660 = .ok (.laload, 1) := by decide +kernel
theorem dL_law_661 : decode cL_law 661 = .ok (.iload 6, 2) := by decide +kernel
theorem dL_law_663 : decode cL_law 663 = .ok (.i2l, 1) := by decide +kernel
theorem dL_law_664 : decode cL_law 664 = .ok (.lcmp, 1) := by decide +kernel
theorem dL_law_665 : decode cL_law 665 = .ok (.ifCond .eq 5, 3) := by decide +kernel
theorem dL_law_668 : decode cL_law 668 = .ok (.iconst 0, 1) := by decide +kernel
theorem dL_law_669 : decode cL_law 669 = .ok (.ireturn, 1) := by decide +kernel
theorem dL_law_670 : decode cL_law 670 = .ok (.goto 812, 3) := by decide +kernel
theorem dL_law_673 : decode cL_law 673 = .ok (.aload_n 1, 1) := by decide +kernel
theorem dL_law_674 : decode cL_law 674 = .ok (.aload_n 0, 1) := by decide +kernel
theorem dL_law_675 : decode cL_law 675 = .ok (.iload 4, 2) := by decide +kernel
theorem dL_law_677 : decode cL_law 677 = .ok (.iconst 1, 1) := by decide +kernel
theorem dL_law_678 : decode cL_law 678 = .ok (.iadd, 1) := by decide +kernel
theorem dL_law_679 : decode cL_law 679 = .ok (.iaload, 1) := by decide +kernel
theorem dL_law_680 : decode cL_law 680 = .ok (.aload_n 3, 1) := by decide +kernel
theorem dL_law_681 : decode cL_law 681 = .ok (.invokestatic 135, 3) := by decide +kernel
theorem dL_law_684 : decode cL_law 684 = .ok (.istore 5, 2) := by decide +kernel
theorem dL_law_686 : decode cL_law 686 = .ok (.aload_n 2, 1) := by decide +kernel
theorem dL_law_687 : decode cL_law 687 = .ok (.aload_n 0, 1) := by decide +kernel
theorem dL_law_688 : decode cL_law 688 = .ok (.iload 4, 2) := by decide +kernel
theorem dL_law_690 : decode cL_law 690 = .ok (.iconst 1, 1) := by decide +kernel
theorem dL_law_691 : decode cL_law 691 = .ok (.iadd, 1) := by decide +kernel
theorem dL_law_692 : decode cL_law 692 = .ok (.iaload, 1) := by decide +kernel
theorem dL_law_693 : decode cL_law 693 = .ok (.invokevirtual 137, 3) := by decide +kernel
theorem dL_law_696 : decode cL_law 696 = .ok (.istore 6, 2) := by decide +kernel
theorem dL_law_698 : decode cL_law 698 = .ok (.aload_n 2, 1) := by decide +kernel
theorem dL_law_699 : decode cL_law 699 = .ok (.invokevirtual 96, 3) := by decide +kernel
theorem dL_law_702 : decode cL_law 702 = .ok (.iload 5, 2) := by decide +kernel
theorem dL_law_704 : decode cL_law 704 = .ok (.if_icmp .eq 5, 3) := by decide +kernel
theorem dL_law_707 : decode cL_law 707 = .ok (.iconst 0, 1) := by decide +kernel
theorem dL_law_708 : decode cL_law 708 = .ok (.ireturn, 1) := by decide +kernel
theorem dL_law_709 : decode cL_law 709 = .ok (.iload 5, 2) := by decide +kernel
theorem dL_law_711 : decode cL_law 711 = .ok (.ifCond .ne 15, 3) := by decide +kernel
theorem dL_law_714 : decode cL_law 714 = .ok (.aload_n 3, 1) := by decide +kernel
theorem dL_law_715 : decode cL_law 715 = .ok (.iconst 0, 1) := by decide +kernel
theorem dL_law_716 : decode cL_law 716 = .ok (.laload, 1) := by decide +kernel
theorem dL_law_717 : decode cL_law 717 = .ok (.iload 6, 2) := by decide +kernel
theorem dL_law_719 : decode cL_law 719 = .ok (.i2l, 1) := by decide +kernel
theorem dL_law_720 : decode cL_law 720 = .ok (.lcmp, 1) := by decide +kernel
theorem dL_law_721 : decode cL_law 721 = .ok (.ifCond .eq 5, 3) := by decide +kernel
theorem dL_law_724 : decode cL_law 724 = .ok (.iconst 0, 1) := by decide +kernel
theorem dL_law_725 : decode cL_law 725 = .ok (.ireturn, 1) := by decide +kernel
theorem dL_law_726 : decode cL_law 726 = .ok (.goto 756, 3) := by decide +kernel
theorem dL_law_729 : decode cL_law 729 = .ok (.aload_n 1, 1) := by decide +kernel
theorem dL_law_730 : decode cL_law 730 = .ok (.aload_n 0, 1) := by decide +kernel
theorem dL_law_731 : decode cL_law 731 = .ok (.iload 4, 2) := by decide +kernel
theorem dL_law_733 : decode cL_law 733 = .ok (.iconst 1, 1) := by decide +kernel
theorem dL_law_734 : decode cL_law 734 = .ok (.iadd, 1) := by decide +kernel
theorem dL_law_735 : decode cL_law 735 = .ok (.iaload, 1) := by decide +kernel
theorem dL_law_736 : decode cL_law 736 = .ok (.aload_n 3, 1) := by decide +kernel
theorem dL_law_737 : decode cL_law 737 = .ok (.invokestatic 138, 3) := by decide +kernel
theorem dL_law_740 : decode cL_law 740 = .ok (.istore 5, 2) := by decide +kernel
theorem dL_law_742 : decode cL_law 742 = .ok (.aload_n 2, 1) := by decide +kernel
theorem dL_law_743 : decode cL_law 743 = .ok (.aload_n 0, 1) := by decide +kernel
theorem dL_law_744 : decode cL_law 744 = .ok (.iload 4, 2) := by decide +kernel
theorem dL_law_746 : decode cL_law 746 = .ok (.iconst 1, 1) := by decide +kernel
theorem dL_law_747 : decode cL_law 747 = .ok (.iadd, 1) := by decide +kernel
theorem dL_law_748 : decode cL_law 748 = .ok (.iaload, 1) := by decide +kernel
theorem dL_law_749 : decode cL_law 749 = .ok (.invokevirtual 140, 3) := by decide +kernel
theorem dL_law_752 : decode cL_law 752 = .ok (.istore 6, 2) := by decide +kernel
theorem dL_law_754 : decode cL_law 754 = .ok (.aload_n 2, 1) := by decide +kernel
theorem dL_law_755 : decode cL_law 755 = .ok (.invokevirtual 96, 3) := by decide +kernel
theorem dL_law_758 : decode cL_law 758 = .ok (.iload 5, 2) := by decide +kernel
theorem dL_law_760 : decode cL_law 760 = .ok (.if_icmp .eq 5, 3) := by decide +kernel
theorem dL_law_763 : decode cL_law 763 = .ok (.iconst 0, 1) := by decide +kernel
theorem dL_law_764 : decode cL_law 764 = .ok (.ireturn, 1) := by decide +kernel
theorem dL_law_765 : decode cL_law 765 = .ok (.iload 5, 2) := by decide +kernel
theorem dL_law_767 : decode cL_law 767 = .ok (.ifCond .ne 15, 3) := by decide +kernel
theorem dL_law_770 : decode cL_law 770 = .ok (.aload_n 3, 1) := by decide +kernel
theorem dL_law_771 : decode cL_law 771 = .ok (.iconst 0, 1) := by decide +kernel
theorem dL_law_772 : decode cL_law 772 = .ok (.laload, 1) := by decide +kernel
theorem dL_law_773 : decode cL_law 773 = .ok (.iload 6, 2) := by decide +kernel
theorem dL_law_775 : decode cL_law 775 = .ok (.i2l, 1) := by decide +kernel
theorem dL_law_776 : decode cL_law 776 = .ok (.lcmp, 1) := by decide +kernel
theorem dL_law_777 : decode cL_law 777 = .ok (.ifCond .eq 5, 3) := by decide +kernel
theorem dL_law_780 : decode cL_law 780 = .ok (.iconst 0, 1) := by decide +kernel
theorem dL_law_781 : decode cL_law 781 = .ok (.ireturn, 1) := by decide +kernel
theorem dL_law_782 : decode cL_law 782 = .ok (.goto 700, 3) := by decide +kernel
theorem dL_law_785 : decode cL_law 785 = .ok (.aload_n 1, 1) := by decide +kernel
theorem dL_law_786 : decode cL_law 786 = .ok (.aload_n 0, 1) := by decide +kernel
theorem dL_law_787 : decode cL_law 787 = .ok (.iload 4, 2) := by decide +kernel
theorem dL_law_789 : decode cL_law 789 = .ok (.iconst 1, 1) := by decide +kernel
theorem dL_law_790 : decode cL_law 790 = .ok (.iadd, 1) := by decide +kernel
theorem dL_law_791 : decode cL_law 791 = .ok (.iaload, 1) := by decide +kernel
theorem dL_law_792 : decode cL_law 792 = .ok (.aload_n 3, 1) := by decide +kernel
theorem dL_law_793 : decode cL_law 793 = .ok (.invokestatic 141, 3) := by decide +kernel
theorem dL_law_796 : decode cL_law 796 = .ok (.istore 5, 2) := by decide +kernel
theorem dL_law_798 : decode cL_law 798 = .ok (.aload_n 2, 1) := by decide +kernel
theorem dL_law_799 : decode cL_law 799 = .ok (.aload_n 0, 1) := by decide +kernel
theorem dL_law_800 : decode cL_law 800 = .ok (.iload 4, 2) := by decide +kernel
theorem dL_law_802 : decode cL_law 802 = .ok (.iconst 1, 1) := by decide +kernel
theorem dL_law_803 : decode cL_law 803 = .ok (.iadd, 1) := by decide +kernel
theorem dL_law_804 : decode cL_law 804 = .ok (.iaload, 1) := by decide +kernel
theorem dL_law_805 : decode cL_law 805 = .ok (.invokevirtual 143, 3) := by decide +kernel
theorem dL_law_808 : decode cL_law 808 = .ok (.istore 6, 2) := by decide +kernel
theorem dL_law_810 : decode cL_law 810 = .ok (.aload_n 2, 1) := by decide +kernel
theorem dL_law_811 : decode cL_law 811 = .ok (.invokevirtual 96, 3) := by decide +kernel
theorem dL_law_814 : decode cL_law 814 = .ok (.iload 5, 2) := by decide +kernel
theorem dL_law_816 : decode cL_law 816 = .ok (.if_icmp .eq 5, 3) := by decide +kernel
theorem dL_law_819 : decode cL_law 819 = .ok (.iconst 0, 1) := by decide +kernel
theorem dL_law_820 : decode cL_law 820 = .ok (.ireturn, 1) := by decide +kernel
theorem dL_law_821 : decode cL_law 821 = .ok (.iload 5, 2) := by decide +kernel
theorem dL_law_823 : decode cL_law 823 = .ok (.ifCond .ne 15, 3) := by decide +kernel
theorem dL_law_826 : decode cL_law 826 = .ok (.aload_n 3, 1) := by decide +kernel
theorem dL_law_827 : decode cL_law 827 = .ok (.iconst 0, 1) := by decide +kernel
theorem dL_law_828 : decode cL_law 828 = .ok (.laload, 1) := by decide +kernel
theorem dL_law_829 : decode cL_law 829 = .ok (.iload 6, 2) := by decide +kernel
theorem dL_law_831 : decode cL_law 831 = .ok (.i2l, 1) := by decide +kernel
theorem dL_law_832 : decode cL_law 832 = .ok (.lcmp, 1) := by decide +kernel
theorem dL_law_833 : decode cL_law 833 = .ok (.ifCond .eq 5, 3) := by decide +kernel
theorem dL_law_836 : decode cL_law 836 = .ok (.iconst 0, 1) := by decide +kernel
theorem dL_law_837 : decode cL_law 837 = .ok (.ireturn, 1) := by decide +kernel
theorem dL_law_838 : decode cL_law 838 = .ok (.goto 644, 3) := by decide +kernel
theorem dL_law_841 : decode cL_law 841 = .ok (.aload_n 1, 1) := by decide +kernel
theorem dL_law_842 : decode cL_law 842 = .ok (.aload_n 0, 1) := by decide +kernel
theorem dL_law_843 : decode cL_law 843 = .ok (.iload 4, 2) := by decide +kernel
theorem dL_law_845 : decode cL_law 845 = .ok (.iconst 1, 1) := by decide +kernel
theorem dL_law_846 : decode cL_law 846 = .ok (.iadd, 1) := by decide +kernel
theorem dL_law_847 : decode cL_law 847 = .ok (.iaload, 1) := by decide +kernel
theorem dL_law_848 : decode cL_law 848 = .ok (.aload_n 3, 1) := by decide +kernel
theorem dL_law_849 : decode cL_law 849 = .ok (.invokestatic 144, 3) := by decide +kernel
theorem dL_law_852 : decode cL_law 852 = .ok (.istore 5, 2) := by decide +kernel
theorem dL_law_854 : decode cL_law 854 = .ok (.aload_n 2, 1) := by decide +kernel
theorem dL_law_855 : decode cL_law 855 = .ok (.aload_n 0, 1) := by decide +kernel
theorem dL_law_856 : decode cL_law 856 = .ok (.iload 4, 2) := by decide +kernel
theorem dL_law_858 : decode cL_law 858 = .ok (.iconst 1, 1) := by decide +kernel
theorem dL_law_859 : decode cL_law 859 = .ok (.iadd, 1) := by decide +kernel
theorem dL_law_860 : decode cL_law 860 = .ok (.iaload, 1) := by decide +kernel
theorem dL_law_861 : decode cL_law 861 = .ok (.invokevirtual 146, 3) := by decide +kernel
theorem dL_law_864 : decode cL_law 864 = .ok (.istore 6, 2) := by decide +kernel
theorem dL_law_866 : decode cL_law 866 = .ok (.aload_n 2, 1) := by decide +kernel
theorem dL_law_867 : decode cL_law 867 = .ok (.invokevirtual 96, 3) := by decide +kernel
theorem dL_law_870 : decode cL_law 870 = .ok (.iload 5, 2) := by decide +kernel
theorem dL_law_872 : decode cL_law 872 = .ok (.if_icmp .eq 5, 3) := by decide +kernel
theorem dL_law_875 : decode cL_law 875 = .ok (.iconst 0, 1) := by decide +kernel
theorem dL_law_876 : decode cL_law 876 = .ok (.ireturn, 1) := by decide +kernel
theorem dL_law_877 : decode cL_law 877 = .ok (.iload 5, 2) := by decide +kernel
theorem dL_law_879 : decode cL_law 879 = .ok (.ifCond .ne 15, 3) := by decide +kernel
theorem dL_law_882 : decode cL_law 882 = .ok (.aload_n 3, 1) := by decide +kernel
theorem dL_law_883 : decode cL_law 883 = .ok (.iconst 0, 1) := by decide +kernel
theorem dL_law_884 : decode cL_law 884 = .ok (.laload, 1) := by decide +kernel
theorem dL_law_885 : decode cL_law 885 = .ok (.iload 6, 2) := by decide +kernel
theorem dL_law_887 : decode cL_law 887 = .ok (.i2l, 1) := by decide +kernel
theorem dL_law_888 : decode cL_law 888 = .ok (.lcmp, 1) := by decide +kernel
theorem dL_law_889 : decode cL_law 889 = .ok (.ifCond .eq 5, 3) := by decide +kernel
theorem dL_law_892 : decode cL_law 892 = .ok (.iconst 0, 1) := by decide +kernel
theorem dL_law_893 : decode cL_law 893 = .ok (.ireturn, 1) := by decide +kernel
theorem dL_law_894 : decode cL_law 894 = .ok (.goto 588, 3) := by decide +kernel
theorem dL_law_897 : decode cL_law 897 = .ok (.aload_n 1, 1) := by decide +kernel
theorem dL_law_898 : decode cL_law 898 = .ok (.aload_n 0, 1) := by decide +kernel
theorem dL_law_899 : decode cL_law 899 = .ok (.iload 4, 2) := by decide +kernel
theorem dL_law_901 : decode cL_law 901 = .ok (.iconst 1, 1) := by decide +kernel
theorem dL_law_902 : decode cL_law 902 = .ok (.iadd, 1) := by decide +kernel
theorem dL_law_903 : decode cL_law 903 = .ok (.iaload, 1) := by decide +kernel
theorem dL_law_904 : decode cL_law 904 = .ok (.aload_n 3, 1) := by decide +kernel
theorem dL_law_905 : decode cL_law 905 = .ok (.invokestatic 147, 3) := by decide +kernel
theorem dL_law_908 : decode cL_law 908 = .ok (.istore 5, 2) := by decide +kernel
theorem dL_law_910 : decode cL_law 910 = .ok (.aload_n 2, 1) := by decide +kernel
theorem dL_law_911 : decode cL_law 911 = .ok (.aload_n 0, 1) := by decide +kernel
theorem dL_law_912 : decode cL_law 912 = .ok (.iload 4, 2) := by decide +kernel
theorem dL_law_914 : decode cL_law 914 = .ok (.iconst 1, 1) := by decide +kernel
theorem dL_law_915 : decode cL_law 915 = .ok (.iadd, 1) := by decide +kernel
theorem dL_law_916 : decode cL_law 916 = .ok (.iaload, 1) := by decide +kernel
theorem dL_law_917 : decode cL_law 917 = .ok (.invokevirtual 149, 3) := by decide +kernel
theorem dL_law_920 : decode cL_law 920 = .ok (.istore 6, 2) := by decide +kernel
theorem dL_law_922 : decode cL_law 922 = .ok (.aload_n 2, 1) := by decide +kernel
theorem dL_law_923 : decode cL_law 923 = .ok (.invokevirtual 96, 3) := by decide +kernel
theorem dL_law_926 : decode cL_law 926 = .ok (.iload 5, 2) := by decide +kernel
theorem dL_law_928 : decode cL_law 928 = .ok (.if_icmp .eq 5, 3) := by decide +kernel
theorem dL_law_931 : decode cL_law 931 = .ok (.iconst 0, 1) := by decide +kernel
theorem dL_law_932 : decode cL_law 932 = .ok (.ireturn, 1) := by decide +kernel
theorem dL_law_933 : decode cL_law 933 = .ok (.iload 5, 2) := by decide +kernel
theorem dL_law_935 : decode cL_law 935 = .ok (.ifCond .ne 15, 3) := by decide +kernel
theorem dL_law_938 : decode cL_law 938 = .ok (.aload_n 3, 1) := by decide +kernel
theorem dL_law_939 : decode cL_law 939 = .ok (.iconst 0, 1) := by decide +kernel
theorem dL_law_940 : decode cL_law 940 = .ok (.laload, 1) := by decide +kernel
theorem dL_law_941 : decode cL_law 941 = .ok (.iload 6, 2) := by decide +kernel
theorem dL_law_943 : decode cL_law 943 = .ok (.i2l, 1) := by decide +kernel
theorem dL_law_944 : decode cL_law 944 = .ok (.lcmp, 1) := by decide +kernel
theorem dL_law_945 : decode cL_law 945 = .ok (.ifCond .eq 5, 3) := by decide +kernel
theorem dL_law_948 : decode cL_law 948 = .ok (.iconst 0, 1) := by decide +kernel
theorem dL_law_949 : decode cL_law 949 = .ok (.ireturn, 1) := by decide +kernel
theorem dL_law_950 : decode cL_law 950 = .ok (.goto 532, 3) := by decide +kernel
theorem dL_law_953 : decode cL_law 953 = .ok (.aload_n 1, 1) := by decide +kernel
theorem dL_law_954 : decode cL_law 954 = .ok (.aload_n 0, 1) := by decide +kernel
theorem dL_law_955 : decode cL_law 955 = .ok (.iload 4, 2) := by decide +kernel
theorem dL_law_957 : decode cL_law 957 = .ok (.iconst 1, 1) := by decide +kernel
theorem dL_law_958 : decode cL_law 958 = .ok (.iadd, 1) := by decide +kernel
theorem dL_law_959 : decode cL_law 959 = .ok (.iaload, 1) := by decide +kernel
theorem dL_law_960 : decode cL_law 960 = .ok (.aload_n 3, 1) := by decide +kernel
theorem dL_law_961 : decode cL_law 961 = .ok (.invokestatic 150, 3) := by decide +kernel
theorem dL_law_964 : decode cL_law 964 = .ok (.istore 5, 2) := by decide +kernel
theorem dL_law_966 : decode cL_law 966 = .ok (.aload_n 2, 1) := by decide +kernel
theorem dL_law_967 : decode cL_law 967 = .ok (.aload_n 0, 1) := by decide +kernel
theorem dL_law_968 : decode cL_law 968 = .ok (.iload 4, 2) := by decide +kernel
theorem dL_law_970 : decode cL_law 970 = .ok (.iconst 1, 1) := by decide +kernel
theorem dL_law_971 : decode cL_law 971 = .ok (.iadd, 1) := by decide +kernel
theorem dL_law_972 : decode cL_law 972 = .ok (.iaload, 1) := by decide +kernel
theorem dL_law_973 : decode cL_law 973 = .ok (.invokevirtual 152, 3) := by decide +kernel
theorem dL_law_976 : decode cL_law 976 = .ok (.istore 6, 2) := by decide +kernel
theorem dL_law_978 : decode cL_law 978 = .ok (.aload_n 2, 1) := by decide +kernel
theorem dL_law_979 : decode cL_law 979 = .ok (.invokevirtual 96, 3) := by decide +kernel
theorem dL_law_982 : decode cL_law 982 = .ok (.iload 5, 2) := by decide +kernel
theorem dL_law_984 : decode cL_law 984 = .ok (.if_icmp .eq 5, 3) := by decide +kernel
theorem dL_law_987 : decode cL_law 987 = .ok (.iconst 0, 1) := by decide +kernel
theorem dL_law_988 : decode cL_law 988 = .ok (.ireturn, 1) := by decide +kernel
theorem dL_law_989 : decode cL_law 989 = .ok (.iload 5, 2) := by decide +kernel
theorem dL_law_991 : decode cL_law 991 = .ok (.ifCond .ne 15, 3) := by decide +kernel
theorem dL_law_994 : decode cL_law 994 = .ok (.aload_n 3, 1) := by decide +kernel
theorem dL_law_995 : decode cL_law 995 = .ok (.iconst 0, 1) := by decide +kernel
theorem dL_law_996 : decode cL_law 996 = .ok (.laload, 1) := by decide +kernel
theorem dL_law_997 : decode cL_law 997 = .ok (.iload 6, 2) := by decide +kernel
theorem dL_law_999 : decode cL_law 999 = .ok (.i2l, 1) := by decide +kernel
theorem dL_law_1000 : decode cL_law 1000 = .ok (.lcmp, 1) := by decide +kernel
theorem dL_law_1001 : decode cL_law 1001 = .ok (.ifCond .eq 5, 3) := by decide +kernel
theorem dL_law_1004 : decode cL_law 1004 = .ok (.iconst 0, 1) := by decide +kernel
theorem dL_law_1005 : decode cL_law 1005 = .ok (.ireturn, 1) := by decide +kernel
theorem dL_law_1006 : decode cL_law 1006 = .ok (.goto 476, 3) := by decide +kernel
theorem dL_law_1009 : decode cL_law 1009 = .ok (.aload_n 1, 1) := by decide +kernel
theorem dL_law_1010 : decode cL_law 1010 = .ok (.invokevirtual 153, 3) := by decide +kernel
theorem dL_law_1013 : decode cL_law 1013 = .ok (.aload_n 2, 1) := by decide +kernel
theorem dL_law_1014 : decode cL_law 1014 = .ok (.invokevirtual 156, 3) := by decide +kernel
theorem dL_law_1017 : decode cL_law 1017 = .ok (.if_icmp .eq 465, 3) := by decide +kernel
theorem dL_law_1020 : decode cL_law 1020 = .ok (.iconst 0, 1) := by decide +kernel
theorem dL_law_1021 : decode cL_law 1021 = .ok (.ireturn, 1) := by decide +kernel
theorem dL_law_1022 : decode cL_law 1022 = .ok (.aload_n 1, 1) := by decide +kernel
theorem dL_law_1023 : decode cL_law 1023 = .ok (.aload_n 0, 1) := by decide +kernel
theorem dL_law_1024 : decode cL_law 1024 = .ok (.iload 4, 2) := by decide +kernel
theorem dL_law_1026 : decode cL_law 1026 = .ok (.iconst 1, 1) := by decide +kernel
theorem dL_law_1027 : decode cL_law 1027 = .ok (.iadd, 1) := by decide +kernel
theorem dL_law_1028 : decode cL_law 1028 = .ok (.iaload, 1) := by decide +kernel
theorem dL_law_1029 : decode cL_law 1029 = .ok (.aload_n 3, 1) := by decide +kernel
theorem dL_law_1030 : decode cL_law 1030 = .ok (.invokestatic 157, 3) := by decide +kernel
theorem dL_law_1033 : decode cL_law 1033 = .ok (.istore 5, 2) := by decide +kernel
theorem dL_law_1035 : decode cL_law 1035 = .ok (.aload_n 2, 1) := by decide +kernel
theorem dL_law_1036 : decode cL_law 1036 = .ok (.aload_n 0, 1) := by decide +kernel
theorem dL_law_1037 : decode cL_law 1037 = .ok (.iload 4, 2) := by decide +kernel
theorem dL_law_1039 : decode cL_law 1039 = .ok (.iconst 1, 1) := by decide +kernel
theorem dL_law_1040 : decode cL_law 1040 = .ok (.iadd, 1) := by decide +kernel
theorem dL_law_1041 : decode cL_law 1041 = .ok (.iaload, 1) := by decide +kernel
theorem dL_law_1042 : decode cL_law 1042 = .ok (.invokevirtual 159, 3) := by decide +kernel
theorem dL_law_1045 : decode cL_law 1045 = .ok (.istore 6, 2) := by decide +kernel
theorem dL_law_1047 : decode cL_law 1047 = .ok (.aload_n 2, 1) := by decide +kernel
theorem dL_law_1048 : decode cL_law 1048 = .ok (.invokevirtual 96, 3) := by decide +kernel
theorem dL_law_1051 : decode cL_law 1051 = .ok (.iload 5, 2) := by decide +kernel
theorem dL_law_1053 : decode cL_law 1053 = .ok (.if_icmp .eq 5, 3) := by decide +kernel
theorem dL_law_1056 : decode cL_law 1056 = .ok (.iconst 0, 1) := by decide +kernel
theorem dL_law_1057 : decode cL_law 1057 = .ok (.ireturn, 1) := by decide +kernel
theorem dL_law_1058 : decode cL_law 1058 = .ok (.iload 5, 2) := by decide +kernel
theorem dL_law_1060 : decode cL_law 1060 = .ok (.ifCond .ne 15, 3) := by decide +kernel
theorem dL_law_1063 : decode cL_law 1063 = .ok (.aload_n 3, 1) := by decide +kernel
theorem dL_law_1064 : decode cL_law 1064 = .ok (.iconst 0, 1) := by decide +kernel
theorem dL_law_1065 : decode cL_law 1065 = .ok (.laload, 1) := by decide +kernel
theorem dL_law_1066 : decode cL_law 1066 = .ok (.iload 6, 2) := by decide +kernel
theorem dL_law_1068 : decode cL_law 1068 = .ok (.i2l, 1) := by decide +kernel
theorem dL_law_1069 : decode cL_law 1069 = .ok (.lcmp, 1) := by decide +kernel
theorem dL_law_1070 : decode cL_law 1070 = .ok (.ifCond .eq 5, 3) := by decide +kernel
theorem dL_law_1073 : decode cL_law 1073 = .ok (.iconst 0, 1) := by decide +kernel
theorem dL_law_1074 : decode cL_law 1074 = .ok (.ireturn, 1) := by decide +kernel
theorem dL_law_1075 : decode cL_law 1075 = .ok (.goto 407, 3) := by decide +kernel
theorem dL_law_1078 : decode cL_law 1078 = .ok (.aload_n 1, 1) := by decide +kernel
theorem dL_law_1079 : decode cL_law 1079 = .ok (.aload_n 0, 1) := by decide +kernel
theorem dL_law_1080 : decode cL_law 1080 = .ok (.iload 4, 2) := by decide +kernel
theorem dL_law_1082 : decode cL_law 1082 = .ok (.iconst 1, 1) := by decide +kernel
theorem dL_law_1083 : decode cL_law 1083 = .ok (.iadd, 1) := by decide +kernel
theorem dL_law_1084 : decode cL_law 1084 = .ok (.iaload, 1) := by decide +kernel
theorem dL_law_1085 : decode cL_law 1085 = .ok (.aload_n 0, 1) := by decide +kernel
theorem dL_law_1086 : decode cL_law 1086 = .ok (.iload 4, 2) := by decide +kernel
theorem dL_law_1088 : decode cL_law 1088 = .ok (.iconst 2, 1) := by decide +kernel
theorem dL_law_1089 : decode cL_law 1089 = .ok (.iadd, 1) := by decide +kernel
theorem dL_law_1090 : decode cL_law 1090 = .ok (.iaload, 1) := by decide +kernel
theorem dL_law_1091 : decode cL_law 1091 = .ok (.aload_n 3, 1) := by decide +kernel
theorem dL_law_1092 : decode cL_law 1092 = .ok (.invokestatic 160, 3) := by decide +kernel
theorem dL_law_1095 : decode cL_law 1095 = .ok (.istore 5, 2) := by decide +kernel
theorem dL_law_1097 : decode cL_law 1097 = .ok (.aload_n 2, 1) := by decide +kernel
theorem dL_law_1098 : decode cL_law 1098 = .ok (.aload_n 0, 1) := by decide +kernel
theorem dL_law_1099 : decode cL_law 1099 = .ok (.iload 4, 2) := by decide +kernel
theorem dL_law_1101 : decode cL_law 1101 = .ok (.iconst 1, 1) := by decide +kernel
theorem dL_law_1102 : decode cL_law 1102 = .ok (.iadd, 1) := by decide +kernel
theorem dL_law_1103 : decode cL_law 1103 = .ok (.iaload, 1) := by decide +kernel
theorem dL_law_1104 : decode cL_law 1104 = .ok (.aload_n 0, 1) := by decide +kernel
theorem dL_law_1105 : decode cL_law 1105 = .ok (.iload 4, 2) := by decide +kernel
theorem dL_law_1107 : decode cL_law 1107 = .ok (.iconst 2, 1) := by decide +kernel
theorem dL_law_1108 : decode cL_law 1108 = .ok (.iadd, 1) := by decide +kernel
theorem dL_law_1109 : decode cL_law 1109 = .ok (.iaload, 1) := by decide +kernel
theorem dL_law_1110 : decode cL_law 1110 = .ok (.invokevirtual 163, 3) := by decide +kernel
theorem dL_law_1113 : decode cL_law 1113 = .ok (.istore 6, 2) := by decide +kernel
theorem dL_law_1115 : decode cL_law 1115 = .ok (.aload_n 2, 1) := by decide +kernel
theorem dL_law_1116 : decode cL_law 1116 = .ok (.invokevirtual 96, 3) := by decide +kernel
theorem dL_law_1119 : decode cL_law 1119 = .ok (.iload 5, 2) := by decide +kernel
theorem dL_law_1121 : decode cL_law 1121 = .ok (.if_icmp .eq 5, 3) := by decide +kernel
theorem dL_law_1124 : decode cL_law 1124 = .ok (.iconst 0, 1) := by decide +kernel
theorem dL_law_1125 : decode cL_law 1125 = .ok (.ireturn, 1) := by decide +kernel
theorem dL_law_1126 : decode cL_law 1126 = .ok (.iload 5, 2) := by decide +kernel
theorem dL_law_1128 : decode cL_law 1128 = .ok (.ifCond .ne 15, 3) := by decide +kernel
theorem dL_law_1131 : decode cL_law 1131 = .ok (.aload_n 3, 1) := by decide +kernel
theorem dL_law_1132 : decode cL_law 1132 = .ok (.iconst 0, 1) := by decide +kernel
theorem dL_law_1133 : decode cL_law 1133 = .ok (.laload, 1) := by decide +kernel
theorem dL_law_1134 : decode cL_law 1134 = .ok (.iload 6, 2) := by decide +kernel
theorem dL_law_1136 : decode cL_law 1136 = .ok (.i2l, 1) := by decide +kernel
theorem dL_law_1137 : decode cL_law 1137 = .ok (.lcmp, 1) := by decide +kernel
theorem dL_law_1138 : decode cL_law 1138 = .ok (.ifCond .eq 5, 3) := by decide +kernel
theorem dL_law_1141 : decode cL_law 1141 = .ok (.iconst 0, 1) := by decide +kernel
theorem dL_law_1142 : decode cL_law 1142 = .ok (.ireturn, 1) := by decide +kernel
theorem dL_law_1143 : decode cL_law 1143 = .ok (.goto 339, 3) := by decide +kernel
theorem dL_law_1146 : decode cL_law 1146 = .ok (.aload_n 1, 1) := by decide +kernel
theorem dL_law_1147 : decode cL_law 1147 = .ok (.aload_n 0, 1) := by decide +kernel
theorem dL_law_1148 : decode cL_law 1148 = .ok (.iload 4, 2) := by decide +kernel
theorem dL_law_1150 : decode cL_law 1150 = .ok (.iconst 1, 1) := by decide +kernel
theorem dL_law_1151 : decode cL_law 1151 = .ok (.iadd, 1) := by decide +kernel
theorem dL_law_1152 : decode cL_law 1152 = .ok (.iaload, 1) := by decide +kernel
theorem dL_law_1153 : decode cL_law 1153 = .ok (.aload_n 3, 1) := by decide +kernel
theorem dL_law_1154 : decode cL_law 1154 = .ok (.invokestatic 164, 3) := by decide +kernel
theorem dL_law_1157 : decode cL_law 1157 = .ok (.istore 5, 2) := by decide +kernel
theorem dL_law_1159 : decode cL_law 1159 = .ok (.aload_n 2, 1) := by decide +kernel
theorem dL_law_1160 : decode cL_law 1160 = .ok (.aload_n 0, 1) := by decide +kernel
theorem dL_law_1161 : decode cL_law 1161 = .ok (.iload 4, 2) := by decide +kernel
theorem dL_law_1163 : decode cL_law 1163 = .ok (.iconst 1, 1) := by decide +kernel
theorem dL_law_1164 : decode cL_law 1164 = .ok (.iadd, 1) := by decide +kernel
theorem dL_law_1165 : decode cL_law 1165 = .ok (.iaload, 1) := by decide +kernel
theorem dL_law_1166 : decode cL_law 1166 = .ok (.invokevirtual 166, 3) := by decide +kernel
theorem dL_law_1169 : decode cL_law 1169 = .ok (.istore 6, 2) := by decide +kernel
theorem dL_law_1171 : decode cL_law 1171 = .ok (.aload_n 2, 1) := by decide +kernel
theorem dL_law_1172 : decode cL_law 1172 = .ok (.invokevirtual 96, 3) := by decide +kernel
theorem dL_law_1175 : decode cL_law 1175 = .ok (.iload 5, 2) := by decide +kernel
theorem dL_law_1177 : decode cL_law 1177 = .ok (.if_icmp .eq 5, 3) := by decide +kernel
theorem dL_law_1180 : decode cL_law 1180 = .ok (.iconst 0, 1) := by decide +kernel
theorem dL_law_1181 : decode cL_law 1181 = .ok (.ireturn, 1) := by decide +kernel
theorem dL_law_1182 : decode cL_law 1182 = .ok (.iload 5, 2) := by decide +kernel
theorem dL_law_1184 : decode cL_law 1184 = .ok (.ifCond .ne 15, 3) := by decide +kernel
theorem dL_law_1187 : decode cL_law 1187 = .ok (.aload_n 3, 1) := by decide +kernel
theorem dL_law_1188 : decode cL_law 1188 = .ok (.iconst 0, 1) := by decide +kernel
theorem dL_law_1189 : decode cL_law 1189 = .ok (.laload, 1) := by decide +kernel
theorem dL_law_1190 : decode cL_law 1190 = .ok (.iload 6, 2) := by decide +kernel
theorem dL_law_1192 : decode cL_law 1192 = .ok (.i2l, 1) := by decide +kernel
theorem dL_law_1193 : decode cL_law 1193 = .ok (.lcmp, 1) := by decide +kernel
theorem dL_law_1194 : decode cL_law 1194 = .ok (.ifCond .eq 5, 3) := by decide +kernel
theorem dL_law_1197 : decode cL_law 1197 = .ok (.iconst 0, 1) := by decide +kernel
theorem dL_law_1198 : decode cL_law 1198 = .ok (.ireturn, 1) := by decide +kernel
theorem dL_law_1199 : decode cL_law 1199 = .ok (.goto 283, 3) := by decide +kernel
theorem dL_law_1202 : decode cL_law 1202 = .ok (.aload_n 1, 1) := by decide +kernel
theorem dL_law_1203 : decode cL_law 1203 = .ok (.aload_n 0, 1) := by decide +kernel
theorem dL_law_1204 : decode cL_law 1204 = .ok (.iload 4, 2) := by decide +kernel
theorem dL_law_1206 : decode cL_law 1206 = .ok (.iconst 1, 1) := by decide +kernel
theorem dL_law_1207 : decode cL_law 1207 = .ok (.iadd, 1) := by decide +kernel
theorem dL_law_1208 : decode cL_law 1208 = .ok (.iaload, 1) := by decide +kernel
theorem dL_law_1209 : decode cL_law 1209 = .ok (.aload_n 3, 1) := by decide +kernel
theorem dL_law_1210 : decode cL_law 1210 = .ok (.invokestatic 167, 3) := by decide +kernel
theorem dL_law_1213 : decode cL_law 1213 = .ok (.istore 5, 2) := by decide +kernel
theorem dL_law_1215 : decode cL_law 1215 = .ok (.aload_n 2, 1) := by decide +kernel
theorem dL_law_1216 : decode cL_law 1216 = .ok (.aload_n 0, 1) := by decide +kernel
theorem dL_law_1217 : decode cL_law 1217 = .ok (.iload 4, 2) := by decide +kernel
theorem dL_law_1219 : decode cL_law 1219 = .ok (.iconst 1, 1) := by decide +kernel
theorem dL_law_1220 : decode cL_law 1220 = .ok (.iadd, 1) := by decide +kernel
theorem dL_law_1221 : decode cL_law 1221 = .ok (.iaload, 1) := by decide +kernel
theorem dL_law_1222 : decode cL_law 1222 = .ok (.invokevirtual 169, 3) := by decide +kernel
theorem dL_law_1225 : decode cL_law 1225 = .ok (.istore 6, 2) := by decide +kernel
theorem dL_law_1227 : decode cL_law 1227 = .ok (.aload_n 2, 1) := by decide +kernel
theorem dL_law_1228 : decode cL_law 1228 = .ok (.invokevirtual 96, 3) := by decide +kernel
theorem dL_law_1231 : decode cL_law 1231 = .ok (.iload 5, 2) := by decide +kernel
theorem dL_law_1233 : decode cL_law 1233 = .ok (.if_icmp .eq 5, 3) := by decide +kernel
theorem dL_law_1236 : decode cL_law 1236 = .ok (.iconst 0, 1) := by decide +kernel
theorem dL_law_1237 : decode cL_law 1237 = .ok (.ireturn, 1) := by decide +kernel
theorem dL_law_1238 : decode cL_law 1238 = .ok (.iload 5, 2) := by decide +kernel
theorem dL_law_1240 : decode cL_law 1240 = .ok (.ifCond .ne 15, 3) := by decide +kernel
theorem dL_law_1243 : decode cL_law 1243 = .ok (.aload_n 3, 1) := by decide +kernel
theorem dL_law_1244 : decode cL_law 1244 = .ok (.iconst 0, 1) := by decide +kernel
theorem dL_law_1245 : decode cL_law 1245 = .ok (.laload, 1) := by decide +kernel
theorem dL_law_1246 : decode cL_law 1246 = .ok (.iload 6, 2) := by decide +kernel
theorem dL_law_1248 : decode cL_law 1248 = .ok (.i2l, 1) := by decide +kernel
theorem dL_law_1249 : decode cL_law 1249 = .ok (.lcmp, 1) := by decide +kernel
theorem dL_law_1250 : decode cL_law 1250 = .ok (.ifCond .eq 5, 3) := by decide +kernel
theorem dL_law_1253 : decode cL_law 1253 = .ok (.iconst 0, 1) := by decide +kernel
theorem dL_law_1254 : decode cL_law 1254 = .ok (.ireturn, 1) := by decide +kernel
theorem dL_law_1255 : decode cL_law 1255 = .ok (.goto 227, 3) := by decide +kernel
theorem dL_law_1258 : decode cL_law 1258 = .ok (.aload_n 1, 1) := by decide +kernel
theorem dL_law_1259 : decode cL_law 1259 = .ok (.aload_n 0, 1) := by decide +kernel
theorem dL_law_1260 : decode cL_law 1260 = .ok (.iload 4, 2) := by decide +kernel
theorem dL_law_1262 : decode cL_law 1262 = .ok (.iconst 1, 1) := by decide +kernel
theorem dL_law_1263 : decode cL_law 1263 = .ok (.iadd, 1) := by decide +kernel
theorem dL_law_1264 : decode cL_law 1264 = .ok (.iaload, 1) := by decide +kernel
theorem dL_law_1265 : decode cL_law 1265 = .ok (.aload_n 3, 1) := by decide +kernel
theorem dL_law_1266 : decode cL_law 1266 = .ok (.invokestatic 170, 3) := by decide +kernel
theorem dL_law_1269 : decode cL_law 1269 = .ok (.istore 5, 2) := by decide +kernel
theorem dL_law_1271 : decode cL_law 1271 = .ok (.aload_n 2, 1) := by decide +kernel
theorem dL_law_1272 : decode cL_law 1272 = .ok (.aload_n 0, 1) := by decide +kernel
theorem dL_law_1273 : decode cL_law 1273 = .ok (.iload 4, 2) := by decide +kernel
theorem dL_law_1275 : decode cL_law 1275 = .ok (.iconst 1, 1) := by decide +kernel
theorem dL_law_1276 : decode cL_law 1276 = .ok (.iadd, 1) := by decide +kernel
theorem dL_law_1277 : decode cL_law 1277 = .ok (.iaload, 1) := by decide +kernel
theorem dL_law_1278 : decode cL_law 1278 = .ok (.invokevirtual 172, 3) := by decide +kernel
theorem dL_law_1281 : decode cL_law 1281 = .ok (.istore 6, 2) := by decide +kernel
theorem dL_law_1283 : decode cL_law 1283 = .ok (.aload_n 2, 1) := by decide +kernel
theorem dL_law_1284 : decode cL_law 1284 = .ok (.invokevirtual 96, 3) := by decide +kernel
theorem dL_law_1287 : decode cL_law 1287 = .ok (.iload 5, 2) := by decide +kernel
theorem dL_law_1289 : decode cL_law 1289 = .ok (.if_icmp .eq 5, 3) := by decide +kernel
theorem dL_law_1292 : decode cL_law 1292 = .ok (.iconst 0, 1) := by decide +kernel
theorem dL_law_1293 : decode cL_law 1293 = .ok (.ireturn, 1) := by decide +kernel
theorem dL_law_1294 : decode cL_law 1294 = .ok (.iload 5, 2) := by decide +kernel
theorem dL_law_1296 : decode cL_law 1296 = .ok (.ifCond .ne 15, 3) := by decide +kernel
theorem dL_law_1299 : decode cL_law 1299 = .ok (.aload_n 3, 1) := by decide +kernel
theorem dL_law_1300 : decode cL_law 1300 = .ok (.iconst 0, 1) := by decide +kernel
theorem dL_law_1301 : decode cL_law 1301 = .ok (.laload, 1) := by decide +kernel
theorem dL_law_1302 : decode cL_law 1302 = .ok (.iload 6, 2) := by decide +kernel
theorem dL_law_1304 : decode cL_law 1304 = .ok (.i2l, 1) := by decide +kernel
theorem dL_law_1305 : decode cL_law 1305 = .ok (.lcmp, 1) := by decide +kernel
theorem dL_law_1306 : decode cL_law 1306 = .ok (.ifCond .eq 5, 3) := by decide +kernel
theorem dL_law_1309 : decode cL_law 1309 = .ok (.iconst 0, 1) := by decide +kernel
theorem dL_law_1310 : decode cL_law 1310 = .ok (.ireturn, 1) := by decide +kernel
theorem dL_law_1311 : decode cL_law 1311 = .ok (.goto 171, 3) := by decide +kernel
theorem dL_law_1314 : decode cL_law 1314 = .ok (.aload_n 1, 1) := by decide +kernel
theorem dL_law_1315 : decode cL_law 1315 = .ok (.aload_n 0, 1) := by decide +kernel
theorem dL_law_1316 : decode cL_law 1316 = .ok (.iload 4, 2) := by decide +kernel
theorem dL_law_1318 : decode cL_law 1318 = .ok (.iconst 1, 1) := by decide +kernel
theorem dL_law_1319 : decode cL_law 1319 = .ok (.iadd, 1) := by decide +kernel
theorem dL_law_1320 : decode cL_law 1320 = .ok (.iaload, 1) := by decide +kernel
theorem dL_law_1321 : decode cL_law 1321 = .ok (.aload_n 3, 1) := by decide +kernel
theorem dL_law_1322 : decode cL_law 1322 = .ok (.invokestatic 173, 3) := by decide +kernel
theorem dL_law_1325 : decode cL_law 1325 = .ok (.istore 5, 2) := by decide +kernel
theorem dL_law_1327 : decode cL_law 1327 = .ok (.aload_n 2, 1) := by decide +kernel
theorem dL_law_1328 : decode cL_law 1328 = .ok (.aload_n 0, 1) := by decide +kernel
theorem dL_law_1329 : decode cL_law 1329 = .ok (.iload 4, 2) := by decide +kernel
theorem dL_law_1331 : decode cL_law 1331 = .ok (.iconst 1, 1) := by decide +kernel
theorem dL_law_1332 : decode cL_law 1332 = .ok (.iadd, 1) := by decide +kernel
theorem dL_law_1333 : decode cL_law 1333 = .ok (.iaload, 1) := by decide +kernel
theorem dL_law_1334 : decode cL_law 1334 = .ok (.invokevirtual 175, 3) := by decide +kernel
theorem dL_law_1337 : decode cL_law 1337 = .ok (.istore 6, 2) := by decide +kernel
theorem dL_law_1339 : decode cL_law 1339 = .ok (.aload_n 2, 1) := by decide +kernel
theorem dL_law_1340 : decode cL_law 1340 = .ok (.invokevirtual 96, 3) := by decide +kernel
theorem dL_law_1343 : decode cL_law 1343 = .ok (.iload 5, 2) := by decide +kernel
theorem dL_law_1345 : decode cL_law 1345 = .ok (.if_icmp .eq 5, 3) := by decide +kernel
theorem dL_law_1348 : decode cL_law 1348 = .ok (.iconst 0, 1) := by decide +kernel
theorem dL_law_1349 : decode cL_law 1349 = .ok (.ireturn, 1) := by decide +kernel
theorem dL_law_1350 : decode cL_law 1350 = .ok (.iload 5, 2) := by decide +kernel
theorem dL_law_1352 : decode cL_law 1352 = .ok (.ifCond .ne 15, 3) := by decide +kernel
theorem dL_law_1355 : decode cL_law 1355 = .ok (.aload_n 3, 1) := by decide +kernel
theorem dL_law_1356 : decode cL_law 1356 = .ok (.iconst 0, 1) := by decide +kernel
theorem dL_law_1357 : decode cL_law 1357 = .ok (.laload, 1) := by decide +kernel
theorem dL_law_1358 : decode cL_law 1358 = .ok (.iload 6, 2) := by decide +kernel
theorem dL_law_1360 : decode cL_law 1360 = .ok (.i2l, 1) := by decide +kernel
theorem dL_law_1361 : decode cL_law 1361 = .ok (.lcmp, 1) := by decide +kernel
theorem dL_law_1362 : decode cL_law 1362 = .ok (.ifCond .eq 5, 3) := by decide +kernel
theorem dL_law_1365 : decode cL_law 1365 = .ok (.iconst 0, 1) := by decide +kernel
theorem dL_law_1366 : decode cL_law 1366 = .ok (.ireturn, 1) := by decide +kernel
theorem dL_law_1367 : decode cL_law 1367 = .ok (.goto 115, 3) := by decide +kernel
theorem dL_law_1370 : decode cL_law 1370 = .ok (.aload_n 1, 1) := by decide +kernel
theorem dL_law_1371 : decode cL_law 1371 = .ok (.aload_n 0, 1) := by decide +kernel
theorem dL_law_1372 : decode cL_law 1372 = .ok (.iload 4, 2) := by decide +kernel
theorem dL_law_1374 : decode cL_law 1374 = .ok (.iconst 1, 1) := by decide +kernel
theorem dL_law_1375 : decode cL_law 1375 = .ok (.iadd, 1) := by decide +kernel
theorem dL_law_1376 : decode cL_law 1376 = .ok (.iaload, 1) := by decide +kernel
theorem dL_law_1377 : decode cL_law 1377 = .ok (.aload_n 3, 1) := by decide +kernel
theorem dL_law_1378 : decode cL_law 1378 = .ok (.invokestatic 176, 3) := by decide +kernel
theorem dL_law_1381 : decode cL_law 1381 = .ok (.istore 5, 2) := by decide +kernel
theorem dL_law_1383 : decode cL_law 1383 = .ok (.aload_n 2, 1) := by decide +kernel
theorem dL_law_1384 : decode cL_law 1384 = .ok (.aload_n 0, 1) := by decide +kernel
theorem dL_law_1385 : decode cL_law 1385 = .ok (.iload 4, 2) := by decide +kernel
theorem dL_law_1387 : decode cL_law 1387 = .ok (.iconst 1, 1) := by decide +kernel
theorem dL_law_1388 : decode cL_law 1388 = .ok (.iadd, 1) := by decide +kernel
theorem dL_law_1389 : decode cL_law 1389 = .ok (.iaload, 1) := by decide +kernel
theorem dL_law_1390 : decode cL_law 1390 = .ok (.invokevirtual 178, 3) := by decide +kernel
theorem dL_law_1393 : decode cL_law 1393 = .ok (.istore 6, 2) := by decide +kernel
theorem dL_law_1395 : decode cL_law 1395 = .ok (.aload_n 2, 1) := by decide +kernel
theorem dL_law_1396 : decode cL_law 1396 = .ok (.invokevirtual 96, 3) := by decide +kernel
theorem dL_law_1399 : decode cL_law 1399 = .ok (.iload 5, 2) := by decide +kernel
theorem dL_law_1401 : decode cL_law 1401 = .ok (.if_icmp .eq 5, 3) := by decide +kernel
theorem dL_law_1404 : decode cL_law 1404 = .ok (.iconst 0, 1) := by decide +kernel
theorem dL_law_1405 : decode cL_law 1405 = .ok (.ireturn, 1) := by decide +kernel
theorem dL_law_1406 : decode cL_law 1406 = .ok (.iload 5, 2) := by decide +kernel
theorem dL_law_1408 : decode cL_law 1408 = .ok (.ifCond .ne 15, 3) := by decide +kernel
theorem dL_law_1411 : decode cL_law 1411 = .ok (.aload_n 3, 1) := by decide +kernel
theorem dL_law_1412 : decode cL_law 1412 = .ok (.iconst 0, 1) := by decide +kernel
theorem dL_law_1413 : decode cL_law 1413 = .ok (.laload, 1) := by decide +kernel
theorem dL_law_1414 : decode cL_law 1414 = .ok (.iload 6, 2) := by decide +kernel
theorem dL_law_1416 : decode cL_law 1416 = .ok (.i2l, 1) := by decide +kernel
theorem dL_law_1417 : decode cL_law 1417 = .ok (.lcmp, 1) := by decide +kernel
theorem dL_law_1418 : decode cL_law 1418 = .ok (.ifCond .eq 5, 3) := by decide +kernel
theorem dL_law_1421 : decode cL_law 1421 = .ok (.iconst 0, 1) := by decide +kernel
theorem dL_law_1422 : decode cL_law 1422 = .ok (.ireturn, 1) := by decide +kernel
theorem dL_law_1423 : decode cL_law 1423 = .ok (.goto 59, 3) := by decide +kernel
theorem dL_law_1426 : decode cL_law 1426 = .ok (.aload_n 1, 1) := by decide +kernel
theorem dL_law_1427 : decode cL_law 1427 = .ok (.aload_n 0, 1) := by decide +kernel
theorem dL_law_1428 : decode cL_law 1428 = .ok (.iload 4, 2) := by decide +kernel
theorem dL_law_1430 : decode cL_law 1430 = .ok (.iconst 1, 1) := by decide +kernel
theorem dL_law_1431 : decode cL_law 1431 = .ok (.iadd, 1) := by decide +kernel
theorem dL_law_1432 : decode cL_law 1432 = .ok (.iaload, 1) := by decide +kernel
theorem dL_law_1433 : decode cL_law 1433 = .ok (.aload_n 3, 1) := by decide +kernel
theorem dL_law_1434 : decode cL_law 1434 = .ok (.invokestatic 179, 3) := by decide +kernel
theorem dL_law_1437 : decode cL_law 1437 = .ok (.istore 5, 2) := by decide +kernel
theorem dL_law_1439 : decode cL_law 1439 = .ok (.aload_n 2, 1) := by decide +kernel
theorem dL_law_1440 : decode cL_law 1440 = .ok (.aload_n 0, 1) := by decide +kernel
theorem dL_law_1441 : decode cL_law 1441 = .ok (.iload 4, 2) := by decide +kernel
theorem dL_law_1443 : decode cL_law 1443 = .ok (.iconst 1, 1) := by decide +kernel
theorem dL_law_1444 : decode cL_law 1444 = .ok (.iadd, 1) := by decide +kernel
theorem dL_law_1445 : decode cL_law 1445 = .ok (.iaload, 1) := by decide +kernel
theorem dL_law_1446 : decode cL_law 1446 = .ok (.invokevirtual 181, 3) := by decide +kernel
theorem dL_law_1449 : decode cL_law 1449 = .ok (.istore 6, 2) := by decide +kernel
theorem dL_law_1451 : decode cL_law 1451 = .ok (.aload_n 2, 1) := by decide +kernel
theorem dL_law_1452 : decode cL_law 1452 = .ok (.invokevirtual 96, 3) := by decide +kernel
theorem dL_law_1455 : decode cL_law 1455 = .ok (.iload 5, 2) := by decide +kernel
theorem dL_law_1457 : decode cL_law 1457 = .ok (.if_icmp .eq 5, 3) := by decide +kernel
theorem dL_law_1460 : decode cL_law 1460 = .ok (.iconst 0, 1) := by decide +kernel
theorem dL_law_1461 : decode cL_law 1461 = .ok (.ireturn, 1) := by decide +kernel
theorem dL_law_1462 : decode cL_law 1462 = .ok (.iload 5, 2) := by decide +kernel
theorem dL_law_1464 : decode cL_law 1464 = .ok (.ifCond .ne 15, 3) := by decide +kernel
theorem dL_law_1467 : decode cL_law 1467 = .ok (.aload_n 3, 1) := by decide +kernel
theorem dL_law_1468 : decode cL_law 1468 = .ok (.iconst 0, 1) := by decide +kernel
theorem dL_law_1469 : decode cL_law 1469 = .ok (.laload, 1) := by decide +kernel
theorem dL_law_1470 : decode cL_law 1470 = .ok (.iload 6, 2) := by decide +kernel
theorem dL_law_1472 : decode cL_law 1472 = .ok (.i2l, 1) := by decide +kernel
theorem dL_law_1473 : decode cL_law 1473 = .ok (.lcmp, 1) := by decide +kernel
theorem dL_law_1474 : decode cL_law 1474 = .ok (.ifCond .eq 5, 3) := by decide +kernel
theorem dL_law_1477 : decode cL_law 1477 = .ok (.iconst 0, 1) := by decide +kernel
theorem dL_law_1478 : decode cL_law 1478 = .ok (.ireturn, 1) := by decide +kernel
theorem dL_law_1479 : decode cL_law 1479 = .ok (.goto 3, 3) := by decide +kernel
theorem dL_law_1482 : decode cL_law 1482 = .ok (.iinc 4 5, 3) := by decide +kernel
theorem dL_law_1485 : decode cL_law 1485 = .ok (.goto (-1462), 3) := by decide +kernel
theorem dL_law_1488 : decode cL_law 1488 = .ok (.iconst 1, 1) := by decide +kernel
theorem dL_law_1489 : decode cL_law 1489 = .ok (.ireturn, 1) := by decide +kernel
end
section
/-! roles: a cell of the world is told by a kind and a number; its address is a variable -/
abbrev ro : Type := Nat × Nat
abbrev GX : Type := va_G × (Nat → ClassId) × (Nat → Nat)
abbrev WS : Type := List ro × (ro → Nat) × (ro → va_E)
abbrev tW (y : MethodName) (b : ByteArray) (n : Nat) (ret : Option FieldType) : List Cond := Cond.code y b n ret :: TB
theorem tW_good {z : MethodName} {b : ByteArray} {n : Nat} {ret : Option FieldType} (h : Cond.code z b n ret ∈ TB) : GoodIn TB (tW z b n ret) := fun w hw => by
  rcases List.mem_cons.mp hw with e | e
  · subst e; exact ⟨h, good_of_word (tB_ok h)⟩
  · exact ⟨e, good_of_word (tB_ok e)⟩
def rwW (L : List ro) (ad : ro → Nat) (st : ro → va_E) : va_W := L.map (fun r => (ad r, st r))
def sup (st : ro → va_E) (r : ro) (e : va_E) : ro → va_E := fun x => if x = r then e else st x
def aup (ad : ro → Nat) (r : ro) (a : Nat) : ro → Nat := fun x => if x = r then a else ad x
theorem rw_get {L : List ro} {ad : ro → Nat} {st : ro → va_E} {r : ro} (h : r ∈ L) : ∃ k : Nat, L[k]? = some r ∧ (rwW L ad st)[k]? = some (ad r, st r) := by
  obtain ⟨k, hk⟩ := List.getElem?_of_mem h
  exact ⟨k, hk, by simp [rwW, hk]⟩
theorem rw_set {A : Nat → Prop} {L : List ro} {ad : ro → Nat} {st : ro → va_E} {r : ro} {e : va_E} {k : Nat} (hD : va_D A (rwW L ad st)) (hk : L[k]? = some r) : (rwW L ad st).set k (ad r, e) = rwW L ad (sup st r e) := by
  apply List.ext_getElem?
  intro j
  rw [List.getElem?_set]
  by_cases hj : k = j
  · subst hj
    have hlt := (List.getElem?_eq_some_iff.mp hk).1
    have hLk : L[k] = r := (List.getElem?_eq_some_iff.mp hk).2
    simp [rwW, hk, sup, hlt, hLk]
  · rw [if_neg hj]
    simp only [rwW, List.getElem?_map]
    cases hx : L[j]? with
    | none => rfl
    | some r2 =>
      have hne : r2 ≠ r := by
        intro he
        subst he
        exact hj (hD.1 k j (ad r2, st r2) (ad r2, st r2) (by simp [rwW, hk]) (by simp [rwW, hx]) rfl)
      simp [sup, hne]
theorem rw_push {L : List ro} {ad : ro → Nat} {st : ro → va_E} {r : ro} {a : Nat} {e : va_E} (h : r ∉ L) : rwW L ad st ++ [(a, e)] = rwW (L ++ [r]) (aup ad r a) (sup st r e) := by
  unfold rwW
  rw [List.map_append]
  congr 1
  · apply List.map_congr_left
    intro x hx
    have hne : x ≠ r := fun q => h (q ▸ hx)
    simp [aup, sup, hne]
  · simp [aup, sup]
def wTy (cy : Nat → ClassId) : List (ClassId × FieldType) := [(cy 0, .byte), (cy 1, .char), (cy 2, .int), (cy 3, .boolean), (cy 4, .long), (cy 5, .object "java/lang/Object"), (cy 6, .object "RateGate$Shipper"), (cy 7, .object "RateGate$Carrier")]
def gW (X : GX) (A : Nat → Prop) (L : List ro) (ad : ro → Nat) (st : ro → va_E) (s : State) (H : Heap) : Prop := va_P X.1 vwCl (rwW L ad st) H ∧ va_K X.1 vwCl (wTy X.2.1) s ∧ va_D A (rwW L ad st)
def GTs : List (String × Nat × String × Nat) := [("RateGate$Request", 23, "", 0), ("RateGate$Request", 93, "SCFTWX", 5), ("RateGate$Request", 85, "UNKNOWN", 1), ("RateGate$Request", 91, "DOUBLED", 2), ("RateGate$Request", 102, "BAD", 3), ("RateGate$Request", 123, "MISSING", 4), ("java/util/Arrays", 337, " > ", 100), ("RateGate", 57, "no character of a request", 101), ("RateGate", 68, "the request is full", 102), ("RateGate", 93, "no such place", 103), ("RateGate", 104, "minutes out of range", 104), ("RateGate", 106, "behind the last minute", 105), ("RateGate", 261, "no such shipper", 106), ("RateGate", 112, "calls or minutes out of range", 107), ("RateGate", 263, "no such carrier", 108), ("RateGate", 124, "flaw out of range", 109), ("RateGate", 133, "base, zone or weight out of range", 110), ("RateGate", 147, "the request is not right", 111), ("RateGate", 154, "no more quotes", 112), ("RateGate", 265, "no such quote", 113), ("RateGate", 213, "the rate is fixed no more, and the price is another one", 114), ("RateGate", 215, "no more parcels", 115), ("RateGate", 271, "no such parcel", 116), ("RateGate", 229, "grams out of range", 117), ("RateGate", 234, "the parcel is not booked", 118), ("RateGate", 246, "the parcel is not booked, or it is too late", 119)]
def GTm : List (String × Nat × MethodName × String) := [("RateGate", 9, ⟨"RateGate$Request", "<init>", "()V"⟩, "RateGate"), ("RateGate", 18, ⟨"RateGate$CallLog", "<init>", "()V"⟩, "RateGate"), ("RateGate", 49, ⟨"RateGate$Shipper", "<init>", "()V"⟩, "RateGate"), ("RateGate", 50, ⟨"RateGate$Carrier", "<init>", "()V"⟩, "RateGate"), ("RateGate$Request", 116, ⟨"RateGate", "isWithin", "(III)Z"⟩, "RateGate")]
def GTc : List (String × String) := [("[B", "java/lang/Cloneable"), ("java/lang/IllegalArgumentException", "java/lang/IllegalArgumentException"), ("java/lang/IllegalStateException", "java/lang/IllegalStateException"), ("java/lang/IndexOutOfBoundsException", "java/lang/IndexOutOfBoundsException"), ("java/util/ArrayList", "java/util/List")]
def GTn : List (String × String) := [("java/lang/IllegalArgumentException", "java/lang/IllegalStateException"), ("java/lang/IllegalArgumentException", "java/lang/IndexOutOfBoundsException"), ("java/lang/IllegalStateException", "java/lang/IllegalArgumentException"), ("java/lang/IllegalStateException", "java/lang/IndexOutOfBoundsException"), ("java/lang/IndexOutOfBoundsException", "java/lang/IllegalArgumentException"), ("java/lang/IndexOutOfBoundsException", "java/lang/IllegalStateException")]
def GTf : List (String × MethodName × MethodName) := [(RJx4a65c, ⟨"java/util/List", "size", "()I"⟩, yJx4a65c_size_8abf5), (RJx4a65c, ⟨"java/util/List", "get", "(I)Ljava/lang/Object;"⟩, yJx4a65c_get_915e3), (RJx4a65c, ⟨"java/util/List", "add", "(Ljava/lang/Object;)Z"⟩, yJx4a65c_add_9ea2d)]
def GTa : List String := ["java/lang/Object", "RateGate$Shipper", "RateGate$Carrier"]
/-- what the tables say beside TB -/
def GT (X : GX) (U : State) : Prop := (∀ q ∈ GTs, vk_R q.1 q.2.1 q.2.2.1 (X.2.2 q.2.2.2) U) ∧ (∀ q ∈ GTm, va_Nw (.methodLinkNest q.1 q.2.1 q.2.2.1 q.2.2.2) U) ∧ (∀ q ∈ GTc, va_Nw (.castable q.1 q.2) U) ∧ (∀ q ∈ GTn, va_Nc q.1 q.2 U) ∧ (∀ q ∈ GTf, va_Fw q.1 q.2.1 q.2.2 U) ∧ (∀ q ∈ GTa, va_AO q U) ∧ va_Mi "[Ljava/lang/Object;" (X.2.2 31) U
def gsLen : List Nat := [0, 7, 7, 3, 7, 6]
def gsByt : List (List Int32) := [[], [85, 78, 75, 78, 79, 87, 78], [68, 79, 85, 66, 76, 69, 68], [66, 65, 68], [77, 73, 83, 83, 73, 78, 71], [83, 67, 70, 84, 87, 88]]
/-- what was there before, and nobody writes: statics, and the texts of Request -/
def SF (X : GX) (A : Nat → Prop) (U : State) (H : Heap) : Prop :=
  va_Z "java/lang/String" "COMPACT_STRINGS" "Z" (.int 1) A U H ∧
  va_Zq "jdk/internal/util/Preconditions" "SIOOBE_FORMATTER" "Ljava/util/function/BiFunction;" A U H ∧
  (va_Z "java/util/ArrayList" "DEFAULTCAPACITY_EMPTY_ELEMENTDATA" "[Ljava/lang/Object;" (.ref (X.2.2 30)) A U H ∧ va_T (.object "java/lang/Object") (X.2.2 30) 0 (fun _ => .null) A U H) ∧
  (vx_Zq Bundle.tN "UNASSIGNED_STACK" Bundle.steD A U H ∧ vx_Zq Bundle.tN "SUPPRESSED_SENTINEL" Bundle.listD A U H) ∧
  ∀ i : Nat, i < 6 → va_O "java/lang/String" (X.2.2 i) A U H ∧ va_OF "java/lang/String" "coder" "B" (.int 0) (X.2.2 i) A U H ∧ va_OF "java/lang/String" "value" "[B" (.ref (X.2.2 (10 + i))) (X.2.2 i) A U H ∧ va_T .byte (X.2.2 (10 + i)) (gsLen.getD i 0) (fun j => .int ((gsByt.getD i []).getD j 0)) A U H
theorem SF.moved {X : GX} {A : Nat → Prop} {u U : State} {H : Heap} (hvm : u.vm.Alike U.vm) (h : SF X A u H) : SF X A U H :=
  ⟨va_Z.moved hvm h.1, va_Zq.moved hvm h.2.1, ⟨va_Z.moved hvm h.2.2.1.1, va_T.moved hvm h.2.2.1.2⟩, ⟨vx_Zq.moved hvm h.2.2.2.1.1, vx_Zq.moved hvm h.2.2.2.1.2⟩, fun i hi => ⟨va_O.moved hvm (h.2.2.2.2 i hi).1, va_OF.moved hvm (h.2.2.2.2 i hi).2.1, va_OF.moved hvm (h.2.2.2.2 i hi).2.2.1, va_T.moved hvm (h.2.2.2.2 i hi).2.2.2⟩⟩
theorem SF.kept {X : GX} {A : Nat → Prop} {U : State} {H H1 : Heap} (h : SF X A U H) (hq : ∀ a : Nat, a < H.size → ¬ A a → H1[a]? = H[a]?) : SF X A U H1 :=
  ⟨h.1.kept hq, h.2.1.kept hq, ⟨h.2.2.1.1.kept hq, h.2.2.1.2.kept hq⟩, ⟨h.2.2.2.1.1.kept hq, h.2.2.2.1.2.kept hq⟩, fun i hi => ⟨(h.2.2.2.2 i hi).1.kept hq, (h.2.2.2.2 i hi).2.1.kept hq, (h.2.2.2.2 i hi).2.2.1.kept hq, (h.2.2.2.2 i hi).2.2.2.kept hq⟩⟩
theorem SF.narrow {X : GX} {A B : Nat → Prop} {U : State} {H : Heap} (h : SF X A U H) (hAB : ∀ q, B q → A q) : SF X B U H :=
  ⟨h.1.narrow hAB, h.2.1.narrow hAB, ⟨h.2.2.1.1.narrow hAB, h.2.2.1.2.narrow hAB⟩, ⟨h.2.2.2.1.1.narrow hAB, h.2.2.2.1.2.narrow hAB⟩, fun i hi => ⟨(h.2.2.2.2 i hi).1.narrow hAB, (h.2.2.2.2 i hi).2.1.narrow hAB, (h.2.2.2.2 i hi).2.2.1.narrow hAB, (h.2.2.2.2 i hi).2.2.2.narrow hAB⟩⟩
theorem GTf_x : ∀ q ∈ GTf, q.2.1.cls ≠ "java/lang/invoke/MethodHandle" ∧ q.2.1.cls ≠ "java/lang/invoke/VarHandle" := by decide +kernel
theorem GT.same {X : GX} {u U : State} (hv : U.vm = u.vm) (h : GT X u) : GT X U := by
  have hal : u.vm.Alike U.vm := by rw [hv]; exact Vm.Alike.refl _
  exact ⟨fun q hq => (h.1 q hq).same hv, fun q hq => (h.2.1 q hq).same rfl hv.symm, fun q hq => (h.2.2.1 q hq).same rfl hv.symm, fun q hq => (h.2.2.2.1 q hq).moved hal, fun q hq => (h.2.2.2.2.1 q hq).moved (GTf_x q hq) hal, fun q hq => (h.2.2.2.2.2.1 q hq).moved hal, h.2.2.2.2.2.2.moved hal⟩
theorem GT.warm {X : GX} {s U : State} (hW : s.WarmedH U.vm) (h : GT X s) : GT X U :=
  ⟨fun q hq => (h.1 q hq).warm hW, fun q hq => va_Nw.warmM hW (h.2.1 q hq), fun q hq => va_Nw.warmC hW (h.2.2.1 q hq), fun q hq => (h.2.2.2.1 q hq).moved hW.alike, fun q hq => (h.2.2.2.2.1 q hq).moved (GTf_x q hq) hW.alike, fun q hq => (h.2.2.2.2.2.1 q hq).moved hW.alike, h.2.2.2.2.2.2.moved hW.alike⟩
theorem gW.moved {X : GX} {A : Nat → Prop} {L : List ro} {ad : ro → Nat} {st : ro → va_E} {u U : State} {H : Heap} (hvm : u.vm.Alike U.vm) (h : gW X A L ad st u H) : gW X A L ad st U H := ⟨h.1, va_K.moved hvm h.2.1, h.2.2⟩
def gPre (X : GX) (av : List Value) (L : List ro) (ad : ro → Nat) (st : ro → va_E) (sz : Nat) : Array Value → State → Prop := va_Pc av (fun U => U.heap.size = sz ∧ gW X (va_A (rwW L ad st) sz) L ad st U U.heap ∧ SF X (va_A (rwW L ad st) sz) U U.heap ∧ GT X U)
theorem gPre_blind {X : GX} {av : List Value} {L : List ro} {ad : ro → Nat} {st : ro → va_E} {sz : Nat} : FrameBlind (gPre X av L ad st sz) := fun a U g mk h => by
  obtain ⟨h0, h1, h2, h3, h4⟩ := h
  exact ⟨h0, h1, h2.moved (u := U) (U := U.calling g mk a) (Vm.Alike.refl U.vm), SF.moved (u := U) (U := U.calling g mk a) (Vm.Alike.refl U.vm) h3, GT.same (u := U) (U := U.calling g mk a) rfl h4⟩
def gB (X : GX) (A : Nat → Prop) (u : WS) (t : State) : Prop := gW X A u.1 u.2.1 u.2.2 t t.heap
/-- a method that answers a number: from a world (L, ad, st) to a world and an answer with post -/
def gMi (l : Launch) (y : MethodName) (b : ByteArray) (n : Nat) (ret : Option FieldType) (fr lc mc ms : Nat) (X : GX) (av : List Value) (L : List ro) (ad : ro → Nat) (st : ro → va_E) (post : Int32 → WS → Prop) : Prop :=
  ∀ sz : Nat, Met l y (tW y b n ret) ({ frames := fr, cells := mc, slots := ms, locals := lc } : Room) (gPre X av L ad st sz) (va_Qi post (gB X (va_A (rwW L ad st) sz)) (va_A (rwW L ad st) sz)) mc ms (va_A (rwW L ad st) sz)
def gMv (l : Launch) (y : MethodName) (b : ByteArray) (n : Nat) (ret : Option FieldType) (fr lc mc ms : Nat) (X : GX) (av : List Value) (L : List ro) (ad : ro → Nat) (st : ro → va_E) (post : WS → Prop) : Prop :=
  ∀ sz : Nat, Met l y (tW y b n ret) ({ frames := fr, cells := mc, slots := ms, locals := lc } : Room) (gPre X av L ad st sz) (va_Qv post (gB X (va_A (rwW L ad st) sz)) (va_A (rwW L ad st) sz)) mc ms (va_A (rwW L ad st) sz)
def gMq (l : Launch) (y : MethodName) (b : ByteArray) (n : Nat) (ret : Option FieldType) (fr lc mc ms : Nat) (X : GX) (av : List Value) (L : List ro) (ad : ro → Nat) (st : ro → va_E) (post : Option Nat → WS → Prop) : Prop :=
  ∀ sz : Nat, Met l y (tW y b n ret) ({ frames := fr, cells := mc, slots := ms, locals := lc } : Room) (gPre X av L ad st sz) (va_Qq post (gB X (va_A (rwW L ad st) sz)) (va_A (rwW L ad st) sz)) mc ms (va_A (rwW L ad st) sz)
/-- what holds all through a method's body -/
def gCx (p : Program) (s : State) (m : MethodId) (args : Array Value) (meth : Method) (c : Code) (b : ByteArray) (n : Nat) (ret : Option FieldType) (own name : String) (X : GX) (A : Nat → Prop) : Prop :=
  CallFix p m c b n s args TB own ∧ meth.sig.returnType = ret ∧ meth.locks = false ∧ meth.name = name ∧ (∀ q : Nat, s.heap.size ≤ q → A q) ∧ SF X A s s.heap ∧ GT X s
theorem gM_of {l : Launch} {y : MethodName} {b : ByteArray} {n : Nat} {ret : Option FieldType} {fr lc mc ms : Nat} {X : GX} {av : List Value} {L : List ro} {ad : ro → Nat} {st : ro → va_E} {Qc : (Nat → Prop) → Array Value → State → Outcome → State → Prop}
    (hy : plainName y.cls = true) (hn : (lg_sl av).length ≤ n)
    (body : ∀ (p : Program) (e : Env) (s : State) (m : MethodId) (args : Array Value) (below : List Frame) (meth : Method) (c : Code) (A : Nat → Prop), gCx p s m args meth c b n ret y.cls y.name X A → gW X A L ad st s s.heap → va_S A s.heap s.heap [] → ∀ ls : Array Slot, lv_has ls n (lv_args 0 av) →
      W p l e ({ frames := fr, cells := mc, slots := ms, locals := lc } : Room) s m args below meth c s.heap [] 0 0 (MQ below (Qc A) args s mc ms A) (F0 m 0 ls [])) :
    ∀ sz : Nat, Met l y (tW y b n ret) ({ frames := fr, cells := mc, slots := ms, locals := lc } : Room) (gPre X av L ad st sz) (Qc (va_A (rwW L ad st) sz)) mc ms (va_A (rwW L ad st) sz) := by
  intro sz
  refine Met.ofW (cc := b) (maxL := n) (ret := ret) hy rfl ?_
  intro p e s m args below meth c s₁ B hml hv
  obtain ⟨rfl, hsz, hW, hF, hG⟩ := hv
  have hts := atoms_spec (ws := tW y b n ret) B.pre
  have hown : s.vm.findClass y.cls = some m.cls := findClass_of_methodNamed B.named
  have hnm : meth.name = y.name := (name_of_methodNamed B.named B.method).1
  subst hsz
  have hl := lv_entry av (n := n) hn
  rw [lg_entry_eq]
  exact body p e s m _ below meth c _ ⟨⟨B.exec, B.bytes, hml, hown, fun w hw => hts w (List.mem_cons_of_mem _ hw)⟩, B.returns, B.notSynchronized, hnm, fun q h => Or.inr h, hF, hG⟩ hW va_S.rf _ hl
section GR
variable {p : Program} {l : Launch} {e : Env} {R : Room} {s : State} {m : MethodId} {args : Array Value} {below : List Frame} {meth : Method} {c : Code} {H : Heap} {locs : List Loc} {cells slots : Nat} {Q : State → Prop}
variable {cc : ByteArray} {nL : Nat} {ret : Option FieldType} {own mname : String} {pc : Nat} {ls : Array Slot} {rest : List Value} {X : GX} {A : Nat → Prop} {L : List ro} {ad : ro → Nat} {st : ro → va_E} {r : ro}
theorem g_free (C : gCx p s m args meth c cc nL ret own mname X A) (hW : gW X A L ad st s H) (hS : va_S A s.heap H locs) : ∀ q : Nat, va_A (rwW L ad st) H.size q → A q := fun q h => by
  rcases h with ⟨k, e, h⟩ | h
  · exact hW.2.2.2 k _ h
  · exact C.2.2.2.2.1 q (Nat.le_trans hS.1 h)
theorem g_iret {mc ms : Nat} {post : Int32 → WS → Prop} {ty : FieldType} {v : Int32} (C : gCx p s m args meth c cc nL (some ty) own mname X A) (hW : gW X A L ad st s H) (hS : va_S A s.heap H locs) (hp : post v (L, ad, st)) (hn : narrow ty (.int v) = .int v) (hc : cells ≤ mc) (hs : slots ≤ ms) (hdg : decode cc pc = .ok (.ireturn, 1)) :
    W p l e R s m args below meth c H locs cells slots (MQ below (va_Qi post (gB X A) A) args s mc ms A) (F0 m pc ls [.int v]) := by
  refine W.widen hc hs ?_
  exact W.zret C.1.1 C.1.2.1 C.2.1 hn (fun t ht hWm => ⟨⟨v, (L, ad, st), rfl, hp, by unfold gB; rw [ht]; exact hW.moved hWm.alike⟩, hS.F ht⟩) hS.2.2 hdg C.2.2.1
theorem g_vret {mc ms : Nat} {post : WS → Prop} (C : gCx p s m args meth c cc nL none own mname X A) (hW : gW X A L ad st s H) (hS : va_S A s.heap H locs) (hp : post (L, ad, st)) (hc : cells ≤ mc) (hs : slots ≤ ms) (hdg : decode cc pc = .ok (.return_, 1)) :
    W p l e R s m args below meth c H locs cells slots (MQ below (va_Qv post (gB X A) A) args s mc ms A) (F0 m pc ls []) := by
  refine W.widen hc hs ?_
  exact W.vret C.1.1 C.1.2.1 C.2.1 (fun t ht hWm => ⟨⟨(L, ad, st), rfl, hp, by unfold gB; rw [ht]; exact hW.moved hWm.alike⟩, hS.F ht⟩) hS.2.2 hdg C.2.2.1
theorem g_get {ref Cn : String} {T : u_T} {N ci index : Nat} (C : gCx p s m args meth c cc nL ret own mname X A) (hin : ∀ w ∈ u_ws Cn T N, w ∈ TB) (hW : gW X A L ad st s H) (hr : r ∈ L) {fs : List Value} (he : st r = .inr (ci, fs)) (hc : vwCl[ci]? = some (Cn, T, N)) (k : Nat) (hk : k < N) (hlink : Cond.fieldLink own index ref (T k).2.1 (T k).2.2.1 ∈ TB)
    (hsame : ∀ x, s.fieldFound? (T k).1 (T k).2.1 (T k).2.2.1 = some x → s.fieldFound? ref (T k).2.1 (T k).2.2.1 = some x) {v : Value} (hv : fs[k]? = some v) (hdg : decode cc pc = .ok (.getfield index, 3))
    (kk : W p l e R s m args below meth c H locs cells slots Q (F0 m (pc + 3) ls (v :: rest))) : W p l e R s m args below meth c H locs cells slots Q (F0 m pc ls (.ref (ad r) :: rest)) := by
  obtain ⟨q0, -, h0⟩ := rw_get (ad := ad) (st := st) hr
  rw [he] at h0
  exact va_get C.1.1 C.1.2.1 C.1.2.2.2.2 hin C.1.2.2.2.1 hW.2.1 hW.1 q0 h0 hc k hk (C.1.2.2.2.2 _ hlink) hsame hv hdg kk
theorem g_put {ref Cn : String} {T : u_T} {N ci index : Nat} {ty0 : Nat → FieldType} (C : gCx p s m args meth c cc nL ret own mname X A) (hin : ∀ w ∈ u_ws Cn T N, w ∈ TB) (hty : ∀ k, k < N → parseFieldDescriptor (T k).2.2.1 = some (ty0 k)) (hnm : ∀ a, a < N → ∀ b, b < N → a ≠ b → (T a).2.1 ≠ (T b).2.1) (hW : gW X A L ad st s H) (hS : va_S A s.heap H locs) (hr : r ∈ L) {fs : List Value} (he : st r = .inr (ci, fs)) (hc : vwCl[ci]? = some (Cn, T, N)) (k : Nat) (hk : k < N) (hlink : Cond.fieldLink own index ref (T k).2.1 (T k).2.2.1 ∈ TB)
    (hsame : ∀ x, s.fieldFound? (T k).1 (T k).2.1 (T k).2.2.1 = some x → s.fieldFound? ref (T k).2.1 (T k).2.2.1 = some x) (hfin : (T k).2.2.2 = false) {v : Value} (hn : narrow (ty0 k) v = v) (hfit : fits (ty0 k) v = true) (hl : k < fs.length) {st2 : ro → va_E} (hst : sup st r (.inr (ci, fs.set k v)) = st2) (hdg : decode cc pc = .ok (.putfield index, 3))
    (kk : ∀ (H1 : Heap) (locs1 : List Loc), gW X A L ad st2 s H1 → va_S A s.heap H1 locs1 → W p l e R s m args below meth c H1 locs1 cells slots Q (F0 m (pc + 3) ls rest)) : W p l e R s m args below meth c H locs cells slots Q (F0 m pc ls (v :: .ref (ad r) :: rest)) := by
  obtain ⟨q0, hq0, h0⟩ := rw_get (ad := ad) (st := st) hr
  rw [he] at h0
  refine va_put C.1.1 C.1.2.1 C.1.2.2.2.2 hin ty0 hty hnm C.1.2.2.2.1 hW.2.1 hW.1 hW.2.2 hS q0 h0 hc k hk (C.1.2.2.2.2 _ hlink) hsame hfin (hty k hk) hn hfit hl hdg (fun H1 locs1 hP1 hD1 hS1 => ?_)
  rw [rw_set hW.2.2 hq0, hst] at hP1 hD1
  exact kk H1 locs1 ⟨hP1, hW.2.1, hD1⟩ hS1
theorem g_putF {Cn : String} {T : u_T} {N ci index : Nat} {ty0 : Nat → FieldType} (C : gCx p s m args meth c cc nL ret own "<init>" X A) (hin : ∀ w ∈ u_ws Cn T N, w ∈ TB) (hty : ∀ k, k < N → parseFieldDescriptor (T k).2.2.1 = some (ty0 k)) (hnm : ∀ a, a < N → ∀ b, b < N → a ≠ b → (T a).2.1 ≠ (T b).2.1) (hW : gW X A L ad st s H) (hS : va_S A s.heap H locs) (hr : r ∈ L) {fs : List Value} (he : st r = .inr (ci, fs)) (hc : vwCl[ci]? = some (Cn, T, N)) (k : Nat) (hk : k < N) (hlink : Cond.fieldLink own index own (T k).2.1 (T k).2.2.1 ∈ TB)
    (hfin : (T k).2.2.2 = true) (hdecl : (T k).1 = own) {v : Value} (hn : narrow (ty0 k) v = v) (hfit : fits (ty0 k) v = true) (hl : k < fs.length) {st2 : ro → va_E} (hst : sup st r (.inr (ci, fs.set k v)) = st2) (hdg : decode cc pc = .ok (.putfield index, 3))
    (kk : ∀ (H1 : Heap) (locs1 : List Loc), gW X A L ad st2 s H1 → va_S A s.heap H1 locs1 → W p l e R s m args below meth c H1 locs1 cells slots Q (F0 m (pc + 3) ls rest)) : W p l e R s m args below meth c H locs cells slots Q (F0 m pc ls (v :: .ref (ad r) :: rest)) := by
  obtain ⟨q0, hq0, h0⟩ := rw_get (ad := ad) (st := st) hr
  rw [he] at h0
  refine va_putF C.1.1 C.1.2.1 C.1.2.2.2.2 hin ty0 hty hnm C.1.2.2.2.1 hW.2.1 hW.1 hW.2.2 hS q0 h0 hc k hk (C.1.2.2.2.2 _ hlink) (fun x hx => by rw [← hdecl]; exact hx) hfin C.2.2.2.1 hdecl (hty k hk) hn hfit hl hdg (fun H1 locs1 hP1 hD1 hS1 => ?_)
  rw [rw_set hW.2.2 hq0, hst] at hP1 hD1
  exact kk H1 locs1 ⟨hP1, hW.2.1, hD1⟩ hS1
theorem g_alen (C : gCx p s m args meth c cc nL ret own mname X A) (hW : gW X A L ad st s H) (hr : r ∈ L) {t0 : Nat} {cA : ClassId} {x : vp_A} {ty : FieldType} (he : st r = .inl (cA, x)) (ht : (wTy X.2.1)[t0]? = some (cA, ty)) {v : Int32} (hv : Int32.ofNat x.1 = v) (hdg : decode cc pc = .ok (.arraylength, 1))
    (kk : W p l e R s m args below meth c H locs cells slots Q (F0 m (pc + 1) ls (.int v :: rest))) : W p l e R s m args below meth c H locs cells slots Q (F0 m pc ls (.ref (ad r) :: rest)) := by
  obtain ⟨q0, -, h0⟩ := rw_get (ad := ad) (st := st) hr
  rw [he] at h0
  exact va_alen C.1.1 C.1.2.1 hW.2.1 hW.1 q0 t0 h0 ht hv hdg kk
theorem g_iald (C : gCx p s m args meth c cc nL ret own mname X A) (hW : gW X A L ad st s H) (hr : r ∈ L) {n : Nat} {f : Nat → Int32} (he : st r = .inl (X.2.1 2, n, .inl f)) {i : Int32} (hin : vp_in i n) (hdg : decode cc pc = .ok (.iaload, 1))
    (kk : W p l e R s m args below meth c H locs cells slots Q (F0 m (pc + 1) ls (.int (f i.toNatClampNeg) :: rest))) : W p l e R s m args below meth c H locs cells slots Q (F0 m pc ls (.int i :: .ref (ad r) :: rest)) := by
  obtain ⟨q0, -, h0⟩ := rw_get (ad := ad) (st := st) hr
  rw [he] at h0
  exact va_iald C.1.1 C.1.2.1 hW.2.1 hW.1 q0 2 h0 rfl hin hdg kk
theorem g_cald (C : gCx p s m args meth c cc nL ret own mname X A) (hW : gW X A L ad st s H) (hr : r ∈ L) {n : Nat} {f : Nat → Int32} (he : st r = .inl (X.2.1 1, n, .inl f)) {i : Int32} (hin : vp_in i n) (hdg : decode cc pc = .ok (.caload, 1))
    (kk : W p l e R s m args below meth c H locs cells slots Q (F0 m (pc + 1) ls (.int (f i.toNatClampNeg) :: rest))) : W p l e R s m args below meth c H locs cells slots Q (F0 m pc ls (.int i :: .ref (ad r) :: rest)) := by
  obtain ⟨q0, -, h0⟩ := rw_get (ad := ad) (st := st) hr
  rw [he] at h0
  exact va_cald C.1.1 C.1.2.1 hW.2.1 hW.1 q0 1 h0 rfl hin hdg kk
theorem g_zald (C : gCx p s m args meth c cc nL ret own mname X A) (hW : gW X A L ad st s H) (hr : r ∈ L) {n : Nat} {f : Nat → Int32} (he : st r = .inl (X.2.1 3, n, .inl f)) {i : Int32} (hin : vp_in i n) (hdg : decode cc pc = .ok (.baload, 1))
    (kk : W p l e R s m args below meth c H locs cells slots Q (F0 m (pc + 1) ls (.int (f i.toNatClampNeg) :: rest))) : W p l e R s m args below meth c H locs cells slots Q (F0 m pc ls (.int i :: .ref (ad r) :: rest)) := by
  obtain ⟨q0, -, h0⟩ := rw_get (ad := ad) (st := st) hr
  rw [he] at h0
  exact va_zald C.1.1 C.1.2.1 hW.2.1 hW.1 q0 3 h0 rfl hin hdg kk
theorem g_bald (C : gCx p s m args meth c cc nL ret own mname X A) (hW : gW X A L ad st s H) (hr : r ∈ L) {n : Nat} {f : Nat → Int32} (he : st r = .inl (X.2.1 0, n, .inl f)) {i : Int32} (hin : vp_in i n) (hdg : decode cc pc = .ok (.baload, 1))
    (kk : W p l e R s m args below meth c H locs cells slots Q (F0 m (pc + 1) ls (.int (f i.toNatClampNeg) :: rest))) : W p l e R s m args below meth c H locs cells slots Q (F0 m pc ls (.int i :: .ref (ad r) :: rest)) := by
  obtain ⟨q0, -, h0⟩ := rw_get (ad := ad) (st := st) hr
  rw [he] at h0
  exact va_bald C.1.1 C.1.2.1 hW.2.1 hW.1 q0 0 h0 rfl hin hdg kk
theorem g_aldq (C : gCx p s m args meth c cc nL ret own mname X A) (hW : gW X A L ad st s H) (hr : r ∈ L) {t0 n : Nat} {cA : ClassId} {Cn : String} {f : Nat → Option Nat} (he : st r = .inl (cA, n, .inr (.inr (.inr (.inr f))))) (ht : (wTy X.2.1)[t0]? = some (cA, .object Cn)) {i : Int32} (hin : vp_in i n) (hdg : decode cc pc = .ok (.aaload, 1))
    (kk : W p l e R s m args below meth c H locs cells slots Q (F0 m (pc + 1) ls (va_rf (f i.toNatClampNeg) :: rest))) : W p l e R s m args below meth c H locs cells slots Q (F0 m pc ls (.int i :: .ref (ad r) :: rest)) := by
  obtain ⟨q0, -, h0⟩ := rw_get (ad := ad) (st := st) hr
  rw [he] at h0
  exact va_aldq C.1.1 C.1.2.1 hW.2.1 hW.1 q0 t0 h0 ht hin hdg kk
theorem g_iast (C : gCx p s m args meth c cc nL ret own mname X A) (hW : gW X A L ad st s H) (hS : va_S A s.heap H locs) (hr : r ∈ L) {n : Nat} {f : Nat → Int32} (he : st r = .inl (X.2.1 2, n, .inl f)) {i x : Int32} (hin : vp_in i n) {st2 : ro → va_E} (hst : sup st r (.inl (X.2.1 2, n, .inl (upd f i.toNatClampNeg x))) = st2) (hdg : decode cc pc = .ok (.iastore, 1))
    (kk : ∀ (H1 : Heap) (locs1 : List Loc), gW X A L ad st2 s H1 → va_S A s.heap H1 locs1 → W p l e R s m args below meth c H1 locs1 cells slots Q (F0 m (pc + 1) ls rest)) : W p l e R s m args below meth c H locs cells slots Q (F0 m pc ls (.int x :: .int i :: .ref (ad r) :: rest)) := by
  obtain ⟨q0, hq0, h0⟩ := rw_get (ad := ad) (st := st) hr
  rw [he] at h0
  refine va_iast C.1.1 C.1.2.1 hW.2.1 hW.1 hW.2.2 hS q0 2 h0 rfl hin hdg (fun H1 locs1 hP1 hD1 hS1 => ?_)
  rw [rw_set hW.2.2 hq0, hst] at hP1 hD1
  exact kk H1 locs1 ⟨hP1, hW.2.1, hD1⟩ hS1
theorem g_cast (C : gCx p s m args meth c cc nL ret own mname X A) (hW : gW X A L ad st s H) (hS : va_S A s.heap H locs) (hr : r ∈ L) {n : Nat} {f : Nat → Int32} (he : st r = .inl (X.2.1 1, n, .inl f)) {i x : Int32} (hin : vp_in i n) {st2 : ro → va_E} (hst : sup st r (.inl (X.2.1 1, n, .inl (upd f i.toNatClampNeg (vp_nar .char x)))) = st2) (hdg : decode cc pc = .ok (.castore, 1))
    (kk : ∀ (H1 : Heap) (locs1 : List Loc), gW X A L ad st2 s H1 → va_S A s.heap H1 locs1 → W p l e R s m args below meth c H1 locs1 cells slots Q (F0 m (pc + 1) ls rest)) : W p l e R s m args below meth c H locs cells slots Q (F0 m pc ls (.int x :: .int i :: .ref (ad r) :: rest)) := by
  obtain ⟨q0, hq0, h0⟩ := rw_get (ad := ad) (st := st) hr
  rw [he] at h0
  refine va_cast C.1.1 C.1.2.1 hW.2.1 hW.1 hW.2.2 hS q0 1 h0 rfl hin hdg (fun H1 locs1 hP1 hD1 hS1 => ?_)
  rw [rw_set hW.2.2 hq0, hst] at hP1 hD1
  exact kk H1 locs1 ⟨hP1, hW.2.1, hD1⟩ hS1
theorem g_zast (C : gCx p s m args meth c cc nL ret own mname X A) (hW : gW X A L ad st s H) (hS : va_S A s.heap H locs) (hr : r ∈ L) {n : Nat} {f : Nat → Int32} (he : st r = .inl (X.2.1 3, n, .inl f)) {i x : Int32} (hin : vp_in i n) {st2 : ro → va_E} (hst : sup st r (.inl (X.2.1 3, n, .inl (upd f i.toNatClampNeg (vp_nar .boolean x)))) = st2) (hdg : decode cc pc = .ok (.bastore, 1))
    (kk : ∀ (H1 : Heap) (locs1 : List Loc), gW X A L ad st2 s H1 → va_S A s.heap H1 locs1 → W p l e R s m args below meth c H1 locs1 cells slots Q (F0 m (pc + 1) ls rest)) : W p l e R s m args below meth c H locs cells slots Q (F0 m pc ls (.int x :: .int i :: .ref (ad r) :: rest)) := by
  obtain ⟨q0, hq0, h0⟩ := rw_get (ad := ad) (st := st) hr
  rw [he] at h0
  refine va_zast C.1.1 C.1.2.1 hW.2.1 hW.1 hW.2.2 hS q0 3 h0 rfl hin hdg (fun H1 locs1 hP1 hD1 hS1 => ?_)
  rw [rw_set hW.2.2 hq0, hst] at hP1 hD1
  exact kk H1 locs1 ⟨hP1, hW.2.1, hD1⟩ hS1
/-- the words of a call out of TB -/
theorem tcV {Cn : String} {index n2 mc2 ms2 k2 : Nat} {z : MethodName} {b2 : ByteArray} {ret2 : Option FieldType} {rm : Room} (hts : ∀ w ∈ TB, w.before args s = true) (h1 : Cond.methodLink own index z ∈ TB) (h2 : Cond.instanceMethod z ∈ TB) (h3 : Cond.selects Cn z z ∈ TB) (h4 : Cond.initialized Cn ∈ TB) (h5 : Cond.code z b2 n2 ret2 ∈ TB) (hrc : rm.cells = mc2) (hrs : rm.slots = ms2)
    (hd : z.cls = Cn ∧ z.cls ≠ "java/lang/invoke/MethodHandle" ∧ z.cls ≠ "java/lang/invoke/VarHandle" ∧ (parseMethodDescriptor z.desc).map (fun d => d.parameters.length) = some k2) (hR : rm.frames + 1 ≤ R.frames ∧ 8 + (n2 + 11) + rm.locals ≤ R.locals) : CallW R s args own Cn index z b2 n2 ret2 (tW z b2 n2 ret2) rm mc2 ms2 k2 := by
  refine cwV k2 hts (fun w hw => ?_) rfl hrc hrs hd hR
  unfold wsV at hw
  rcases List.mem_append.mp hw with h | h
  · have hb : w ∈ TB := by
      simp only [List.mem_cons, List.not_mem_nil, or_false] at h
      rcases h with h | h | h | h <;> subst h <;> assumption
    exact ⟨hb, good_of_word (tB_ok hb)⟩
  · exact tW_good h5 w h
theorem tcS {index n2 mc2 ms2 k2 : Nat} {z : MethodName} {b2 : ByteArray} {ret2 : Option FieldType} {rm : Room} (hts : ∀ w ∈ TB, w.before args s = true) (h1 : Cond.methodLink own index z ∈ TB) (h2 : Cond.static z ∈ TB) (h4 : Cond.initialized z.cls ∈ TB) (h5 : Cond.code z b2 n2 ret2 ∈ TB) (hrc : rm.cells = mc2) (hrs : rm.slots = ms2)
    (hd : z.cls ≠ "java/lang/invoke/MethodHandle" ∧ z.cls ≠ "java/lang/invoke/VarHandle" ∧ (parseMethodDescriptor z.desc).map (fun d => d.parameters.length) = some k2) (hR : rm.frames + 1 ≤ R.frames ∧ 8 + (n2 + 11) + rm.locals ≤ R.locals) : CallB R s args own index z b2 n2 ret2 (tW z b2 n2 ret2) rm mc2 ms2 k2 ∧ (Cond.static z).before args s = true :=
  ⟨callB_of k2 hts (tW_good h5) rfl hrc hrs (hts _ h4) (hts _ h1) hd hR, hts _ h2⟩
/-- what a callee is handed -/
theorem g_pre (C : gCx p s m args meth c cc nL ret own mname X A) (hW : gW X A L ad st s H) (hS : va_S A s.heap H locs) {av : List Value} : ∀ U : State, U.heap = H → s.WarmedH U.vm → gPre X av L ad st H.size av.toArray U := fun U hU hWm => by
  have hf := g_free C hW hS
  refine ⟨rfl, by rw [hU], ?_, ?_, C.2.2.2.2.2.2.warm hWm⟩
  · rw [hU]
    exact ⟨hW.1, va_K.moved hWm.alike hW.2.1, hW.2.2.self⟩
  · rw [hU]
    exact ((C.2.2.2.2.2.1.kept (fun a h1 h2 => hS.2.1 a h1 h2)).narrow hf).moved hWm.alike
theorem g_back {A1 : Nat → Prop} {L' : List ro} {ad' : ro → Nat} {st' : ro → va_E} {t : State} {H1 : Heap} (hf : ∀ q, A1 q → A q) (ht : t.heap = H1) (hvm : s.vm.Alike t.vm) (hB : gB X A1 (L', ad', st') t) : gW X A L' ad' st' s H1 := by
  subst ht
  exact ⟨hB.1, va_K.moved hvm.symm hB.2.1, hB.2.2.weaken (fun _ _ _ h => hf _ h)⟩
theorem g_callVi {Cn : String} {T : u_T} {N ci index n2 fr2 lc2 mc2 ms2 k2 : Nat} {z : MethodName} {b2 : ByteArray} {ret2 : Option FieldType} {As st0 : List Value} {post : Int32 → WS → Prop} {fs : List Value} (C : gCx p s m args meth c cc nL ret own mname X A) (hM : gMi l z b2 n2 ret2 fr2 lc2 mc2 ms2 X (.ref (ad r) :: As) L ad st post)
    (h1 : Cond.methodLink own index z ∈ TB) (h2 : Cond.instanceMethod z ∈ TB) (h3 : Cond.selects Cn z z ∈ TB) (h4 : Cond.initialized Cn ∈ TB) (h5 : Cond.code z b2 n2 ret2 ∈ TB) (hd : z.cls = Cn ∧ z.cls ≠ "java/lang/invoke/MethodHandle" ∧ z.cls ≠ "java/lang/invoke/VarHandle" ∧ (parseMethodDescriptor z.desc).map (fun d => d.parameters.length) = some k2) (hR : fr2 + 1 ≤ R.frames ∧ 8 + (n2 + 11) + lc2 ≤ R.locals)
    (hW : gW X A L ad st s H) (hS : va_S A s.heap H locs) (hr : r ∈ L) (he : st r = .inr (ci, fs)) (hci : vwCl[ci]? = some (Cn, T, N)) (hk : As.length = k2) (hsz : ls.size = nL) (hst : st0 = As.reverse ++ .ref (ad r) :: rest) (hcat : (rest.map fun v => v.category).sum ≤ 8) (hdg : decode cc pc = .ok (.invokevirtual index, 3)) (hcs : cells + mc2 ≤ R.cells ∧ slots + ms2 ≤ R.slots)
    (kk : ∀ (v : Int32) (L' : List ro) (ad' : ro → Nat) (st' : ro → va_E) (H1 : Heap) (locs1 : List Loc), post v (L', ad', st') → gW X A L' ad' st' s H1 → va_S A s.heap H1 locs1 → W p l e R s m args below meth c H1 locs1 (cells + mc2) (slots + ms2) Q (F0 m (pc + 3) ls (.int v :: rest))) : W p l e R s m args below meth c H locs cells slots Q (F0 m pc ls st0) := by
  obtain ⟨q0, -, h0⟩ := rw_get (ad := ad) (st := st) hr
  rw [he] at h0
  have hf := g_free C hW hS
  exact va_calli (va_runV (As := As) (rest := rest) C.1 (hM H.size) (tcV C.1.2.2.2.2 h1 h2 h3 h4 h5 rfl rfl hd hR) ⟨gPre_blind, va_recv hW.2.1 hW.1 hci h0, g_pre C hW hS⟩ rfl hk hsz hst (lv_room hcat) hdg hcs) hS (fun q _ h => hf q h) hf (fun v u t H1 locs1 ht hvm hp hB _ _ hS1 => kk v u.1 u.2.1 u.2.2 H1 locs1 hp (g_back hf ht hvm hB) hS1)
theorem g_callVv {Cn : String} {T : u_T} {N ci index n2 fr2 lc2 mc2 ms2 k2 : Nat} {z : MethodName} {b2 : ByteArray} {ret2 : Option FieldType} {As st0 : List Value} {post : WS → Prop} {fs : List Value} (C : gCx p s m args meth c cc nL ret own mname X A) (hM : gMv l z b2 n2 ret2 fr2 lc2 mc2 ms2 X (.ref (ad r) :: As) L ad st post)
    (h1 : Cond.methodLink own index z ∈ TB) (h2 : Cond.instanceMethod z ∈ TB) (h3 : Cond.selects Cn z z ∈ TB) (h4 : Cond.initialized Cn ∈ TB) (h5 : Cond.code z b2 n2 ret2 ∈ TB) (hd : z.cls = Cn ∧ z.cls ≠ "java/lang/invoke/MethodHandle" ∧ z.cls ≠ "java/lang/invoke/VarHandle" ∧ (parseMethodDescriptor z.desc).map (fun d => d.parameters.length) = some k2) (hR : fr2 + 1 ≤ R.frames ∧ 8 + (n2 + 11) + lc2 ≤ R.locals)
    (hW : gW X A L ad st s H) (hS : va_S A s.heap H locs) (hr : r ∈ L) (he : st r = .inr (ci, fs)) (hci : vwCl[ci]? = some (Cn, T, N)) (hk : As.length = k2) (hsz : ls.size = nL) (hst : st0 = As.reverse ++ .ref (ad r) :: rest) (hcat : (rest.map fun v => v.category).sum ≤ 8) (hdg : decode cc pc = .ok (.invokevirtual index, 3)) (hcs : cells + mc2 ≤ R.cells ∧ slots + ms2 ≤ R.slots)
    (kk : ∀ (L' : List ro) (ad' : ro → Nat) (st' : ro → va_E) (H1 : Heap) (locs1 : List Loc), post (L', ad', st') → gW X A L' ad' st' s H1 → va_S A s.heap H1 locs1 → W p l e R s m args below meth c H1 locs1 (cells + mc2) (slots + ms2) Q (F0 m (pc + 3) ls rest)) : W p l e R s m args below meth c H locs cells slots Q (F0 m pc ls st0) := by
  obtain ⟨q0, -, h0⟩ := rw_get (ad := ad) (st := st) hr
  rw [he] at h0
  have hf := g_free C hW hS
  exact va_callv (va_runV (As := As) (rest := rest) C.1 (hM H.size) (tcV C.1.2.2.2.2 h1 h2 h3 h4 h5 rfl rfl hd hR) ⟨gPre_blind, va_recv hW.2.1 hW.1 hci h0, g_pre C hW hS⟩ rfl hk hsz hst (lv_room hcat) hdg hcs) hS (fun q _ h => hf q h) hf (fun u t H1 locs1 ht hvm hp hB _ _ hS1 => kk u.1 u.2.1 u.2.2 H1 locs1 hp (g_back hf ht hvm hB) hS1)
theorem g_callSi {index n2 fr2 lc2 mc2 ms2 k2 : Nat} {z : MethodName} {b2 : ByteArray} {ret2 : Option FieldType} {As st0 : List Value} {post : Int32 → WS → Prop} (C : gCx p s m args meth c cc nL ret own mname X A) (hM : gMi l z b2 n2 ret2 fr2 lc2 mc2 ms2 X As L ad st post)
    (h1 : Cond.methodLink own index z ∈ TB) (h2 : Cond.static z ∈ TB) (h4 : Cond.initialized z.cls ∈ TB) (h5 : Cond.code z b2 n2 ret2 ∈ TB) (hd : z.cls ≠ "java/lang/invoke/MethodHandle" ∧ z.cls ≠ "java/lang/invoke/VarHandle" ∧ (parseMethodDescriptor z.desc).map (fun d => d.parameters.length) = some k2) (hR : fr2 + 1 ≤ R.frames ∧ 8 + (n2 + 11) + lc2 ≤ R.locals)
    (hW : gW X A L ad st s H) (hS : va_S A s.heap H locs) (hk : As.length = k2) (hsz : ls.size = nL) (hst : st0 = As.reverse ++ rest) (hcat : (rest.map fun v => v.category).sum ≤ 8) (hdg : decode cc pc = .ok (.invokestatic index, 3)) (hcs : cells + mc2 ≤ R.cells ∧ slots + ms2 ≤ R.slots)
    (kk : ∀ (v : Int32) (L' : List ro) (ad' : ro → Nat) (st' : ro → va_E) (H1 : Heap) (locs1 : List Loc), post v (L', ad', st') → gW X A L' ad' st' s H1 → va_S A s.heap H1 locs1 → W p l e R s m args below meth c H1 locs1 (cells + mc2) (slots + ms2) Q (F0 m (pc + 3) ls (.int v :: rest))) : W p l e R s m args below meth c H locs cells slots Q (F0 m pc ls st0) := by
  have hf := g_free C hW hS
  exact va_calli (va_runS (As := As) (rest := rest) C.1 (hM H.size) (tcS C.1.2.2.2.2 h1 h2 h4 h5 rfl rfl hd hR) ⟨gPre_blind, g_pre C hW hS⟩ rfl hk hsz hst (lv_room hcat) hdg hcs) hS (fun q _ h => hf q h) hf (fun v u t H1 locs1 ht hvm hp hB _ _ hS1 => kk v u.1 u.2.1 u.2.2 H1 locs1 hp (g_back hf ht hvm hB) hS1)
end GR
theorem tinX0 : ∀ w ∈ wsX00, w ∈ TB := by decide +kernel
theorem tinX1 : ∀ w ∈ wsX10, w ∈ TB := by decide +kernel
theorem tinX2 : ∀ w ∈ wsX20, w ∈ TB := by decide +kernel
theorem tinX3 : ∀ w ∈ wsX30, w ∈ TB := by decide +kernel
theorem tinX4 : ∀ w ∈ wsX40, w ∈ TB := by decide +kernel
theorem tinX5 : ∀ w ∈ wsX50, w ∈ TB := by decide +kernel
theorem tinX6 : ∀ w ∈ wsX60, w ∈ TB := by decide +kernel
theorem tinX7 : ∀ w ∈ wsX70, w ∈ TB := by decide +kernel
theorem tinX8 : ∀ w ∈ wsX80, w ∈ TB := by decide +kernel
theorem tinJ0 : ∀ w ∈ wsJ00, w ∈ TB := by decide +kernel
theorem tinJ4 : ∀ w ∈ wsJ40, w ∈ TB := by decide +kernel
theorem tinJx4a65c : ∀ w ∈ wsJx4a65c0, w ∈ TB := by decide +kernel
end
section
/-! the reference as a value: fi, its whole numbers by their slots; fa, its arrays by their slots -/
def mInt (k : Nat) : Bool := k == 0 || k == 1 || k == 3 || k == 7 || k == 8 || k == 10 || k == 22 || k == 23 || k == 32 || k == 42
def mLen (k : Nat) : Nat := match k with
  | 2 => 60 | 4 => 6 | 5 => 24 | 6 => 6 | 9 => 20 | 11 => 6 | 12 => 6 | 13 => 4 | 14 => 4 | 15 => 4 | 16 => 4 | 17 => 4 | 18 => 4 | 19 => 4 | 20 => 4 | 21 => 4
  | 24 => 2000 | 25 => 2000 | 26 => 6 | 27 => 6 | 28 => 1536 | 29 => 1536 | 30 => 1536 | 31 => 1536
  | 33 => 100 | 34 => 100 | 35 => 100 | 36 => 100 | 37 => 100 | 38 => 100 | 39 => 100 | 40 => 100 | 41 => 100
  | 43 => 50 | 44 => 50 | 45 => 50 | 46 => 50 | _ => 0
def mTy (k : Nat) : Nat := match k with
  | 2 => 1 | 4 => 1 | 5 => 1 | 9 => 1 | 13 => 3 | 17 => 3 | 37 => 3 | _ => 2
def mF (ad : ro → Nat) (fi : Nat → Int32) (k : Nat) : Value := if mInt k = true then .int (fi k) else .ref (ad (101, k))
def mO (ad : ro → Nat) (fi : Nat → Int32) : List Value := (List.range 47).map (mF ad fi)
def mSt (X : GX) (ad : ro → Nat) (st0 : ro → va_E) (fi : Nat → Int32) (fa : Nat → Nat → Int32) : ro → va_E := fun r => if r = (100, 0) then .inr (11, mO ad fi) else if r.1 = 101 then .inl (X.2.1 (mTy r.2), mLen r.2, .inl (fa r.2)) else st0 r
def mL (L : List ro) : Prop := (100, 0) ∈ L ∧ ∀ k : Nat, k < 47 → mInt k = false → (101, k) ∈ L
def rowu (fa : Nat → Nat → Int32) (k : Nat) (g : Nat → Int32) : Nat → Nat → Int32 := fun a => if a = k then g else fa a
theorem mO_at {ad : ro → Nat} {fi : Nat → Int32} {k : Nat} (hk : k < 47) : (mO ad fi)[k]? = some (mF ad fi k) := by simp [mO, hk]
theorem mO_len {ad : ro → Nat} {fi : Nat → Int32} : (mO ad fi).length = 47 := by simp [mO]
theorem mO_set {ad : ro → Nat} {fi : Nat → Int32} {k : Nat} {v : Int32} (hi : mInt k = true) : (mO ad fi).set k (.int v) = mO ad (upd fi k v) := by
  apply List.ext_getElem?
  intro j
  rw [List.getElem?_set]
  by_cases hj : k = j
  · subst hj
    by_cases hk : k < 47
    · simp [mO, hk, mF, hi, upd]
    · simp [mO, hk]
  · rw [if_neg hj]
    by_cases hk : j < 47
    · rw [mO_at hk, mO_at hk]
      simp [mF, upd, Ne.symm hj]
    · simp [mO, hk]
theorem mSt_obj {X : GX} {ad : ro → Nat} {st0 : ro → va_E} {fi : Nat → Int32} {fa : Nat → Nat → Int32} : mSt X ad st0 fi fa (100, 0) = .inr (11, mO ad fi) := by simp [mSt]
theorem mSt_arr {X : GX} {ad : ro → Nat} {st0 : ro → va_E} {fi : Nat → Int32} {fa : Nat → Nat → Int32} (k : Nat) : mSt X ad st0 fi fa (101, k) = .inl (X.2.1 (mTy k), mLen k, .inl (fa k)) := by simp [mSt]
theorem mSt_put {X : GX} {ad : ro → Nat} {st0 : ro → va_E} {fi fi2 : Nat → Int32} {fa : Nat → Nat → Int32} : sup (mSt X ad st0 fi fa) (100, 0) (.inr (11, mO ad fi2)) = mSt X ad st0 fi2 fa := by
  funext r
  by_cases h : r = (100, 0)
  · simp [sup, mSt, h]
  · simp [sup, mSt, h]
theorem mSt_row {X : GX} {ad : ro → Nat} {st0 : ro → va_E} {fi : Nat → Int32} {fa : Nat → Nat → Int32} {k : Nat} {g : Nat → Int32} : sup (mSt X ad st0 fi fa) (101, k) (.inl (X.2.1 (mTy k), mLen k, .inl g)) = mSt X ad st0 fi (rowu fa k g) := by
  funext r
  obtain ⟨a, b⟩ := r
  by_cases h : (a, b) = ((101, k) : Nat × Nat)
  · cases h
    simp [sup, mSt, rowu]
  · by_cases h1 : a = 101
    · subst h1
      have hb : b ≠ k := fun e => h (by rw [e])
      simp [sup, mSt, rowu, hb]
    · by_cases h2 : (a, b) = ((100, 0) : Nat × Nat)
      · cases h2
        simp [sup, mSt]
      · have h3 : ¬ (a = 100 ∧ b = 0) := fun e => h2 (by rw [e.1, e.2])
        simp [sup, mSt, h1, h3]
theorem TX8_1 : ∀ k, k < 47 → (TX8 k).1 = RX8 := by decide +kernel
theorem TX8_f : ∀ k, k < 47 → mInt k = true → (TX8 k).2.2.2 = false ∧ tyX8 k = .int := by decide +kernel
theorem vp_of {x : Int32} {n : Nat} {lo hi : Int32} (h1 : ¬ x < lo) (h2 : x ≤ hi) (h3 : lo = 0) (h4 : hi.toInt < n) : vp_in x n := by
  subst h3
  rw [Int32.not_lt, Int32.le_iff_toInt_le] at h1
  rw [Int32.le_iff_toInt_le] at h2
  rw [vp_in_iff]
  have h0 : (0 : Int32).toInt = 0 := rfl
  omega
section MR
variable {p : Program} {l : Launch} {e : Env} {R : Room} {s : State} {m : MethodId} {args : Array Value} {below : List Frame} {meth : Method} {c : Code} {H : Heap} {locs : List Loc} {cells slots : Nat} {Q : State → Prop}
variable {cc : ByteArray} {nL : Nat} {ret : Option FieldType} {own mname : String} {pc : Nat} {ls : Array Slot} {rest : List Value} {X : GX} {A : Nat → Prop} {L : List ro} {ad : ro → Nat} {st0 : ro → va_E} {fi : Nat → Int32} {fa : Nat → Nat → Int32}
theorem m_getI {v : Int32} {index : Nat} (C : gCx p s m args meth c cc nL ret own mname X A) (hm : mL L) (hW : gW X A L ad (mSt X ad st0 fi fa) s H) (k : Nat) (hk : k < 47) (hi : mInt k = true) (hlink : Cond.fieldLink own index RX8 (TX8 k).2.1 (TX8 k).2.2.1 ∈ TB) (hv : fi k = v) (hdg : decode cc pc = .ok (.getfield index, 3))
    (kk : W p l e R s m args below meth c H locs cells slots Q (F0 m (pc + 3) ls (.int v :: rest))) : W p l e R s m args below meth c H locs cells slots Q (F0 m pc ls (.ref (ad (100, 0)) :: rest)) :=
  g_get (Cn := RX8) (T := TX8) (N := 47) (ci := 11) C tinX8 hW hm.1 mSt_obj rfl k hk hlink (fun x hx => by rw [TX8_1 k hk] at hx; exact hx) ((mO_at hk).trans (by rw [mF, if_pos hi, hv])) hdg kk
theorem m_getA {index : Nat} (C : gCx p s m args meth c cc nL ret own mname X A) (hm : mL L) (hW : gW X A L ad (mSt X ad st0 fi fa) s H) (k : Nat) (hk : k < 47) (hi : mInt k = false) (hlink : Cond.fieldLink own index RX8 (TX8 k).2.1 (TX8 k).2.2.1 ∈ TB) (hdg : decode cc pc = .ok (.getfield index, 3))
    (kk : W p l e R s m args below meth c H locs cells slots Q (F0 m (pc + 3) ls (.ref (ad (101, k)) :: rest))) : W p l e R s m args below meth c H locs cells slots Q (F0 m pc ls (.ref (ad (100, 0)) :: rest)) :=
  g_get (Cn := RX8) (T := TX8) (N := 47) (ci := 11) C tinX8 hW hm.1 mSt_obj rfl k hk hlink (fun x hx => by rw [TX8_1 k hk] at hx; exact hx) ((mO_at hk).trans (by rw [mF, if_neg (by rw [hi]; decide)])) hdg kk
theorem m_putI {v : Int32} {index : Nat} (C : gCx p s m args meth c cc nL ret own mname X A) (hm : mL L) (hW : gW X A L ad (mSt X ad st0 fi fa) s H) (hS : va_S A s.heap H locs) (k : Nat) (hk : k < 47) (hi : mInt k = true) (hlink : Cond.fieldLink own index RX8 (TX8 k).2.1 (TX8 k).2.2.1 ∈ TB) (hdg : decode cc pc = .ok (.putfield index, 3))
    (kk : ∀ (H1 : Heap) (locs1 : List Loc), gW X A L ad (mSt X ad st0 (upd fi k v) fa) s H1 → va_S A s.heap H1 locs1 → W p l e R s m args below meth c H1 locs1 cells slots Q (F0 m (pc + 3) ls rest)) : W p l e R s m args below meth c H locs cells slots Q (F0 m pc ls (.int v :: .ref (ad (100, 0)) :: rest)) :=
  g_put (Cn := RX8) (T := TX8) (N := 47) (ci := 11) (ty0 := tyX8) C tinX8 tyX8_ok nmX8 hW hS hm.1 mSt_obj rfl k hk hlink (fun x hx => by rw [TX8_1 k hk] at hx; exact hx) (TX8_f k hk hi).1 (by rw [(TX8_f k hk hi).2]; rfl) (by rw [(TX8_f k hk hi).2]; rfl) (by rw [mO_len]; exact hk) (by rw [mO_set hi]; exact mSt_put) hdg kk
theorem m_iald {v : Int32} (C : gCx p s m args meth c cc nL ret own mname X A) (hm : mL L) (hW : gW X A L ad (mSt X ad st0 fi fa) s H) (k : Nat) (hk : k < 47) (hi : mInt k = false) (ht : mTy k = 2) {i : Int32} (hin : vp_in i (mLen k)) (hv : fa k i.toNatClampNeg = v) (hdg : decode cc pc = .ok (.iaload, 1))
    (kk : W p l e R s m args below meth c H locs cells slots Q (F0 m (pc + 1) ls (.int v :: rest))) : W p l e R s m args below meth c H locs cells slots Q (F0 m pc ls (.int i :: .ref (ad (101, k)) :: rest)) := by
  subst hv
  exact g_iald C hW (hm.2 k hk hi) ((mSt_arr k).trans (by rw [ht])) hin hdg kk
theorem m_cald {v : Int32} (C : gCx p s m args meth c cc nL ret own mname X A) (hm : mL L) (hW : gW X A L ad (mSt X ad st0 fi fa) s H) (k : Nat) (hk : k < 47) (hi : mInt k = false) (ht : mTy k = 1) {i : Int32} (hin : vp_in i (mLen k)) (hv : fa k i.toNatClampNeg = v) (hdg : decode cc pc = .ok (.caload, 1))
    (kk : W p l e R s m args below meth c H locs cells slots Q (F0 m (pc + 1) ls (.int v :: rest))) : W p l e R s m args below meth c H locs cells slots Q (F0 m pc ls (.int i :: .ref (ad (101, k)) :: rest)) := by
  subst hv
  exact g_cald C hW (hm.2 k hk hi) ((mSt_arr k).trans (by rw [ht])) hin hdg kk
theorem m_zald {v : Int32} (C : gCx p s m args meth c cc nL ret own mname X A) (hm : mL L) (hW : gW X A L ad (mSt X ad st0 fi fa) s H) (k : Nat) (hk : k < 47) (hi : mInt k = false) (ht : mTy k = 3) {i : Int32} (hin : vp_in i (mLen k)) (hv : fa k i.toNatClampNeg = v) (hdg : decode cc pc = .ok (.baload, 1))
    (kk : W p l e R s m args below meth c H locs cells slots Q (F0 m (pc + 1) ls (.int v :: rest))) : W p l e R s m args below meth c H locs cells slots Q (F0 m pc ls (.int i :: .ref (ad (101, k)) :: rest)) := by
  subst hv
  exact g_zald C hW (hm.2 k hk hi) ((mSt_arr k).trans (by rw [ht])) hin hdg kk
theorem m_iast {x : Int32} (C : gCx p s m args meth c cc nL ret own mname X A) (hm : mL L) (hW : gW X A L ad (mSt X ad st0 fi fa) s H) (hS : va_S A s.heap H locs) (k : Nat) (hk : k < 47) (hi : mInt k = false) (ht : mTy k = 2) {i : Int32} (hin : vp_in i (mLen k)) (hdg : decode cc pc = .ok (.iastore, 1))
    (kk : ∀ (H1 : Heap) (locs1 : List Loc), gW X A L ad (mSt X ad st0 fi (rowu fa k (upd (fa k) i.toNatClampNeg x))) s H1 → va_S A s.heap H1 locs1 → W p l e R s m args below meth c H1 locs1 cells slots Q (F0 m (pc + 1) ls rest)) : W p l e R s m args below meth c H locs cells slots Q (F0 m pc ls (.int x :: .int i :: .ref (ad (101, k)) :: rest)) :=
  g_iast C hW hS (hm.2 k hk hi) ((mSt_arr k).trans (by rw [ht])) hin (by rw [← ht]; exact mSt_row) hdg kk
theorem m_cast {x : Int32} (C : gCx p s m args meth c cc nL ret own mname X A) (hm : mL L) (hW : gW X A L ad (mSt X ad st0 fi fa) s H) (hS : va_S A s.heap H locs) (k : Nat) (hk : k < 47) (hi : mInt k = false) (ht : mTy k = 1) {i : Int32} (hin : vp_in i (mLen k)) (hdg : decode cc pc = .ok (.castore, 1))
    (kk : ∀ (H1 : Heap) (locs1 : List Loc), gW X A L ad (mSt X ad st0 fi (rowu fa k (upd (fa k) i.toNatClampNeg (vp_nar .char x)))) s H1 → va_S A s.heap H1 locs1 → W p l e R s m args below meth c H1 locs1 cells slots Q (F0 m (pc + 1) ls rest)) : W p l e R s m args below meth c H locs cells slots Q (F0 m pc ls (.int x :: .int i :: .ref (ad (101, k)) :: rest)) :=
  g_cast C hW hS (hm.2 k hk hi) ((mSt_arr k).trans (by rw [ht])) hin (by rw [← ht]; exact mSt_row) hdg kk
theorem m_zast {x : Int32} (C : gCx p s m args meth c cc nL ret own mname X A) (hm : mL L) (hW : gW X A L ad (mSt X ad st0 fi fa) s H) (hS : va_S A s.heap H locs) (k : Nat) (hk : k < 47) (hi : mInt k = false) (ht : mTy k = 3) {i : Int32} (hin : vp_in i (mLen k)) (hdg : decode cc pc = .ok (.bastore, 1))
    (kk : ∀ (H1 : Heap) (locs1 : List Loc), gW X A L ad (mSt X ad st0 fi (rowu fa k (upd (fa k) i.toNatClampNeg (vp_nar .boolean x)))) s H1 → va_S A s.heap H1 locs1 → W p l e R s m args below meth c H1 locs1 cells slots Q (F0 m (pc + 1) ls rest)) : W p l e R s m args below meth c H locs cells slots Q (F0 m pc ls (.int x :: .int i :: .ref (ad (101, k)) :: rest)) :=
  g_zast C hW hS (hm.2 k hk hi) ((mSt_arr k).trans (by rw [ht])) hin (by rw [← ht]; exact mSt_row) hdg kk
end MR
/-- a method of the reference: what it does to fi and fa -/
abbrev mM (l : Launch) (z : MethodName) (b : ByteArray) (n : Nat) (ret : Option FieldType) (fr lc : Nat) (X : GX) (As : List Value) (L : List ro) (ad : ro → Nat) (st0 : ro → va_E) (fi : Nat → Int32) (fa : Nat → Nat → Int32) (P : Int32 → (Nat → Int32) → (Nat → Nat → Int32) → Prop) : Prop :=
  gMi l z b n ret fr lc 0 0 X (.ref (ad (100, 0)) :: As) L ad (mSt X ad st0 fi fa) (fun v u => ∃ fi' fa', u = (L, ad, mSt X ad st0 fi' fa') ∧ P v fi' fa')
abbrev mMv (l : Launch) (z : MethodName) (b : ByteArray) (n : Nat) (ret : Option FieldType) (fr lc : Nat) (X : GX) (As : List Value) (L : List ro) (ad : ro → Nat) (st0 : ro → va_E) (fi : Nat → Int32) (fa : Nat → Nat → Int32) (P : (Nat → Int32) → (Nat → Nat → Int32) → Prop) : Prop :=
  gMv l z b n ret fr lc 0 0 X (.ref (ad (100, 0)) :: As) L ad (mSt X ad st0 fi fa) (fun u => ∃ fi' fa', u = (L, ad, mSt X ad st0 fi' fa') ∧ P fi' fa')
/-- a static method that reads no cell -/
abbrev gS (l : Launch) (z : MethodName) (b : ByteArray) (n : Nat) (ret : Option FieldType) (fr lc : Nat) (X : GX) (As : List Value) (L : List ro) (ad : ro → Nat) (st : ro → va_E) (P : Int32 → Prop) : Prop :=
  gMi l z b n ret fr lc 0 0 X As L ad st (fun v u => u = (L, ad, st) ∧ P v)
section MC
variable {p : Program} {l : Launch} {e : Env} {R : Room} {s : State} {m : MethodId} {args : Array Value} {below : List Frame} {meth : Method} {c : Code} {H : Heap} {locs : List Loc} {cells slots : Nat} {Q : State → Prop}
variable {cc : ByteArray} {nL : Nat} {ret : Option FieldType} {own mname : String} {pc : Nat} {ls : Array Slot} {rest : List Value} {X : GX} {A : Nat → Prop} {L : List ro} {ad : ro → Nat} {st0 st : ro → va_E} {fi : Nat → Int32} {fa : Nat → Nat → Int32}
theorem m_callVi {index n2 fr2 lc2 k2 : Nat} {z : MethodName} {b2 : ByteArray} {ret2 : Option FieldType} {As st1 : List Value} {P : Int32 → (Nat → Int32) → (Nat → Nat → Int32) → Prop} (C : gCx p s m args meth c cc nL ret own mname X A) (hM : mM l z b2 n2 ret2 fr2 lc2 X As L ad st0 fi fa P)
    (h1 : Cond.methodLink own index z ∈ TB) (h2 : Cond.instanceMethod z ∈ TB) (h3 : Cond.selects RX8 z z ∈ TB) (h4 : Cond.initialized RX8 ∈ TB) (h5 : Cond.code z b2 n2 ret2 ∈ TB) (hd : z.cls = RX8 ∧ z.cls ≠ "java/lang/invoke/MethodHandle" ∧ z.cls ≠ "java/lang/invoke/VarHandle" ∧ (parseMethodDescriptor z.desc).map (fun d => d.parameters.length) = some k2) (hR : fr2 + 1 ≤ R.frames ∧ 8 + (n2 + 11) + lc2 ≤ R.locals)
    (hm : mL L) (hW : gW X A L ad (mSt X ad st0 fi fa) s H) (hS : va_S A s.heap H locs) (hk : As.length = k2) (hsz : ls.size = nL) (hst : st1 = As.reverse ++ .ref (ad (100, 0)) :: rest) (hcat : (rest.map fun v => v.category).sum ≤ 8) (hdg : decode cc pc = .ok (.invokevirtual index, 3)) (hcs : cells ≤ R.cells ∧ slots ≤ R.slots)
    (kk : ∀ (v : Int32) (fi' : Nat → Int32) (fa' : Nat → Nat → Int32) (H1 : Heap) (locs1 : List Loc), P v fi' fa' → gW X A L ad (mSt X ad st0 fi' fa') s H1 → va_S A s.heap H1 locs1 → W p l e R s m args below meth c H1 locs1 cells slots Q (F0 m (pc + 3) ls (.int v :: rest))) : W p l e R s m args below meth c H locs cells slots Q (F0 m pc ls st1) :=
  g_callVi (T := TX8) (N := 47) C hM h1 h2 h3 h4 h5 hd hR hW hS hm.1 mSt_obj rfl hk hsz hst hcat hdg hcs (fun v L' ad' st' H1 locs1 hp hW1 hS1 => by
    obtain ⟨fi', fa', eq, hp⟩ := hp
    cases eq
    exact kk v fi' fa' H1 locs1 hp hW1 hS1)
theorem m_callVv {index n2 fr2 lc2 k2 : Nat} {z : MethodName} {b2 : ByteArray} {ret2 : Option FieldType} {As st1 : List Value} {P : (Nat → Int32) → (Nat → Nat → Int32) → Prop} (C : gCx p s m args meth c cc nL ret own mname X A) (hM : mMv l z b2 n2 ret2 fr2 lc2 X As L ad st0 fi fa P)
    (h1 : Cond.methodLink own index z ∈ TB) (h2 : Cond.instanceMethod z ∈ TB) (h3 : Cond.selects RX8 z z ∈ TB) (h4 : Cond.initialized RX8 ∈ TB) (h5 : Cond.code z b2 n2 ret2 ∈ TB) (hd : z.cls = RX8 ∧ z.cls ≠ "java/lang/invoke/MethodHandle" ∧ z.cls ≠ "java/lang/invoke/VarHandle" ∧ (parseMethodDescriptor z.desc).map (fun d => d.parameters.length) = some k2) (hR : fr2 + 1 ≤ R.frames ∧ 8 + (n2 + 11) + lc2 ≤ R.locals)
    (hm : mL L) (hW : gW X A L ad (mSt X ad st0 fi fa) s H) (hS : va_S A s.heap H locs) (hk : As.length = k2) (hsz : ls.size = nL) (hst : st1 = As.reverse ++ .ref (ad (100, 0)) :: rest) (hcat : (rest.map fun v => v.category).sum ≤ 8) (hdg : decode cc pc = .ok (.invokevirtual index, 3)) (hcs : cells ≤ R.cells ∧ slots ≤ R.slots)
    (kk : ∀ (fi' : Nat → Int32) (fa' : Nat → Nat → Int32) (H1 : Heap) (locs1 : List Loc), P fi' fa' → gW X A L ad (mSt X ad st0 fi' fa') s H1 → va_S A s.heap H1 locs1 → W p l e R s m args below meth c H1 locs1 cells slots Q (F0 m (pc + 3) ls rest)) : W p l e R s m args below meth c H locs cells slots Q (F0 m pc ls st1) :=
  g_callVv (T := TX8) (N := 47) C hM h1 h2 h3 h4 h5 hd hR hW hS hm.1 mSt_obj rfl hk hsz hst hcat hdg hcs (fun L' ad' st' H1 locs1 hp hW1 hS1 => by
    obtain ⟨fi', fa', eq, hp⟩ := hp
    cases eq
    exact kk fi' fa' H1 locs1 hp hW1 hS1)
theorem g_callSp {index n2 fr2 lc2 k2 : Nat} {z : MethodName} {b2 : ByteArray} {ret2 : Option FieldType} {As st1 : List Value} {P : Int32 → Prop} (C : gCx p s m args meth c cc nL ret own mname X A) (hM : gS l z b2 n2 ret2 fr2 lc2 X As L ad st P)
    (h1 : Cond.methodLink own index z ∈ TB) (h2 : Cond.static z ∈ TB) (h4 : Cond.initialized z.cls ∈ TB) (h5 : Cond.code z b2 n2 ret2 ∈ TB) (hd : z.cls ≠ "java/lang/invoke/MethodHandle" ∧ z.cls ≠ "java/lang/invoke/VarHandle" ∧ (parseMethodDescriptor z.desc).map (fun d => d.parameters.length) = some k2) (hR : fr2 + 1 ≤ R.frames ∧ 8 + (n2 + 11) + lc2 ≤ R.locals)
    (hW : gW X A L ad st s H) (hS : va_S A s.heap H locs) (hk : As.length = k2) (hsz : ls.size = nL) (hst : st1 = As.reverse ++ rest) (hcat : (rest.map fun v => v.category).sum ≤ 8) (hdg : decode cc pc = .ok (.invokestatic index, 3)) (hcs : cells ≤ R.cells ∧ slots ≤ R.slots)
    (kk : ∀ (v : Int32) (H1 : Heap) (locs1 : List Loc), P v → gW X A L ad st s H1 → va_S A s.heap H1 locs1 → W p l e R s m args below meth c H1 locs1 cells slots Q (F0 m (pc + 3) ls (.int v :: rest))) : W p l e R s m args below meth c H locs cells slots Q (F0 m pc ls st1) :=
  g_callSi C hM h1 h2 h4 h5 hd hR hW hS hk hsz hst hcat hdg hcs (fun v L' ad' st' H1 locs1 hp hW1 hS1 => by
    obtain ⟨eq, hp⟩ := hp
    cases eq
    exact kk v H1 locs1 hp hW1 hS1)
end MC
end
section
theorem zz_last : True := trivial
end
