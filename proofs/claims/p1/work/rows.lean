section
-- ===== PART A: goes FIRST, ahead of the names: the tables' words, and 'selects' of the private methods out of them =====
/-- a private method of a class that the tables say can be made, by its rows of tables_1 -/
def lw_okq (q : MethodName × Nat) : Prop := (q.1.cls ≠ "java/lang/invoke/MethodHandle" ∧ q.1.cls ≠ "java/lang/invoke/VarHandle") ∧ Cond.instantiable q.1.cls q.2 ∈ tables_1 ∧ Cond.privateMethod q.1 ∈ tables_1 ∧ Cond.instanceMethod q.1 ∈ tables_1
theorem lw_p0 : lw_okq (⟨"TongueHouse$Text", "takeName", "()V"⟩, 10) := ⟨⟨by decide +kernel, by decide +kernel⟩, List.mem_of_getElem? (i := 171) (by decide +kernel), List.mem_of_getElem? (i := 718) (by decide +kernel), List.mem_of_getElem? (i := 719) (by decide +kernel)⟩
theorem lw_p1 : lw_okq (⟨"TongueHouse$Text", "takeNumber", "()V"⟩, 10) := ⟨⟨by decide +kernel, by decide +kernel⟩, List.mem_of_getElem? (i := 171) (by decide +kernel), List.mem_of_getElem? (i := 722) (by decide +kernel), List.mem_of_getElem? (i := 723) (by decide +kernel)⟩
theorem lw_p2 : lw_okq (⟨"TongueHouse$Text", "takeLetters", "()V"⟩, 10) := ⟨⟨by decide +kernel, by decide +kernel⟩, List.mem_of_getElem? (i := 171) (by decide +kernel), List.mem_of_getElem? (i := 726) (by decide +kernel), List.mem_of_getElem? (i := 727) (by decide +kernel)⟩
theorem lw_p3 : lw_okq (⟨"TongueHouse$Reader", "wrong", "(II)Z"⟩, 19) := ⟨⟨by decide +kernel, by decide +kernel⟩, List.mem_of_getElem? (i := 233) (by decide +kernel), List.mem_of_getElem? (i := 737) (by decide +kernel), List.mem_of_getElem? (i := 738) (by decide +kernel)⟩
theorem lw_p4 : lw_okq (⟨"TongueHouse$Reader", "readTongue", "()Z"⟩, 19) := ⟨⟨by decide +kernel, by decide +kernel⟩, List.mem_of_getElem? (i := 233) (by decide +kernel), List.mem_of_getElem? (i := 743) (by decide +kernel), List.mem_of_getElem? (i := 744) (by decide +kernel)⟩
theorem lw_p5 : lw_okq (⟨"TongueHouse$Reader", "need", "(I)Z"⟩, 19) := ⟨⟨by decide +kernel, by decide +kernel⟩, List.mem_of_getElem? (i := 233) (by decide +kernel), List.mem_of_getElem? (i := 747) (by decide +kernel), List.mem_of_getElem? (i := 748) (by decide +kernel)⟩
theorem lw_p6 : lw_okq (⟨"TongueHouse$Reader", "closes", "(Z)Z"⟩, 19) := ⟨⟨by decide +kernel, by decide +kernel⟩, List.mem_of_getElem? (i := 233) (by decide +kernel), List.mem_of_getElem? (i := 759) (by decide +kernel), List.mem_of_getElem? (i := 760) (by decide +kernel)⟩
theorem lw_p7 : lw_okq (⟨"TongueHouse$Reader", "take", "(I)Z"⟩, 19) := ⟨⟨by decide +kernel, by decide +kernel⟩, List.mem_of_getElem? (i := 233) (by decide +kernel), List.mem_of_getElem? (i := 763) (by decide +kernel), List.mem_of_getElem? (i := 764) (by decide +kernel)⟩
theorem lw_p8 : lw_okq (⟨"TongueHouse$Reader", "readNewName", "(LTongueHouse$Names;)Z"⟩, 19) := ⟨⟨by decide +kernel, by decide +kernel⟩, List.mem_of_getElem? (i := 233) (by decide +kernel), List.mem_of_getElem? (i := 921) (by decide +kernel), List.mem_of_getElem? (i := 922) (by decide +kernel)⟩
theorem lw_p9 : lw_okq (⟨"TongueHouse$Reader", "needNew", "(LTongueHouse$Names;)Z"⟩, 19) := ⟨⟨by decide +kernel, by decide +kernel⟩, List.mem_of_getElem? (i := 233) (by decide +kernel), List.mem_of_getElem? (i := 925) (by decide +kernel), List.mem_of_getElem? (i := 926) (by decide +kernel)⟩
theorem lw_p10 : lw_okq (⟨"TongueHouse$Reader", "readFun", "()Z"⟩, 19) := ⟨⟨by decide +kernel, by decide +kernel⟩, List.mem_of_getElem? (i := 233) (by decide +kernel), List.mem_of_getElem? (i := 931) (by decide +kernel), List.mem_of_getElem? (i := 932) (by decide +kernel)⟩
theorem lw_p11 : lw_okq (⟨"TongueHouse$Reader", "needKnown", "(LTongueHouse$Names;)Z"⟩, 19) := ⟨⟨by decide +kernel, by decide +kernel⟩, List.mem_of_getElem? (i := 233) (by decide +kernel), List.mem_of_getElem? (i := 935) (by decide +kernel), List.mem_of_getElem? (i := 936) (by decide +kernel)⟩
theorem lw_p12 : lw_okq (⟨"TongueHouse$Reader", "readCost", "()Z"⟩, 19) := ⟨⟨by decide +kernel, by decide +kernel⟩, List.mem_of_getElem? (i := 233) (by decide +kernel), List.mem_of_getElem? (i := 939) (by decide +kernel), List.mem_of_getElem? (i := 940) (by decide +kernel)⟩
theorem lw_p13 : lw_okq (⟨"TongueHouse$Reader", "isWord", "(J)Z"⟩, 19) := ⟨⟨by decide +kernel, by decide +kernel⟩, List.mem_of_getElem? (i := 233) (by decide +kernel), List.mem_of_getElem? (i := 944) (by decide +kernel), List.mem_of_getElem? (i := 945) (by decide +kernel)⟩
theorem lw_p14 : lw_okq (⟨"TongueHouse$Reader", "readMean", "()Z"⟩, 19) := ⟨⟨by decide +kernel, by decide +kernel⟩, List.mem_of_getElem? (i := 233) (by decide +kernel), List.mem_of_getElem? (i := 950) (by decide +kernel), List.mem_of_getElem? (i := 951) (by decide +kernel)⟩
theorem lw_p15 : lw_okq (⟨"TongueHouse$Reader", "readTerm", "(II)Z"⟩, 19) := ⟨⟨by decide +kernel, by decide +kernel⟩, List.mem_of_getElem? (i := 233) (by decide +kernel), List.mem_of_getElem? (i := 954) (by decide +kernel), List.mem_of_getElem? (i := 955) (by decide +kernel)⟩
def lw_privs_1 : List (MethodName × Nat) := [(⟨"TongueHouse$Text", "takeName", "()V"⟩, 10), (⟨"TongueHouse$Text", "takeNumber", "()V"⟩, 10), (⟨"TongueHouse$Text", "takeLetters", "()V"⟩, 10), (⟨"TongueHouse$Reader", "wrong", "(II)Z"⟩, 19), (⟨"TongueHouse$Reader", "readTongue", "()Z"⟩, 19), (⟨"TongueHouse$Reader", "need", "(I)Z"⟩, 19), (⟨"TongueHouse$Reader", "closes", "(Z)Z"⟩, 19), (⟨"TongueHouse$Reader", "take", "(I)Z"⟩, 19), (⟨"TongueHouse$Reader", "readNewName", "(LTongueHouse$Names;)Z"⟩, 19), (⟨"TongueHouse$Reader", "needNew", "(LTongueHouse$Names;)Z"⟩, 19), (⟨"TongueHouse$Reader", "readFun", "()Z"⟩, 19), (⟨"TongueHouse$Reader", "needKnown", "(LTongueHouse$Names;)Z"⟩, 19), (⟨"TongueHouse$Reader", "readCost", "()Z"⟩, 19), (⟨"TongueHouse$Reader", "isWord", "(J)Z"⟩, 19), (⟨"TongueHouse$Reader", "readMean", "()Z"⟩, 19), (⟨"TongueHouse$Reader", "readTerm", "(II)Z"⟩, 19)]
theorem lw_r1 : ∀ q ∈ lw_privs_1, lw_okq q := List.forall_mem_cons.mpr ⟨lw_p0, List.forall_mem_cons.mpr ⟨lw_p1, List.forall_mem_cons.mpr ⟨lw_p2, List.forall_mem_cons.mpr ⟨lw_p3, List.forall_mem_cons.mpr ⟨lw_p4, List.forall_mem_cons.mpr ⟨lw_p5, List.forall_mem_cons.mpr ⟨lw_p6, List.forall_mem_cons.mpr ⟨lw_p7, List.forall_mem_cons.mpr ⟨lw_p8, List.forall_mem_cons.mpr ⟨lw_p9, List.forall_mem_cons.mpr ⟨lw_p10, List.forall_mem_cons.mpr ⟨lw_p11, List.forall_mem_cons.mpr ⟨lw_p12, List.forall_mem_cons.mpr ⟨lw_p13, List.forall_mem_cons.mpr ⟨lw_p14, List.forall_mem_cons.mpr ⟨lw_p15, fun _ h => absurd h List.not_mem_nil⟩⟩⟩⟩⟩⟩⟩⟩⟩⟩⟩⟩⟩⟩⟩⟩
theorem lw_p16 : lw_okq (⟨"TongueHouse$Reader", "readBinder", "(II)Z"⟩, 19) := ⟨⟨by decide +kernel, by decide +kernel⟩, List.mem_of_getElem? (i := 233) (by decide +kernel), List.mem_of_getElem? (i := 958) (by decide +kernel), List.mem_of_getElem? (i := 959) (by decide +kernel)⟩
theorem lw_p17 : lw_okq (⟨"TongueHouse$Reader", "putNode", "(IIJ)V"⟩, 19) := ⟨⟨by decide +kernel, by decide +kernel⟩, List.mem_of_getElem? (i := 233) (by decide +kernel), List.mem_of_getElem? (i := 962) (by decide +kernel), List.mem_of_getElem? (i := 963) (by decide +kernel)⟩
theorem lw_p18 : lw_okq (⟨"TongueHouse$Reader", "readAtom", "(II)Z"⟩, 19) := ⟨⟨by decide +kernel, by decide +kernel⟩, List.mem_of_getElem? (i := 233) (by decide +kernel), List.mem_of_getElem? (i := 966) (by decide +kernel), List.mem_of_getElem? (i := 967) (by decide +kernel)⟩
theorem lw_p19 : lw_okq (⟨"TongueHouse$Reader", "readFact", "()Z"⟩, 19) := ⟨⟨by decide +kernel, by decide +kernel⟩, List.mem_of_getElem? (i := 233) (by decide +kernel), List.mem_of_getElem? (i := 972) (by decide +kernel), List.mem_of_getElem? (i := 973) (by decide +kernel)⟩
theorem lw_p20 : lw_okq (⟨"TongueHouse$Reader", "readFeature", "()Z"⟩, 19) := ⟨⟨by decide +kernel, by decide +kernel⟩, List.mem_of_getElem? (i := 233) (by decide +kernel), List.mem_of_getElem? (i := 986) (by decide +kernel), List.mem_of_getElem? (i := 987) (by decide +kernel)⟩
theorem lw_p21 : lw_okq (⟨"TongueHouse$Reader", "readClass", "()Z"⟩, 19) := ⟨⟨by decide +kernel, by decide +kernel⟩, List.mem_of_getElem? (i := 233) (by decide +kernel), List.mem_of_getElem? (i := 990) (by decide +kernel), List.mem_of_getElem? (i := 991) (by decide +kernel)⟩
theorem lw_p22 : lw_okq (⟨"TongueHouse$Reader", "readSound", "()Z"⟩, 19) := ⟨⟨by decide +kernel, by decide +kernel⟩, List.mem_of_getElem? (i := 233) (by decide +kernel), List.mem_of_getElem? (i := 998) (by decide +kernel), List.mem_of_getElem? (i := 999) (by decide +kernel)⟩
theorem lw_p23 : lw_okq (⟨"TongueHouse$Reader", "readContext", "(I)Z"⟩, 19) := ⟨⟨by decide +kernel, by decide +kernel⟩, List.mem_of_getElem? (i := 233) (by decide +kernel), List.mem_of_getElem? (i := 1003) (by decide +kernel), List.mem_of_getElem? (i := 1004) (by decide +kernel)⟩
theorem lw_p24 : lw_okq (⟨"TongueHouse$Reader", "keepLetters", "()I"⟩, 19) := ⟨⟨by decide +kernel, by decide +kernel⟩, List.mem_of_getElem? (i := 233) (by decide +kernel), List.mem_of_getElem? (i := 1007) (by decide +kernel), List.mem_of_getElem? (i := 1008) (by decide +kernel)⟩
theorem lw_p25 : lw_okq (⟨"TongueHouse$Reader", "readSide", "(II)Z"⟩, 19) := ⟨⟨by decide +kernel, by decide +kernel⟩, List.mem_of_getElem? (i := 233) (by decide +kernel), List.mem_of_getElem? (i := 1015) (by decide +kernel), List.mem_of_getElem? (i := 1016) (by decide +kernel)⟩
theorem lw_p26 : lw_okq (⟨"TongueHouse$Reader", "readPattern", "()Z"⟩, 19) := ⟨⟨by decide +kernel, by decide +kernel⟩, List.mem_of_getElem? (i := 233) (by decide +kernel), List.mem_of_getElem? (i := 1019) (by decide +kernel), List.mem_of_getElem? (i := 1020) (by decide +kernel)⟩
theorem lw_p27 : lw_okq (⟨"TongueHouse$Reader", "readParent", "()Z"⟩, 19) := ⟨⟨by decide +kernel, by decide +kernel⟩, List.mem_of_getElem? (i := 233) (by decide +kernel), List.mem_of_getElem? (i := 1024) (by decide +kernel), List.mem_of_getElem? (i := 1025) (by decide +kernel)⟩
theorem lw_p28 : lw_okq (⟨"TongueHouse$Reader", "readCell", "()Z"⟩, 19) := ⟨⟨by decide +kernel, by decide +kernel⟩, List.mem_of_getElem? (i := 233) (by decide +kernel), List.mem_of_getElem? (i := 1028) (by decide +kernel), List.mem_of_getElem? (i := 1029) (by decide +kernel)⟩
theorem lw_p29 : lw_okq (⟨"TongueHouse$Reader", "readValues", "(Z)Z"⟩, 19) := ⟨⟨by decide +kernel, by decide +kernel⟩, List.mem_of_getElem? (i := 233) (by decide +kernel), List.mem_of_getElem? (i := 1032) (by decide +kernel), List.mem_of_getElem? (i := 1033) (by decide +kernel)⟩
theorem lw_p30 : lw_okq (⟨"TongueHouse$Reader", "readPart", "()Z"⟩, 19) := ⟨⟨by decide +kernel, by decide +kernel⟩, List.mem_of_getElem? (i := 233) (by decide +kernel), List.mem_of_getElem? (i := 1039) (by decide +kernel), List.mem_of_getElem? (i := 1040) (by decide +kernel)⟩
theorem lw_p31 : lw_okq (⟨"TongueHouse$Reader", "placeCell", "()Z"⟩, 19) := ⟨⟨by decide +kernel, by decide +kernel⟩, List.mem_of_getElem? (i := 233) (by decide +kernel), List.mem_of_getElem? (i := 1043) (by decide +kernel), List.mem_of_getElem? (i := 1044) (by decide +kernel)⟩
def lw_privs_2 : List (MethodName × Nat) := [(⟨"TongueHouse$Reader", "readBinder", "(II)Z"⟩, 19), (⟨"TongueHouse$Reader", "putNode", "(IIJ)V"⟩, 19), (⟨"TongueHouse$Reader", "readAtom", "(II)Z"⟩, 19), (⟨"TongueHouse$Reader", "readFact", "()Z"⟩, 19), (⟨"TongueHouse$Reader", "readFeature", "()Z"⟩, 19), (⟨"TongueHouse$Reader", "readClass", "()Z"⟩, 19), (⟨"TongueHouse$Reader", "readSound", "()Z"⟩, 19), (⟨"TongueHouse$Reader", "readContext", "(I)Z"⟩, 19), (⟨"TongueHouse$Reader", "keepLetters", "()I"⟩, 19), (⟨"TongueHouse$Reader", "readSide", "(II)Z"⟩, 19), (⟨"TongueHouse$Reader", "readPattern", "()Z"⟩, 19), (⟨"TongueHouse$Reader", "readParent", "()Z"⟩, 19), (⟨"TongueHouse$Reader", "readCell", "()Z"⟩, 19), (⟨"TongueHouse$Reader", "readValues", "(Z)Z"⟩, 19), (⟨"TongueHouse$Reader", "readPart", "()Z"⟩, 19), (⟨"TongueHouse$Reader", "placeCell", "()Z"⟩, 19)]
theorem lw_r2 : ∀ q ∈ lw_privs_2, lw_okq q := List.forall_mem_cons.mpr ⟨lw_p16, List.forall_mem_cons.mpr ⟨lw_p17, List.forall_mem_cons.mpr ⟨lw_p18, List.forall_mem_cons.mpr ⟨lw_p19, List.forall_mem_cons.mpr ⟨lw_p20, List.forall_mem_cons.mpr ⟨lw_p21, List.forall_mem_cons.mpr ⟨lw_p22, List.forall_mem_cons.mpr ⟨lw_p23, List.forall_mem_cons.mpr ⟨lw_p24, List.forall_mem_cons.mpr ⟨lw_p25, List.forall_mem_cons.mpr ⟨lw_p26, List.forall_mem_cons.mpr ⟨lw_p27, List.forall_mem_cons.mpr ⟨lw_p28, List.forall_mem_cons.mpr ⟨lw_p29, List.forall_mem_cons.mpr ⟨lw_p30, List.forall_mem_cons.mpr ⟨lw_p31, fun _ h => absurd h List.not_mem_nil⟩⟩⟩⟩⟩⟩⟩⟩⟩⟩⟩⟩⟩⟩⟩⟩
theorem lw_p32 : lw_okq (⟨"TongueHouse$Reader", "readWord", "()Z"⟩, 19) := ⟨⟨by decide +kernel, by decide +kernel⟩, List.mem_of_getElem? (i := 233) (by decide +kernel), List.mem_of_getElem? (i := 1050) (by decide +kernel), List.mem_of_getElem? (i := 1051) (by decide +kernel)⟩
theorem lw_p33 : lw_okq (⟨"TongueHouse$Reader", "readStems", "()Z"⟩, 19) := ⟨⟨by decide +kernel, by decide +kernel⟩, List.mem_of_getElem? (i := 233) (by decide +kernel), List.mem_of_getElem? (i := 1054) (by decide +kernel), List.mem_of_getElem? (i := 1055) (by decide +kernel)⟩
theorem lw_p34 : lw_okq (⟨"TongueHouse$Reader", "readHas", "()Z"⟩, 19) := ⟨⟨by decide +kernel, by decide +kernel⟩, List.mem_of_getElem? (i := 233) (by decide +kernel), List.mem_of_getElem? (i := 1058) (by decide +kernel), List.mem_of_getElem? (i := 1059) (by decide +kernel)⟩
theorem lw_p35 : lw_okq (⟨"TongueHouse$Reader", "readLin", "()Z"⟩, 19) := ⟨⟨by decide +kernel, by decide +kernel⟩, List.mem_of_getElem? (i := 233) (by decide +kernel), List.mem_of_getElem? (i := 1063) (by decide +kernel), List.mem_of_getElem? (i := 1064) (by decide +kernel)⟩
theorem lw_p36 : lw_okq (⟨"TongueHouse$Reader", "readItems", "(LTongueHouse$Lin;)Z"⟩, 19) := ⟨⟨by decide +kernel, by decide +kernel⟩, List.mem_of_getElem? (i := 233) (by decide +kernel), List.mem_of_getElem? (i := 1157) (by decide +kernel), List.mem_of_getElem? (i := 1158) (by decide +kernel)⟩
theorem lw_p37 : lw_okq (⟨"TongueHouse$Reader", "readArgument", "(LTongueHouse$Lin;)Z"⟩, 19) := ⟨⟨by decide +kernel, by decide +kernel⟩, List.mem_of_getElem? (i := 233) (by decide +kernel), List.mem_of_getElem? (i := 1161) (by decide +kernel), List.mem_of_getElem? (i := 1162) (by decide +kernel)⟩
theorem lw_p38 : lw_okq (⟨"TongueHouse$Reader", "readSaids", "(LTongueHouse$Lin;)Z"⟩, 19) := ⟨⟨by decide +kernel, by decide +kernel⟩, List.mem_of_getElem? (i := 233) (by decide +kernel), List.mem_of_getElem? (i := 1165) (by decide +kernel), List.mem_of_getElem? (i := 1166) (by decide +kernel)⟩
theorem lw_p39 : lw_okq (⟨"TongueHouse$Reader", "readAgree", "(LTongueHouse$Lin;)Z"⟩, 19) := ⟨⟨by decide +kernel, by decide +kernel⟩, List.mem_of_getElem? (i := 233) (by decide +kernel), List.mem_of_getElem? (i := 1171) (by decide +kernel), List.mem_of_getElem? (i := 1172) (by decide +kernel)⟩
theorem lw_p40 : lw_okq (⟨"TongueHouse$Reader", "needArgument", "(LTongueHouse$Lin;)Z"⟩, 19) := ⟨⟨by decide +kernel, by decide +kernel⟩, List.mem_of_getElem? (i := 233) (by decide +kernel), List.mem_of_getElem? (i := 1175) (by decide +kernel), List.mem_of_getElem? (i := 1176) (by decide +kernel)⟩
theorem lw_p41 : lw_okq (⟨"TongueHouse$Reader", "readGive", "(LTongueHouse$Lin;)Z"⟩, 19) := ⟨⟨by decide +kernel, by decide +kernel⟩, List.mem_of_getElem? (i := 233) (by decide +kernel), List.mem_of_getElem? (i := 1179) (by decide +kernel), List.mem_of_getElem? (i := 1180) (by decide +kernel)⟩
theorem lw_p42 : lw_okq (⟨"TongueHouse$Ranking", "funOf", "(I)I"⟩, 19) := ⟨⟨by decide +kernel, by decide +kernel⟩, List.mem_of_getElem? (i := 385) (by decide +kernel), List.mem_of_getElem? (i := 1211) (by decide +kernel), List.mem_of_getElem? (i := 1212) (by decide +kernel)⟩
theorem lw_p43 : lw_okq (⟨"TongueHouse$Ranking", "slotsOf", "(I)I"⟩, 19) := ⟨⟨by decide +kernel, by decide +kernel⟩, List.mem_of_getElem? (i := 385) (by decide +kernel), List.mem_of_getElem? (i := 1219) (by decide +kernel), List.mem_of_getElem? (i := 1220) (by decide +kernel)⟩
theorem lw_p44 : lw_okq (⟨"TongueHouse$Ranking", "rank", "()V"⟩, 19) := ⟨⟨by decide +kernel, by decide +kernel⟩, List.mem_of_getElem? (i := 385) (by decide +kernel), List.mem_of_getElem? (i := 1238) (by decide +kernel), List.mem_of_getElem? (i := 1239) (by decide +kernel)⟩
theorem lw_p45 : lw_okq (⟨"TongueHouse$Ranking", "reach", "()V"⟩, 19) := ⟨⟨by decide +kernel, by decide +kernel⟩, List.mem_of_getElem? (i := 385) (by decide +kernel), List.mem_of_getElem? (i := 1242) (by decide +kernel), List.mem_of_getElem? (i := 1243) (by decide +kernel)⟩
theorem lw_p46 : lw_okq (⟨"TongueHouse$Ranking", "sortWays", "()V"⟩, 19) := ⟨⟨by decide +kernel, by decide +kernel⟩, List.mem_of_getElem? (i := 385) (by decide +kernel), List.mem_of_getElem? (i := 1246) (by decide +kernel), List.mem_of_getElem? (i := 1247) (by decide +kernel)⟩
theorem lw_p47 : lw_okq (⟨"TongueHouse$Ranking", "merge", "(III)V"⟩, 19) := ⟨⟨by decide +kernel, by decide +kernel⟩, List.mem_of_getElem? (i := 385) (by decide +kernel), List.mem_of_getElem? (i := 1253) (by decide +kernel), List.mem_of_getElem? (i := 1254) (by decide +kernel)⟩
def lw_privs_3 : List (MethodName × Nat) := [(⟨"TongueHouse$Reader", "readWord", "()Z"⟩, 19), (⟨"TongueHouse$Reader", "readStems", "()Z"⟩, 19), (⟨"TongueHouse$Reader", "readHas", "()Z"⟩, 19), (⟨"TongueHouse$Reader", "readLin", "()Z"⟩, 19), (⟨"TongueHouse$Reader", "readItems", "(LTongueHouse$Lin;)Z"⟩, 19), (⟨"TongueHouse$Reader", "readArgument", "(LTongueHouse$Lin;)Z"⟩, 19), (⟨"TongueHouse$Reader", "readSaids", "(LTongueHouse$Lin;)Z"⟩, 19), (⟨"TongueHouse$Reader", "readAgree", "(LTongueHouse$Lin;)Z"⟩, 19), (⟨"TongueHouse$Reader", "needArgument", "(LTongueHouse$Lin;)Z"⟩, 19), (⟨"TongueHouse$Reader", "readGive", "(LTongueHouse$Lin;)Z"⟩, 19), (⟨"TongueHouse$Ranking", "funOf", "(I)I"⟩, 19), (⟨"TongueHouse$Ranking", "slotsOf", "(I)I"⟩, 19), (⟨"TongueHouse$Ranking", "rank", "()V"⟩, 19), (⟨"TongueHouse$Ranking", "reach", "()V"⟩, 19), (⟨"TongueHouse$Ranking", "sortWays", "()V"⟩, 19), (⟨"TongueHouse$Ranking", "merge", "(III)V"⟩, 19)]
theorem lw_r3 : ∀ q ∈ lw_privs_3, lw_okq q := List.forall_mem_cons.mpr ⟨lw_p32, List.forall_mem_cons.mpr ⟨lw_p33, List.forall_mem_cons.mpr ⟨lw_p34, List.forall_mem_cons.mpr ⟨lw_p35, List.forall_mem_cons.mpr ⟨lw_p36, List.forall_mem_cons.mpr ⟨lw_p37, List.forall_mem_cons.mpr ⟨lw_p38, List.forall_mem_cons.mpr ⟨lw_p39, List.forall_mem_cons.mpr ⟨lw_p40, List.forall_mem_cons.mpr ⟨lw_p41, List.forall_mem_cons.mpr ⟨lw_p42, List.forall_mem_cons.mpr ⟨lw_p43, List.forall_mem_cons.mpr ⟨lw_p44, List.forall_mem_cons.mpr ⟨lw_p45, List.forall_mem_cons.mpr ⟨lw_p46, List.forall_mem_cons.mpr ⟨lw_p47, fun _ h => absurd h List.not_mem_nil⟩⟩⟩⟩⟩⟩⟩⟩⟩⟩⟩⟩⟩⟩⟩⟩
theorem lw_p48 : lw_okq (⟨"TongueHouse$Ranking", "compare", "(II)I"⟩, 19) := ⟨⟨by decide +kernel, by decide +kernel⟩, List.mem_of_getElem? (i := 385) (by decide +kernel), List.mem_of_getElem? (i := 1257) (by decide +kernel), List.mem_of_getElem? (i := 1258) (by decide +kernel)⟩
theorem lw_p49 : lw_okq (⟨"TongueHouse$Ranking", "compareArguments", "(III)I"⟩, 19) := ⟨⟨by decide +kernel, by decide +kernel⟩, List.mem_of_getElem? (i := 385) (by decide +kernel), List.mem_of_getElem? (i := 1261) (by decide +kernel), List.mem_of_getElem? (i := 1262) (by decide +kernel)⟩
theorem lw_p50 : lw_okq (⟨"TongueHouse$Ranking", "ownPrice", "(I)I"⟩, 19) := ⟨⟨by decide +kernel, by decide +kernel⟩, List.mem_of_getElem? (i := 385) (by decide +kernel), List.mem_of_getElem? (i := 1265) (by decide +kernel), List.mem_of_getElem? (i := 1266) (by decide +kernel)⟩
theorem lw_p51 : lw_okq (⟨"TongueHouse$Ranking", "choose", "(IIIII)V"⟩, 19) := ⟨⟨by decide +kernel, by decide +kernel⟩, List.mem_of_getElem? (i := 385) (by decide +kernel), List.mem_of_getElem? (i := 1273) (by decide +kernel), List.mem_of_getElem? (i := 1274) (by decide +kernel)⟩
theorem lw_p52 : lw_okq (⟨"TongueHouse$Ranking", "putList", "(III)V"⟩, 19) := ⟨⟨by decide +kernel, by decide +kernel⟩, List.mem_of_getElem? (i := 385) (by decide +kernel), List.mem_of_getElem? (i := 1277) (by decide +kernel), List.mem_of_getElem? (i := 1278) (by decide +kernel)⟩
theorem lw_p53 : lw_okq (⟨"TongueHouse$Ranking", "putTop", "(I)V"⟩, 19) := ⟨⟨by decide +kernel, by decide +kernel⟩, List.mem_of_getElem? (i := 385) (by decide +kernel), List.mem_of_getElem? (i := 1281) (by decide +kernel), List.mem_of_getElem? (i := 1282) (by decide +kernel)⟩
theorem lw_p54 : lw_okq (⟨"TongueHouse$Ranking", "comesBefore", "(II)Z"⟩, 19) := ⟨⟨by decide +kernel, by decide +kernel⟩, List.mem_of_getElem? (i := 385) (by decide +kernel), List.mem_of_getElem? (i := 1285) (by decide +kernel), List.mem_of_getElem? (i := 1286) (by decide +kernel)⟩
theorem lw_p55 : lw_okq (⟨"java/lang/Throwable", "fillInStackTrace", "(I)Ljava/lang/Throwable;"⟩, 6) := ⟨⟨by decide +kernel, by decide +kernel⟩, List.mem_of_getElem? (i := 1346) (by decide +kernel), List.mem_of_getElem? (i := 1344) (by decide +kernel), List.mem_of_getElem? (i := 1345) (by decide +kernel)⟩
theorem lw_p56 : lw_okq (⟨"TongueHouse", "tongueAt", "(I)LTongueHouse$Tongue;"⟩, 17) := ⟨⟨by decide +kernel, by decide +kernel⟩, List.mem_of_getElem? (i := 29) (by decide +kernel), List.mem_of_getElem? (i := 1411) (by decide +kernel), List.mem_of_getElem? (i := 1412) (by decide +kernel)⟩
theorem lw_p57 : lw_okq (⟨"TongueHouse$Forms", "soundAll", "(LTongueHouse$Tongue;I)I"⟩, 10) := ⟨⟨by decide +kernel, by decide +kernel⟩, List.mem_of_getElem? (i := 780) (by decide +kernel), List.mem_of_getElem? (i := 1442) (by decide +kernel), List.mem_of_getElem? (i := 1443) (by decide +kernel)⟩
theorem lw_p58 : lw_okq (⟨"TongueHouse$Forms", "soundOnce", "(LTongueHouse$Tongue;II)I"⟩, 10) := ⟨⟨by decide +kernel, by decide +kernel⟩, List.mem_of_getElem? (i := 780) (by decide +kernel), List.mem_of_getElem? (i := 1446) (by decide +kernel), List.mem_of_getElem? (i := 1447) (by decide +kernel)⟩
theorem lw_p59 : lw_okq (⟨"TongueHouse$Forms", "fitsAt", "(LTongueHouse$Tongue;I[BII)I"⟩, 10) := ⟨⟨by decide +kernel, by decide +kernel⟩, List.mem_of_getElem? (i := 780) (by decide +kernel), List.mem_of_getElem? (i := 1450) (by decide +kernel), List.mem_of_getElem? (i := 1451) (by decide +kernel)⟩
theorem lw_p60 : lw_okq (⟨"TongueHouse$Forms", "leftFits", "(LTongueHouse$Tongue;II)Z"⟩, 10) := ⟨⟨by decide +kernel, by decide +kernel⟩, List.mem_of_getElem? (i := 780) (by decide +kernel), List.mem_of_getElem? (i := 1454) (by decide +kernel), List.mem_of_getElem? (i := 1455) (by decide +kernel)⟩
theorem lw_p61 : lw_okq (⟨"TongueHouse$Forms", "rightFits", "(LTongueHouse$Tongue;III)Z"⟩, 10) := ⟨⟨by decide +kernel, by decide +kernel⟩, List.mem_of_getElem? (i := 780) (by decide +kernel), List.mem_of_getElem? (i := 1458) (by decide +kernel), List.mem_of_getElem? (i := 1459) (by decide +kernel)⟩
theorem lw_p62 : lw_okq (⟨"TongueHouse$Forms", "join", "(LTongueHouse$Tongue;II)I"⟩, 10) := ⟨⟨by decide +kernel, by decide +kernel⟩, List.mem_of_getElem? (i := 780) (by decide +kernel), List.mem_of_getElem? (i := 1481) (by decide +kernel), List.mem_of_getElem? (i := 1482) (by decide +kernel)⟩
theorem lw_p63 : lw_okq (⟨"TongueHouse$Finder", "countEndings", "(LTongueHouse$Tongue;LTongueHouse$Text;I)V"⟩, 19) := ⟨⟨by decide +kernel, by decide +kernel⟩, List.mem_of_getElem? (i := 564) (by decide +kernel), List.mem_of_getElem? (i := 1543) (by decide +kernel), List.mem_of_getElem? (i := 1544) (by decide +kernel)⟩
def lw_privs_4 : List (MethodName × Nat) := [(⟨"TongueHouse$Ranking", "compare", "(II)I"⟩, 19), (⟨"TongueHouse$Ranking", "compareArguments", "(III)I"⟩, 19), (⟨"TongueHouse$Ranking", "ownPrice", "(I)I"⟩, 19), (⟨"TongueHouse$Ranking", "choose", "(IIIII)V"⟩, 19), (⟨"TongueHouse$Ranking", "putList", "(III)V"⟩, 19), (⟨"TongueHouse$Ranking", "putTop", "(I)V"⟩, 19), (⟨"TongueHouse$Ranking", "comesBefore", "(II)Z"⟩, 19), (⟨"java/lang/Throwable", "fillInStackTrace", "(I)Ljava/lang/Throwable;"⟩, 6), (⟨"TongueHouse", "tongueAt", "(I)LTongueHouse$Tongue;"⟩, 17), (⟨"TongueHouse$Forms", "soundAll", "(LTongueHouse$Tongue;I)I"⟩, 10), (⟨"TongueHouse$Forms", "soundOnce", "(LTongueHouse$Tongue;II)I"⟩, 10), (⟨"TongueHouse$Forms", "fitsAt", "(LTongueHouse$Tongue;I[BII)I"⟩, 10), (⟨"TongueHouse$Forms", "leftFits", "(LTongueHouse$Tongue;II)Z"⟩, 10), (⟨"TongueHouse$Forms", "rightFits", "(LTongueHouse$Tongue;III)Z"⟩, 10), (⟨"TongueHouse$Forms", "join", "(LTongueHouse$Tongue;II)I"⟩, 10), (⟨"TongueHouse$Finder", "countEndings", "(LTongueHouse$Tongue;LTongueHouse$Text;I)V"⟩, 19)]
theorem lw_r4 : ∀ q ∈ lw_privs_4, lw_okq q := List.forall_mem_cons.mpr ⟨lw_p48, List.forall_mem_cons.mpr ⟨lw_p49, List.forall_mem_cons.mpr ⟨lw_p50, List.forall_mem_cons.mpr ⟨lw_p51, List.forall_mem_cons.mpr ⟨lw_p52, List.forall_mem_cons.mpr ⟨lw_p53, List.forall_mem_cons.mpr ⟨lw_p54, List.forall_mem_cons.mpr ⟨lw_p55, List.forall_mem_cons.mpr ⟨lw_p56, List.forall_mem_cons.mpr ⟨lw_p57, List.forall_mem_cons.mpr ⟨lw_p58, List.forall_mem_cons.mpr ⟨lw_p59, List.forall_mem_cons.mpr ⟨lw_p60, List.forall_mem_cons.mpr ⟨lw_p61, List.forall_mem_cons.mpr ⟨lw_p62, List.forall_mem_cons.mpr ⟨lw_p63, fun _ h => absurd h List.not_mem_nil⟩⟩⟩⟩⟩⟩⟩⟩⟩⟩⟩⟩⟩⟩⟩⟩
theorem lw_p64 : lw_okq (⟨"TongueHouse", "checkKind", "(I)V"⟩, 17) := ⟨⟨by decide +kernel, by decide +kernel⟩, List.mem_of_getElem? (i := 29) (by decide +kernel), List.mem_of_getElem? (i := 1569) (by decide +kernel), List.mem_of_getElem? (i := 1570) (by decide +kernel)⟩
theorem lw_p65 : lw_okq (⟨"TongueHouse", "parseTape", "(LTongueHouse$Tongue;I)I"⟩, 17) := ⟨⟨by decide +kernel, by decide +kernel⟩, List.mem_of_getElem? (i := 29) (by decide +kernel), List.mem_of_getElem? (i := 1574) (by decide +kernel), List.mem_of_getElem? (i := 1575) (by decide +kernel)⟩
theorem lw_p66 : lw_okq (⟨"TongueHouse$Chart", "orderLins", "()V"⟩, 22) := ⟨⟨by decide +kernel, by decide +kernel⟩, List.mem_of_getElem? (i := 299) (by decide +kernel), List.mem_of_getElem? (i := 1599) (by decide +kernel), List.mem_of_getElem? (i := 1600) (by decide +kernel)⟩
theorem lw_p67 : lw_okq (⟨"TongueHouse$Chart", "fillSpan", "(IIII)V"⟩, 22) := ⟨⟨by decide +kernel, by decide +kernel⟩, List.mem_of_getElem? (i := 299) (by decide +kernel), List.mem_of_getElem? (i := 1604) (by decide +kernel), List.mem_of_getElem? (i := 1605) (by decide +kernel)⟩
theorem lw_p68 : lw_okq (⟨"TongueHouse$Chart", "layForms", "(II)V"⟩, 22) := ⟨⟨by decide +kernel, by decide +kernel⟩, List.mem_of_getElem? (i := 299) (by decide +kernel), List.mem_of_getElem? (i := 1608) (by decide +kernel), List.mem_of_getElem? (i := 1609) (by decide +kernel)⟩
theorem lw_p69 : lw_okq (⟨"TongueHouse$Chart", "putWay", "(III)V"⟩, 22) := ⟨⟨by decide +kernel, by decide +kernel⟩, List.mem_of_getElem? (i := 299) (by decide +kernel), List.mem_of_getElem? (i := 1614) (by decide +kernel), List.mem_of_getElem? (i := 1615) (by decide +kernel)⟩
theorem lw_p70 : lw_okq (⟨"TongueHouse$Chart", "lay", "(LTongueHouse$Lin;III)V"⟩, 22) := ⟨⟨by decide +kernel, by decide +kernel⟩, List.mem_of_getElem? (i := 299) (by decide +kernel), List.mem_of_getElem? (i := 1619) (by decide +kernel), List.mem_of_getElem? (i := 1620) (by decide +kernel)⟩
theorem lw_p71 : lw_okq (⟨"TongueHouse$Chart", "isAt", "(III)Z"⟩, 22) := ⟨⟨by decide +kernel, by decide +kernel⟩, List.mem_of_getElem? (i := 299) (by decide +kernel), List.mem_of_getElem? (i := 1627) (by decide +kernel), List.mem_of_getElem? (i := 1628) (by decide +kernel)⟩
theorem lw_p72 : lw_okq (⟨"TongueHouse$Reader", "kindWanted", "(I)I"⟩, 19) := ⟨⟨by decide +kernel, by decide +kernel⟩, List.mem_of_getElem? (i := 233) (by decide +kernel), List.mem_of_getElem? (i := 1681) (by decide +kernel), List.mem_of_getElem? (i := 1682) (by decide +kernel)⟩
theorem lw_p73 : lw_okq (⟨"TongueHouse$Reader", "closeArguments", "(I)I"⟩, 19) := ⟨⟨by decide +kernel, by decide +kernel⟩, List.mem_of_getElem? (i := 233) (by decide +kernel), List.mem_of_getElem? (i := 1685) (by decide +kernel), List.mem_of_getElem? (i := 1686) (by decide +kernel)⟩
theorem lw_p74 : lw_okq (⟨"TongueHouse$Sayer", "pickWords", "(I)V"⟩, 14) := ⟨⟨by decide +kernel, by decide +kernel⟩, List.mem_of_getElem? (i := 451) (by decide +kernel), List.mem_of_getElem? (i := 1727) (by decide +kernel), List.mem_of_getElem? (i := 1728) (by decide +kernel)⟩
theorem lw_p75 : lw_okq (⟨"TongueHouse$Sayer", "putOption", "(IIIII)V"⟩, 14) := ⟨⟨by decide +kernel, by decide +kernel⟩, List.mem_of_getElem? (i := 451) (by decide +kernel), List.mem_of_getElem? (i := 1735) (by decide +kernel), List.mem_of_getElem? (i := 1736) (by decide +kernel)⟩
theorem lw_p76 : lw_okq (⟨"TongueHouse$Sayer", "pickLins", "(I)V"⟩, 14) := ⟨⟨by decide +kernel, by decide +kernel⟩, List.mem_of_getElem? (i := 451) (by decide +kernel), List.mem_of_getElem? (i := 1739) (by decide +kernel), List.mem_of_getElem? (i := 1740) (by decide +kernel)⟩
theorem lw_p77 : lw_okq (⟨"TongueHouse$Sayer", "pick", "(LTongueHouse$Lin;IIII)V"⟩, 14) := ⟨⟨by decide +kernel, by decide +kernel⟩, List.mem_of_getElem? (i := 451) (by decide +kernel), List.mem_of_getElem? (i := 1743) (by decide +kernel), List.mem_of_getElem? (i := 1744) (by decide +kernel)⟩
theorem lw_p78 : lw_okq (⟨"TongueHouse", "meaningOf", "(I)I"⟩, 17) := ⟨⟨by decide +kernel, by decide +kernel⟩, List.mem_of_getElem? (i := 29) (by decide +kernel), List.mem_of_getElem? (i := 1770) (by decide +kernel), List.mem_of_getElem? (i := 1771) (by decide +kernel)⟩
theorem lw_p79 : lw_okq (⟨"TongueHouse$Thought", "putTogether", "([II)Z"⟩, 19) := ⟨⟨by decide +kernel, by decide +kernel⟩, List.mem_of_getElem? (i := 500) (by decide +kernel), List.mem_of_getElem? (i := 1778) (by decide +kernel), List.mem_of_getElem? (i := 1779) (by decide +kernel)⟩
def lw_privs_5 : List (MethodName × Nat) := [(⟨"TongueHouse", "checkKind", "(I)V"⟩, 17), (⟨"TongueHouse", "parseTape", "(LTongueHouse$Tongue;I)I"⟩, 17), (⟨"TongueHouse$Chart", "orderLins", "()V"⟩, 22), (⟨"TongueHouse$Chart", "fillSpan", "(IIII)V"⟩, 22), (⟨"TongueHouse$Chart", "layForms", "(II)V"⟩, 22), (⟨"TongueHouse$Chart", "putWay", "(III)V"⟩, 22), (⟨"TongueHouse$Chart", "lay", "(LTongueHouse$Lin;III)V"⟩, 22), (⟨"TongueHouse$Chart", "isAt", "(III)Z"⟩, 22), (⟨"TongueHouse$Reader", "kindWanted", "(I)I"⟩, 19), (⟨"TongueHouse$Reader", "closeArguments", "(I)I"⟩, 19), (⟨"TongueHouse$Sayer", "pickWords", "(I)V"⟩, 14), (⟨"TongueHouse$Sayer", "putOption", "(IIIII)V"⟩, 14), (⟨"TongueHouse$Sayer", "pickLins", "(I)V"⟩, 14), (⟨"TongueHouse$Sayer", "pick", "(LTongueHouse$Lin;IIII)V"⟩, 14), (⟨"TongueHouse", "meaningOf", "(I)I"⟩, 17), (⟨"TongueHouse$Thought", "putTogether", "([II)Z"⟩, 19)]
theorem lw_r5 : ∀ q ∈ lw_privs_5, lw_okq q := List.forall_mem_cons.mpr ⟨lw_p64, List.forall_mem_cons.mpr ⟨lw_p65, List.forall_mem_cons.mpr ⟨lw_p66, List.forall_mem_cons.mpr ⟨lw_p67, List.forall_mem_cons.mpr ⟨lw_p68, List.forall_mem_cons.mpr ⟨lw_p69, List.forall_mem_cons.mpr ⟨lw_p70, List.forall_mem_cons.mpr ⟨lw_p71, List.forall_mem_cons.mpr ⟨lw_p72, List.forall_mem_cons.mpr ⟨lw_p73, List.forall_mem_cons.mpr ⟨lw_p74, List.forall_mem_cons.mpr ⟨lw_p75, List.forall_mem_cons.mpr ⟨lw_p76, List.forall_mem_cons.mpr ⟨lw_p77, List.forall_mem_cons.mpr ⟨lw_p78, List.forall_mem_cons.mpr ⟨lw_p79, fun _ h => absurd h List.not_mem_nil⟩⟩⟩⟩⟩⟩⟩⟩⟩⟩⟩⟩⟩⟩⟩⟩
theorem lw_p80 : lw_okq (⟨"TongueHouse$Thought", "reduce", "()Z"⟩, 19) := ⟨⟨by decide +kernel, by decide +kernel⟩, List.mem_of_getElem? (i := 500) (by decide +kernel), List.mem_of_getElem? (i := 1784) (by decide +kernel), List.mem_of_getElem? (i := 1785) (by decide +kernel)⟩
theorem lw_p81 : lw_okq (⟨"TongueHouse$Thought", "contract", "(I)Z"⟩, 19) := ⟨⟨by decide +kernel, by decide +kernel⟩, List.mem_of_getElem? (i := 500) (by decide +kernel), List.mem_of_getElem? (i := 1788) (by decide +kernel), List.mem_of_getElem? (i := 1789) (by decide +kernel)⟩
theorem lw_p82 : lw_okq (⟨"TongueHouse$Thought", "endOf", "(I)I"⟩, 19) := ⟨⟨by decide +kernel, by decide +kernel⟩, List.mem_of_getElem? (i := 500) (by decide +kernel), List.mem_of_getElem? (i := 1792) (by decide +kernel), List.mem_of_getElem? (i := 1793) (by decide +kernel)⟩
theorem lw_p83 : lw_okq (⟨"TongueHouse$Thought", "paste", "(IIII)I"⟩, 19) := ⟨⟨by decide +kernel, by decide +kernel⟩, List.mem_of_getElem? (i := 500) (by decide +kernel), List.mem_of_getElem? (i := 1797) (by decide +kernel), List.mem_of_getElem? (i := 1798) (by decide +kernel)⟩
theorem lw_p84 : lw_okq (⟨"TongueHouse$Thought", "takeRest", "(II)Z"⟩, 19) := ⟨⟨by decide +kernel, by decide +kernel⟩, List.mem_of_getElem? (i := 500) (by decide +kernel), List.mem_of_getElem? (i := 1801) (by decide +kernel), List.mem_of_getElem? (i := 1802) (by decide +kernel)⟩
theorem lw_p85 : lw_okq (⟨"TongueHouse$Thought", "tellLeaf", "(IILTongueHouse$Text;)V"⟩, 19) := ⟨⟨by decide +kernel, by decide +kernel⟩, List.mem_of_getElem? (i := 500) (by decide +kernel), List.mem_of_getElem? (i := 1815) (by decide +kernel), List.mem_of_getElem? (i := 1816) (by decide +kernel)⟩
theorem lw_p86 : lw_okq (⟨"TongueHouse$Thought", "goOn", "(I)I"⟩, 19) := ⟨⟨by decide +kernel, by decide +kernel⟩, List.mem_of_getElem? (i := 500) (by decide +kernel), List.mem_of_getElem? (i := 1831) (by decide +kernel), List.mem_of_getElem? (i := 1832) (by decide +kernel)⟩
theorem lw_p87 : lw_okq (⟨"TongueHouse$Thought", "lookAt", "()I"⟩, 19) := ⟨⟨by decide +kernel, by decide +kernel⟩, List.mem_of_getElem? (i := 500) (by decide +kernel), List.mem_of_getElem? (i := 1840) (by decide +kernel), List.mem_of_getElem? (i := 1841) (by decide +kernel)⟩
theorem lw_p88 : lw_okq (⟨"TongueHouse$Thought", "stray", "()I"⟩, 19) := ⟨⟨by decide +kernel, by decide +kernel⟩, List.mem_of_getElem? (i := 500) (by decide +kernel), List.mem_of_getElem? (i := 1844) (by decide +kernel), List.mem_of_getElem? (i := 1845) (by decide +kernel)⟩
theorem lw_p89 : lw_okq (⟨"TongueHouse$Thought", "openUp", "(JII)I"⟩, 19) := ⟨⟨by decide +kernel, by decide +kernel⟩, List.mem_of_getElem? (i := 500) (by decide +kernel), List.mem_of_getElem? (i := 1849) (by decide +kernel), List.mem_of_getElem? (i := 1850) (by decide +kernel)⟩
theorem lw_p90 : lw_okq (⟨"TongueHouse$Thought", "openAll", "(JI)I"⟩, 19) := ⟨⟨by decide +kernel, by decide +kernel⟩, List.mem_of_getElem? (i := 500) (by decide +kernel), List.mem_of_getElem? (i := 1853) (by decide +kernel), List.mem_of_getElem? (i := 1854) (by decide +kernel)⟩
theorem lw_p91 : lw_okq (⟨"TongueHouse$Thought", "thingAt", "(I)I"⟩, 19) := ⟨⟨by decide +kernel, by decide +kernel⟩, List.mem_of_getElem? (i := 500) (by decide +kernel), List.mem_of_getElem? (i := 1857) (by decide +kernel), List.mem_of_getElem? (i := 1858) (by decide +kernel)⟩
theorem lw_p92 : lw_okq (⟨"TongueHouse", "noteCandidate", "()V"⟩, 17) := ⟨⟨by decide +kernel, by decide +kernel⟩, List.mem_of_getElem? (i := 29) (by decide +kernel), List.mem_of_getElem? (i := 1871) (by decide +kernel), List.mem_of_getElem? (i := 1872) (by decide +kernel)⟩
theorem lw_p93 : lw_okq (⟨"TongueHouse$Finder", "readQuestion", "(LTongueHouse$Text;)Z"⟩, 19) := ⟨⟨by decide +kernel, by decide +kernel⟩, List.mem_of_getElem? (i := 564) (by decide +kernel), List.mem_of_getElem? (i := 1918) (by decide +kernel), List.mem_of_getElem? (i := 1919) (by decide +kernel)⟩
theorem lw_p94 : lw_okq (⟨"TongueHouse$Finder", "searchWords", "(ILTongueHouse$Tongue;LTongueHouse$Text;)V"⟩, 19) := ⟨⟨by decide +kernel, by decide +kernel⟩, List.mem_of_getElem? (i := 564) (by decide +kernel), List.mem_of_getElem? (i := 1928) (by decide +kernel), List.mem_of_getElem? (i := 1929) (by decide +kernel)⟩
theorem lw_p95 : lw_okq (⟨"TongueHouse$Finder", "kindsOf", "(LTongueHouse$Tongue;I)I"⟩, 19) := ⟨⟨by decide +kernel, by decide +kernel⟩, List.mem_of_getElem? (i := 564) (by decide +kernel), List.mem_of_getElem? (i := 1932) (by decide +kernel), List.mem_of_getElem? (i := 1933) (by decide +kernel)⟩
def lw_privs_6 : List (MethodName × Nat) := [(⟨"TongueHouse$Thought", "reduce", "()Z"⟩, 19), (⟨"TongueHouse$Thought", "contract", "(I)Z"⟩, 19), (⟨"TongueHouse$Thought", "endOf", "(I)I"⟩, 19), (⟨"TongueHouse$Thought", "paste", "(IIII)I"⟩, 19), (⟨"TongueHouse$Thought", "takeRest", "(II)Z"⟩, 19), (⟨"TongueHouse$Thought", "tellLeaf", "(IILTongueHouse$Text;)V"⟩, 19), (⟨"TongueHouse$Thought", "goOn", "(I)I"⟩, 19), (⟨"TongueHouse$Thought", "lookAt", "()I"⟩, 19), (⟨"TongueHouse$Thought", "stray", "()I"⟩, 19), (⟨"TongueHouse$Thought", "openUp", "(JII)I"⟩, 19), (⟨"TongueHouse$Thought", "openAll", "(JI)I"⟩, 19), (⟨"TongueHouse$Thought", "thingAt", "(I)I"⟩, 19), (⟨"TongueHouse", "noteCandidate", "()V"⟩, 17), (⟨"TongueHouse$Finder", "readQuestion", "(LTongueHouse$Text;)Z"⟩, 19), (⟨"TongueHouse$Finder", "searchWords", "(ILTongueHouse$Tongue;LTongueHouse$Text;)V"⟩, 19), (⟨"TongueHouse$Finder", "kindsOf", "(LTongueHouse$Tongue;I)I"⟩, 19)]
theorem lw_r6 : ∀ q ∈ lw_privs_6, lw_okq q := List.forall_mem_cons.mpr ⟨lw_p80, List.forall_mem_cons.mpr ⟨lw_p81, List.forall_mem_cons.mpr ⟨lw_p82, List.forall_mem_cons.mpr ⟨lw_p83, List.forall_mem_cons.mpr ⟨lw_p84, List.forall_mem_cons.mpr ⟨lw_p85, List.forall_mem_cons.mpr ⟨lw_p86, List.forall_mem_cons.mpr ⟨lw_p87, List.forall_mem_cons.mpr ⟨lw_p88, List.forall_mem_cons.mpr ⟨lw_p89, List.forall_mem_cons.mpr ⟨lw_p90, List.forall_mem_cons.mpr ⟨lw_p91, List.forall_mem_cons.mpr ⟨lw_p92, List.forall_mem_cons.mpr ⟨lw_p93, List.forall_mem_cons.mpr ⟨lw_p94, List.forall_mem_cons.mpr ⟨lw_p95, fun _ h => absurd h List.not_mem_nil⟩⟩⟩⟩⟩⟩⟩⟩⟩⟩⟩⟩⟩⟩⟩⟩
theorem lw_p96 : lw_okq (⟨"TongueHouse$Finder", "fitsAt", "(IILTongueHouse$Text;)Z"⟩, 19) := ⟨⟨by decide +kernel, by decide +kernel⟩, List.mem_of_getElem? (i := 564) (by decide +kernel), List.mem_of_getElem? (i := 1936) (by decide +kernel), List.mem_of_getElem? (i := 1937) (by decide +kernel)⟩
theorem lw_p97 : lw_okq (⟨"TongueHouse", "listChanges", "(LTongueHouse$Tongue;)I"⟩, 17) := ⟨⟨by decide +kernel, by decide +kernel⟩, List.mem_of_getElem? (i := 29) (by decide +kernel), List.mem_of_getElem? (i := 1967) (by decide +kernel), List.mem_of_getElem? (i := 1968) (by decide +kernel)⟩
theorem lw_p98 : lw_okq (⟨"TongueHouse", "writeChange", "(LTongueHouse$Tongue;I)V"⟩, 17) := ⟨⟨by decide +kernel, by decide +kernel⟩, List.mem_of_getElem? (i := 29) (by decide +kernel), List.mem_of_getElem? (i := 1979) (by decide +kernel), List.mem_of_getElem? (i := 1980) (by decide +kernel)⟩
theorem lw_p99 : lw_okq (⟨"TongueHouseModel", "bad", "()I"⟩, 229) := ⟨⟨by decide +kernel, by decide +kernel⟩, List.mem_of_getElem? (i := 2004) (by decide +kernel), List.mem_of_getElem? (i := 2782) (by decide +kernel), List.mem_of_getElem? (i := 2783) (by decide +kernel)⟩
theorem lw_p100 : lw_okq (⟨"TongueHouseModel", "four", "(I)V"⟩, 229) := ⟨⟨by decide +kernel, by decide +kernel⟩, List.mem_of_getElem? (i := 2004) (by decide +kernel), List.mem_of_getElem? (i := 2786) (by decide +kernel), List.mem_of_getElem? (i := 2787) (by decide +kernel)⟩
theorem lw_p101 : lw_okq (⟨"TongueHouseModel", "reads", "()V"⟩, 229) := ⟨⟨by decide +kernel, by decide +kernel⟩, List.mem_of_getElem? (i := 2004) (by decide +kernel), List.mem_of_getElem? (i := 2802) (by decide +kernel), List.mem_of_getElem? (i := 2803) (by decide +kernel)⟩
theorem lw_p102 : lw_okq (⟨"TongueHouseModel", "remember", "()V"⟩, 229) := ⟨⟨by decide +kernel, by decide +kernel⟩, List.mem_of_getElem? (i := 2004) (by decide +kernel), List.mem_of_getElem? (i := 2806) (by decide +kernel), List.mem_of_getElem? (i := 2807) (by decide +kernel)⟩
theorem lw_p103 : lw_okq (⟨"TongueHouseModel", "next", "()V"⟩, 229) := ⟨⟨by decide +kernel, by decide +kernel⟩, List.mem_of_getElem? (i := 2004) (by decide +kernel), List.mem_of_getElem? (i := 2810) (by decide +kernel), List.mem_of_getElem? (i := 2811) (by decide +kernel)⟩
theorem lw_p104 : lw_okq (⟨"TongueHouseModel", "low", "(I)Z"⟩, 229) := ⟨⟨by decide +kernel, by decide +kernel⟩, List.mem_of_getElem? (i := 2004) (by decide +kernel), List.mem_of_getElem? (i := 2814) (by decide +kernel), List.mem_of_getElem? (i := 2815) (by decide +kernel)⟩
theorem lw_p105 : lw_okq (⟨"TongueHouseModel", "dig", "(I)Z"⟩, 229) := ⟨⟨by decide +kernel, by decide +kernel⟩, List.mem_of_getElem? (i := 2004) (by decide +kernel), List.mem_of_getElem? (i := 2818) (by decide +kernel), List.mem_of_getElem? (i := 2819) (by decide +kernel)⟩
theorem lw_p106 : lw_okq (⟨"TongueHouseModel", "statement", "()Z"⟩, 229) := ⟨⟨by decide +kernel, by decide +kernel⟩, List.mem_of_getElem? (i := 2004) (by decide +kernel), List.mem_of_getElem? (i := 2878) (by decide +kernel), List.mem_of_getElem? (i := 2879) (by decide +kernel)⟩
theorem lw_p107 : lw_okq (⟨"TongueHouseModel", "no", "(I)Z"⟩, 229) := ⟨⟨by decide +kernel, by decide +kernel⟩, List.mem_of_getElem? (i := 2004) (by decide +kernel), List.mem_of_getElem? (i := 2882) (by decide +kernel), List.mem_of_getElem? (i := 2883) (by decide +kernel)⟩
theorem lw_p108 : lw_okq (⟨"TongueHouseModel", "no", "(II)Z"⟩, 229) := ⟨⟨by decide +kernel, by decide +kernel⟩, List.mem_of_getElem? (i := 2004) (by decide +kernel), List.mem_of_getElem? (i := 2886) (by decide +kernel), List.mem_of_getElem? (i := 2887) (by decide +kernel)⟩
theorem lw_p109 : lw_okq (⟨"TongueHouseModel", "tongue", "()Z"⟩, 229) := ⟨⟨by decide +kernel, by decide +kernel⟩, List.mem_of_getElem? (i := 2004) (by decide +kernel), List.mem_of_getElem? (i := 2890) (by decide +kernel), List.mem_of_getElem? (i := 2891) (by decide +kernel)⟩
theorem lw_p110 : lw_okq (⟨"TongueHouseModel", "name", "()Z"⟩, 229) := ⟨⟨by decide +kernel, by decide +kernel⟩, List.mem_of_getElem? (i := 2004) (by decide +kernel), List.mem_of_getElem? (i := 2894) (by decide +kernel), List.mem_of_getElem? (i := 2895) (by decide +kernel)⟩
theorem lw_p111 : lw_okq (⟨"TongueHouseModel", "done", "(Z)Z"⟩, 229) := ⟨⟨by decide +kernel, by decide +kernel⟩, List.mem_of_getElem? (i := 2004) (by decide +kernel), List.mem_of_getElem? (i := 2901) (by decide +kernel), List.mem_of_getElem? (i := 2902) (by decide +kernel)⟩
def lw_privs_7 : List (MethodName × Nat) := [(⟨"TongueHouse$Finder", "fitsAt", "(IILTongueHouse$Text;)Z"⟩, 19), (⟨"TongueHouse", "listChanges", "(LTongueHouse$Tongue;)I"⟩, 17), (⟨"TongueHouse", "writeChange", "(LTongueHouse$Tongue;I)V"⟩, 17), (⟨"TongueHouseModel", "bad", "()I"⟩, 229), (⟨"TongueHouseModel", "four", "(I)V"⟩, 229), (⟨"TongueHouseModel", "reads", "()V"⟩, 229), (⟨"TongueHouseModel", "remember", "()V"⟩, 229), (⟨"TongueHouseModel", "next", "()V"⟩, 229), (⟨"TongueHouseModel", "low", "(I)Z"⟩, 229), (⟨"TongueHouseModel", "dig", "(I)Z"⟩, 229), (⟨"TongueHouseModel", "statement", "()Z"⟩, 229), (⟨"TongueHouseModel", "no", "(I)Z"⟩, 229), (⟨"TongueHouseModel", "no", "(II)Z"⟩, 229), (⟨"TongueHouseModel", "tongue", "()Z"⟩, 229), (⟨"TongueHouseModel", "name", "()Z"⟩, 229), (⟨"TongueHouseModel", "done", "(Z)Z"⟩, 229)]
theorem lw_r7 : ∀ q ∈ lw_privs_7, lw_okq q := List.forall_mem_cons.mpr ⟨lw_p96, List.forall_mem_cons.mpr ⟨lw_p97, List.forall_mem_cons.mpr ⟨lw_p98, List.forall_mem_cons.mpr ⟨lw_p99, List.forall_mem_cons.mpr ⟨lw_p100, List.forall_mem_cons.mpr ⟨lw_p101, List.forall_mem_cons.mpr ⟨lw_p102, List.forall_mem_cons.mpr ⟨lw_p103, List.forall_mem_cons.mpr ⟨lw_p104, List.forall_mem_cons.mpr ⟨lw_p105, List.forall_mem_cons.mpr ⟨lw_p106, List.forall_mem_cons.mpr ⟨lw_p107, List.forall_mem_cons.mpr ⟨lw_p108, List.forall_mem_cons.mpr ⟨lw_p109, List.forall_mem_cons.mpr ⟨lw_p110, List.forall_mem_cons.mpr ⟨lw_p111, fun _ h => absurd h List.not_mem_nil⟩⟩⟩⟩⟩⟩⟩⟩⟩⟩⟩⟩⟩⟩⟩⟩
theorem lw_p112 : lw_okq (⟨"TongueHouseModel", "sign", "(C)Z"⟩, 229) := ⟨⟨by decide +kernel, by decide +kernel⟩, List.mem_of_getElem? (i := 2004) (by decide +kernel), List.mem_of_getElem? (i := 2905) (by decide +kernel), List.mem_of_getElem? (i := 2906) (by decide +kernel)⟩
theorem lw_p113 : lw_okq (⟨"TongueHouseModel", "kind", "()Z"⟩, 229) := ⟨⟨by decide +kernel, by decide +kernel⟩, List.mem_of_getElem? (i := 2004) (by decide +kernel), List.mem_of_getElem? (i := 2909) (by decide +kernel), List.mem_of_getElem? (i := 2910) (by decide +kernel)⟩
theorem lw_p114 : lw_okq (⟨"TongueHouseModel", "fun", "()Z"⟩, 229) := ⟨⟨by decide +kernel, by decide +kernel⟩, List.mem_of_getElem? (i := 2004) (by decide +kernel), List.mem_of_getElem? (i := 2913) (by decide +kernel), List.mem_of_getElem? (i := 2914) (by decide +kernel)⟩
theorem lw_p115 : lw_okq (⟨"TongueHouseModel", "need", "(C)Z"⟩, 229) := ⟨⟨by decide +kernel, by decide +kernel⟩, List.mem_of_getElem? (i := 2004) (by decide +kernel), List.mem_of_getElem? (i := 2917) (by decide +kernel), List.mem_of_getElem? (i := 2918) (by decide +kernel)⟩
theorem lw_p116 : lw_okq (⟨"TongueHouseModel", "cost", "()Z"⟩, 229) := ⟨⟨by decide +kernel, by decide +kernel⟩, List.mem_of_getElem? (i := 2004) (by decide +kernel), List.mem_of_getElem? (i := 2921) (by decide +kernel), List.mem_of_getElem? (i := 2922) (by decide +kernel)⟩
theorem lw_p117 : lw_okq (⟨"TongueHouseModel", "is", "(J)Z"⟩, 229) := ⟨⟨by decide +kernel, by decide +kernel⟩, List.mem_of_getElem? (i := 2004) (by decide +kernel), List.mem_of_getElem? (i := 2925) (by decide +kernel), List.mem_of_getElem? (i := 2926) (by decide +kernel)⟩
theorem lw_p118 : lw_okq (⟨"TongueHouseModel", "feature", "()Z"⟩, 229) := ⟨⟨by decide +kernel, by decide +kernel⟩, List.mem_of_getElem? (i := 2004) (by decide +kernel), List.mem_of_getElem? (i := 2929) (by decide +kernel), List.mem_of_getElem? (i := 2930) (by decide +kernel)⟩
theorem lw_p119 : lw_okq (⟨"TongueHouseModel", "lettersOf", "()Z"⟩, 229) := ⟨⟨by decide +kernel, by decide +kernel⟩, List.mem_of_getElem? (i := 2004) (by decide +kernel), List.mem_of_getElem? (i := 2933) (by decide +kernel), List.mem_of_getElem? (i := 2934) (by decide +kernel)⟩
theorem lw_p120 : lw_okq (⟨"TongueHouseModel", "size", "()I"⟩, 229) := ⟨⟨by decide +kernel, by decide +kernel⟩, List.mem_of_getElem? (i := 2004) (by decide +kernel), List.mem_of_getElem? (i := 2937) (by decide +kernel), List.mem_of_getElem? (i := 2938) (by decide +kernel)⟩
theorem lw_p121 : lw_okq (⟨"TongueHouseModel", "sound", "()Z"⟩, 229) := ⟨⟨by decide +kernel, by decide +kernel⟩, List.mem_of_getElem? (i := 2004) (by decide +kernel), List.mem_of_getElem? (i := 2941) (by decide +kernel), List.mem_of_getElem? (i := 2942) (by decide +kernel)⟩
theorem lw_p122 : lw_okq (⟨"TongueHouseModel", "context", "(Z)Z"⟩, 229) := ⟨⟨by decide +kernel, by decide +kernel⟩, List.mem_of_getElem? (i := 2004) (by decide +kernel), List.mem_of_getElem? (i := 2945) (by decide +kernel), List.mem_of_getElem? (i := 2946) (by decide +kernel)⟩
theorem lw_p123 : lw_okq (⟨"TongueHouseModel", "keeps", "()I"⟩, 229) := ⟨⟨by decide +kernel, by decide +kernel⟩, List.mem_of_getElem? (i := 2004) (by decide +kernel), List.mem_of_getElem? (i := 2949) (by decide +kernel), List.mem_of_getElem? (i := 2950) (by decide +kernel)⟩
theorem lw_p124 : lw_okq (⟨"TongueHouseModel", "side", "(I)Z"⟩, 229) := ⟨⟨by decide +kernel, by decide +kernel⟩, List.mem_of_getElem? (i := 2004) (by decide +kernel), List.mem_of_getElem? (i := 2955) (by decide +kernel), List.mem_of_getElem? (i := 2956) (by decide +kernel)⟩
theorem lw_p125 : lw_okq (⟨"TongueHouseModel", "pattern", "()Z"⟩, 229) := ⟨⟨by decide +kernel, by decide +kernel⟩, List.mem_of_getElem? (i := 2004) (by decide +kernel), List.mem_of_getElem? (i := 2959) (by decide +kernel), List.mem_of_getElem? (i := 2960) (by decide +kernel)⟩
theorem lw_p126 : lw_okq (⟨"TongueHouseModel", "oneValue", "()Z"⟩, 229) := ⟨⟨by decide +kernel, by decide +kernel⟩, List.mem_of_getElem? (i := 2004) (by decide +kernel), List.mem_of_getElem? (i := 2963) (by decide +kernel), List.mem_of_getElem? (i := 2964) (by decide +kernel)⟩
theorem lw_p127 : lw_okq (⟨"TongueHouseModel", "form", "()Z"⟩, 229) := ⟨⟨by decide +kernel, by decide +kernel⟩, List.mem_of_getElem? (i := 2004) (by decide +kernel), List.mem_of_getElem? (i := 2967) (by decide +kernel), List.mem_of_getElem? (i := 2968) (by decide +kernel)⟩
def lw_privs_8 : List (MethodName × Nat) := [(⟨"TongueHouseModel", "sign", "(C)Z"⟩, 229), (⟨"TongueHouseModel", "kind", "()Z"⟩, 229), (⟨"TongueHouseModel", "fun", "()Z"⟩, 229), (⟨"TongueHouseModel", "need", "(C)Z"⟩, 229), (⟨"TongueHouseModel", "cost", "()Z"⟩, 229), (⟨"TongueHouseModel", "is", "(J)Z"⟩, 229), (⟨"TongueHouseModel", "feature", "()Z"⟩, 229), (⟨"TongueHouseModel", "lettersOf", "()Z"⟩, 229), (⟨"TongueHouseModel", "size", "()I"⟩, 229), (⟨"TongueHouseModel", "sound", "()Z"⟩, 229), (⟨"TongueHouseModel", "context", "(Z)Z"⟩, 229), (⟨"TongueHouseModel", "keeps", "()I"⟩, 229), (⟨"TongueHouseModel", "side", "(I)Z"⟩, 229), (⟨"TongueHouseModel", "pattern", "()Z"⟩, 229), (⟨"TongueHouseModel", "oneValue", "()Z"⟩, 229), (⟨"TongueHouseModel", "form", "()Z"⟩, 229)]
theorem lw_r8 : ∀ q ∈ lw_privs_8, lw_okq q := List.forall_mem_cons.mpr ⟨lw_p112, List.forall_mem_cons.mpr ⟨lw_p113, List.forall_mem_cons.mpr ⟨lw_p114, List.forall_mem_cons.mpr ⟨lw_p115, List.forall_mem_cons.mpr ⟨lw_p116, List.forall_mem_cons.mpr ⟨lw_p117, List.forall_mem_cons.mpr ⟨lw_p118, List.forall_mem_cons.mpr ⟨lw_p119, List.forall_mem_cons.mpr ⟨lw_p120, List.forall_mem_cons.mpr ⟨lw_p121, List.forall_mem_cons.mpr ⟨lw_p122, List.forall_mem_cons.mpr ⟨lw_p123, List.forall_mem_cons.mpr ⟨lw_p124, List.forall_mem_cons.mpr ⟨lw_p125, List.forall_mem_cons.mpr ⟨lw_p126, List.forall_mem_cons.mpr ⟨lw_p127, fun _ h => absurd h List.not_mem_nil⟩⟩⟩⟩⟩⟩⟩⟩⟩⟩⟩⟩⟩⟩⟩⟩
theorem lw_p128 : lw_okq (⟨"TongueHouseModel", "wordOf", "()Z"⟩, 229) := ⟨⟨by decide +kernel, by decide +kernel⟩, List.mem_of_getElem? (i := 2004) (by decide +kernel), List.mem_of_getElem? (i := 2971) (by decide +kernel), List.mem_of_getElem? (i := 2972) (by decide +kernel)⟩
theorem lw_p129 : lw_okq (⟨"TongueHouseModel", "lin", "()Z"⟩, 229) := ⟨⟨by decide +kernel, by decide +kernel⟩, List.mem_of_getElem? (i := 2004) (by decide +kernel), List.mem_of_getElem? (i := 2975) (by decide +kernel), List.mem_of_getElem? (i := 2976) (by decide +kernel)⟩
theorem lw_p130 : lw_okq (⟨"TongueHouseModel", "item", "(I)Z"⟩, 229) := ⟨⟨by decide +kernel, by decide +kernel⟩, List.mem_of_getElem? (i := 2004) (by decide +kernel), List.mem_of_getElem? (i := 2979) (by decide +kernel), List.mem_of_getElem? (i := 2980) (by decide +kernel)⟩
theorem lw_p131 : lw_okq (⟨"TongueHouseModel", "said", "(I)Z"⟩, 229) := ⟨⟨by decide +kernel, by decide +kernel⟩, List.mem_of_getElem? (i := 2004) (by decide +kernel), List.mem_of_getElem? (i := 2983) (by decide +kernel), List.mem_of_getElem? (i := 2984) (by decide +kernel)⟩
theorem lw_p132 : lw_okq (⟨"TongueHouseModel", "argumentOf", "(I)Z"⟩, 229) := ⟨⟨by decide +kernel, by decide +kernel⟩, List.mem_of_getElem? (i := 2004) (by decide +kernel), List.mem_of_getElem? (i := 2987) (by decide +kernel), List.mem_of_getElem? (i := 2988) (by decide +kernel)⟩
theorem lw_p133 : lw_okq (⟨"TongueHouseModel", "featureOf", "()Z"⟩, 229) := ⟨⟨by decide +kernel, by decide +kernel⟩, List.mem_of_getElem? (i := 2004) (by decide +kernel), List.mem_of_getElem? (i := 2991) (by decide +kernel), List.mem_of_getElem? (i := 2992) (by decide +kernel)⟩
theorem lw_p134 : lw_okq (⟨"TongueHouseModel", "mean", "()Z"⟩, 229) := ⟨⟨by decide +kernel, by decide +kernel⟩, List.mem_of_getElem? (i := 2004) (by decide +kernel), List.mem_of_getElem? (i := 2995) (by decide +kernel), List.mem_of_getElem? (i := 2996) (by decide +kernel)⟩
theorem lw_p135 : lw_okq (⟨"TongueHouseModel", "term", "(I)I"⟩, 229) := ⟨⟨by decide +kernel, by decide +kernel⟩, List.mem_of_getElem? (i := 2004) (by decide +kernel), List.mem_of_getElem? (i := 2999) (by decide +kernel), List.mem_of_getElem? (i := 3000) (by decide +kernel)⟩
theorem lw_p136 : lw_okq (⟨"TongueHouseModel", "none", "(I)I"⟩, 229) := ⟨⟨by decide +kernel, by decide +kernel⟩, List.mem_of_getElem? (i := 2004) (by decide +kernel), List.mem_of_getElem? (i := 3003) (by decide +kernel), List.mem_of_getElem? (i := 3004) (by decide +kernel)⟩
theorem lw_p137 : lw_okq (⟨"TongueHouseModel", "node", "(IIIJ)I"⟩, 229) := ⟨⟨by decide +kernel, by decide +kernel⟩, List.mem_of_getElem? (i := 2004) (by decide +kernel), List.mem_of_getElem? (i := 3007) (by decide +kernel), List.mem_of_getElem? (i := 3008) (by decide +kernel)⟩
theorem lw_p138 : lw_okq (⟨"TongueHouseModel", "atom", "(I)I"⟩, 229) := ⟨⟨by decide +kernel, by decide +kernel⟩, List.mem_of_getElem? (i := 2004) (by decide +kernel), List.mem_of_getElem? (i := 3011) (by decide +kernel), List.mem_of_getElem? (i := 3012) (by decide +kernel)⟩
theorem lw_p139 : lw_okq (⟨"TongueHouseModel", "thing", "()Z"⟩, 229) := ⟨⟨by decide +kernel, by decide +kernel⟩, List.mem_of_getElem? (i := 2004) (by decide +kernel), List.mem_of_getElem? (i := 3015) (by decide +kernel), List.mem_of_getElem? (i := 3016) (by decide +kernel)⟩
theorem lw_p140 : lw_okq (⟨"TongueHouseModel", "fact", "()Z"⟩, 229) := ⟨⟨by decide +kernel, by decide +kernel⟩, List.mem_of_getElem? (i := 2004) (by decide +kernel), List.mem_of_getElem? (i := 3019) (by decide +kernel), List.mem_of_getElem? (i := 3020) (by decide +kernel)⟩
theorem lw_p141 : lw_okq (⟨"TongueHouseModel", "isFact", "(JII)Z"⟩, 229) := ⟨⟨by decide +kernel, by decide +kernel⟩, List.mem_of_getElem? (i := 2004) (by decide +kernel), List.mem_of_getElem? (i := 3023) (by decide +kernel), List.mem_of_getElem? (i := 3024) (by decide +kernel)⟩
theorem lw_p142 : lw_okq (⟨"TongueHouseModel", "forget", "()V"⟩, 229) := ⟨⟨by decide +kernel, by decide +kernel⟩, List.mem_of_getElem? (i := 2004) (by decide +kernel), List.mem_of_getElem? (i := 3027) (by decide +kernel), List.mem_of_getElem? (i := 3028) (by decide +kernel)⟩
theorem lw_p143 : lw_okq (⟨"TongueHouseModel", "noTongue", "(I)Z"⟩, 229) := ⟨⟨by decide +kernel, by decide +kernel⟩, List.mem_of_getElem? (i := 2004) (by decide +kernel), List.mem_of_getElem? (i := 3039) (by decide +kernel), List.mem_of_getElem? (i := 3040) (by decide +kernel)⟩
def lw_privs_9 : List (MethodName × Nat) := [(⟨"TongueHouseModel", "wordOf", "()Z"⟩, 229), (⟨"TongueHouseModel", "lin", "()Z"⟩, 229), (⟨"TongueHouseModel", "item", "(I)Z"⟩, 229), (⟨"TongueHouseModel", "said", "(I)Z"⟩, 229), (⟨"TongueHouseModel", "argumentOf", "(I)Z"⟩, 229), (⟨"TongueHouseModel", "featureOf", "()Z"⟩, 229), (⟨"TongueHouseModel", "mean", "()Z"⟩, 229), (⟨"TongueHouseModel", "term", "(I)I"⟩, 229), (⟨"TongueHouseModel", "none", "(I)I"⟩, 229), (⟨"TongueHouseModel", "node", "(IIIJ)I"⟩, 229), (⟨"TongueHouseModel", "atom", "(I)I"⟩, 229), (⟨"TongueHouseModel", "thing", "()Z"⟩, 229), (⟨"TongueHouseModel", "fact", "()Z"⟩, 229), (⟨"TongueHouseModel", "isFact", "(JII)Z"⟩, 229), (⟨"TongueHouseModel", "forget", "()V"⟩, 229), (⟨"TongueHouseModel", "noTongue", "(I)Z"⟩, 229)]
theorem lw_r9 : ∀ q ∈ lw_privs_9, lw_okq q := List.forall_mem_cons.mpr ⟨lw_p128, List.forall_mem_cons.mpr ⟨lw_p129, List.forall_mem_cons.mpr ⟨lw_p130, List.forall_mem_cons.mpr ⟨lw_p131, List.forall_mem_cons.mpr ⟨lw_p132, List.forall_mem_cons.mpr ⟨lw_p133, List.forall_mem_cons.mpr ⟨lw_p134, List.forall_mem_cons.mpr ⟨lw_p135, List.forall_mem_cons.mpr ⟨lw_p136, List.forall_mem_cons.mpr ⟨lw_p137, List.forall_mem_cons.mpr ⟨lw_p138, List.forall_mem_cons.mpr ⟨lw_p139, List.forall_mem_cons.mpr ⟨lw_p140, List.forall_mem_cons.mpr ⟨lw_p141, List.forall_mem_cons.mpr ⟨lw_p142, List.forall_mem_cons.mpr ⟨lw_p143, fun _ h => absurd h List.not_mem_nil⟩⟩⟩⟩⟩⟩⟩⟩⟩⟩⟩⟩⟩⟩⟩⟩
theorem lw_p144 : lw_okq (⟨"TongueHouseModel", "oneWord", "()Z"⟩, 229) := ⟨⟨by decide +kernel, by decide +kernel⟩, List.mem_of_getElem? (i := 2004) (by decide +kernel), List.mem_of_getElem? (i := 3043) (by decide +kernel), List.mem_of_getElem? (i := 3044) (by decide +kernel)⟩
theorem lw_p145 : lw_okq (⟨"TongueHouseModel", "sounded", "(I)I"⟩, 229) := ⟨⟨by decide +kernel, by decide +kernel⟩, List.mem_of_getElem? (i := 2004) (by decide +kernel), List.mem_of_getElem? (i := 3047) (by decide +kernel), List.mem_of_getElem? (i := 3048) (by decide +kernel)⟩
theorem lw_p146 : lw_okq (⟨"TongueHouseModel", "stands", "(III)I"⟩, 229) := ⟨⟨by decide +kernel, by decide +kernel⟩, List.mem_of_getElem? (i := 2004) (by decide +kernel), List.mem_of_getElem? (i := 3051) (by decide +kernel), List.mem_of_getElem? (i := 3052) (by decide +kernel)⟩
theorem lw_p147 : lw_okq (⟨"TongueHouseModel", "isIn", "(III)Z"⟩, 229) := ⟨⟨by decide +kernel, by decide +kernel⟩, List.mem_of_getElem? (i := 2004) (by decide +kernel), List.mem_of_getElem? (i := 3055) (by decide +kernel), List.mem_of_getElem? (i := 3056) (by decide +kernel)⟩
theorem lw_p148 : lw_okq (⟨"TongueHouseModel", "right", "(III)Z"⟩, 229) := ⟨⟨by decide +kernel, by decide +kernel⟩, List.mem_of_getElem? (i := 2004) (by decide +kernel), List.mem_of_getElem? (i := 3059) (by decide +kernel), List.mem_of_getElem? (i := 3060) (by decide +kernel)⟩
theorem lw_p149 : lw_okq (⟨"TongueHouseModel", "left", "(III)Z"⟩, 229) := ⟨⟨by decide +kernel, by decide +kernel⟩, List.mem_of_getElem? (i := 2004) (by decide +kernel), List.mem_of_getElem? (i := 3063) (by decide +kernel), List.mem_of_getElem? (i := 3064) (by decide +kernel)⟩
theorem lw_p150 : lw_okq (⟨"TongueHouseModel", "outBuf", "()V"⟩, 229) := ⟨⟨by decide +kernel, by decide +kernel⟩, List.mem_of_getElem? (i := 2004) (by decide +kernel), List.mem_of_getElem? (i := 3067) (by decide +kernel), List.mem_of_getElem? (i := 3068) (by decide +kernel)⟩
theorem lw_p151 : lw_okq (⟨"TongueHouseModel", "outs", "(I)V"⟩, 229) := ⟨⟨by decide +kernel, by decide +kernel⟩, List.mem_of_getElem? (i := 2004) (by decide +kernel), List.mem_of_getElem? (i := 3071) (by decide +kernel), List.mem_of_getElem? (i := 3072) (by decide +kernel)⟩
theorem lw_p152 : lw_okq (⟨"TongueHouseModel", "forms", "(I)V"⟩, 229) := ⟨⟨by decide +kernel, by decide +kernel⟩, List.mem_of_getElem? (i := 2004) (by decide +kernel), List.mem_of_getElem? (i := 3079) (by decide +kernel), List.mem_of_getElem? (i := 3080) (by decide +kernel)⟩
theorem lw_p153 : lw_okq (⟨"TongueHouseModel", "cellsOf", "(II)I"⟩, 229) := ⟨⟨by decide +kernel, by decide +kernel⟩, List.mem_of_getElem? (i := 2004) (by decide +kernel), List.mem_of_getElem? (i := 3083) (by decide +kernel), List.mem_of_getElem? (i := 3084) (by decide +kernel)⟩
theorem lw_p154 : lw_okq (⟨"TongueHouseModel", "joined", "(III)I"⟩, 229) := ⟨⟨by decide +kernel, by decide +kernel⟩, List.mem_of_getElem? (i := 2004) (by decide +kernel), List.mem_of_getElem? (i := 3087) (by decide +kernel), List.mem_of_getElem? (i := 3088) (by decide +kernel)⟩
theorem lw_p155 : lw_okq (⟨"TongueHouseModel", "isForm", "(I[BII)Z"⟩, 229) := ⟨⟨by decide +kernel, by decide +kernel⟩, List.mem_of_getElem? (i := 2004) (by decide +kernel), List.mem_of_getElem? (i := 3091) (by decide +kernel), List.mem_of_getElem? (i := 3092) (by decide +kernel)⟩
theorem lw_p156 : lw_okq (⟨"TongueHouseModel", "valuesOf", "(III)I"⟩, 229) := ⟨⟨by decide +kernel, by decide +kernel⟩, List.mem_of_getElem? (i := 2004) (by decide +kernel), List.mem_of_getElem? (i := 3099) (by decide +kernel), List.mem_of_getElem? (i := 3100) (by decide +kernel)⟩
theorem lw_p157 : lw_okq (⟨"TongueHouseModel", "endsSo", "(III)Z"⟩, 229) := ⟨⟨by decide +kernel, by decide +kernel⟩, List.mem_of_getElem? (i := 2004) (by decide +kernel), List.mem_of_getElem? (i := 3112) (by decide +kernel), List.mem_of_getElem? (i := 3113) (by decide +kernel)⟩
theorem lw_p158 : lw_okq (⟨"TongueHouseModel", "noKind", "(I)Z"⟩, 229) := ⟨⟨by decide +kernel, by decide +kernel⟩, List.mem_of_getElem? (i := 2004) (by decide +kernel), List.mem_of_getElem? (i := 3128) (by decide +kernel), List.mem_of_getElem? (i := 3129) (by decide +kernel)⟩
theorem lw_p159 : lw_okq (⟨"TongueHouseModel", "sentence", "()Z"⟩, 229) := ⟨⟨by decide +kernel, by decide +kernel⟩, List.mem_of_getElem? (i := 2004) (by decide +kernel), List.mem_of_getElem? (i := 3132) (by decide +kernel), List.mem_of_getElem? (i := 3133) (by decide +kernel)⟩
def lw_privs_10 : List (MethodName × Nat) := [(⟨"TongueHouseModel", "oneWord", "()Z"⟩, 229), (⟨"TongueHouseModel", "sounded", "(I)I"⟩, 229), (⟨"TongueHouseModel", "stands", "(III)I"⟩, 229), (⟨"TongueHouseModel", "isIn", "(III)Z"⟩, 229), (⟨"TongueHouseModel", "right", "(III)Z"⟩, 229), (⟨"TongueHouseModel", "left", "(III)Z"⟩, 229), (⟨"TongueHouseModel", "outBuf", "()V"⟩, 229), (⟨"TongueHouseModel", "outs", "(I)V"⟩, 229), (⟨"TongueHouseModel", "forms", "(I)V"⟩, 229), (⟨"TongueHouseModel", "cellsOf", "(II)I"⟩, 229), (⟨"TongueHouseModel", "joined", "(III)I"⟩, 229), (⟨"TongueHouseModel", "isForm", "(I[BII)Z"⟩, 229), (⟨"TongueHouseModel", "valuesOf", "(III)I"⟩, 229), (⟨"TongueHouseModel", "endsSo", "(III)Z"⟩, 229), (⟨"TongueHouseModel", "noKind", "(I)Z"⟩, 229), (⟨"TongueHouseModel", "sentence", "()Z"⟩, 229)]
theorem lw_r10 : ∀ q ∈ lw_privs_10, lw_okq q := List.forall_mem_cons.mpr ⟨lw_p144, List.forall_mem_cons.mpr ⟨lw_p145, List.forall_mem_cons.mpr ⟨lw_p146, List.forall_mem_cons.mpr ⟨lw_p147, List.forall_mem_cons.mpr ⟨lw_p148, List.forall_mem_cons.mpr ⟨lw_p149, List.forall_mem_cons.mpr ⟨lw_p150, List.forall_mem_cons.mpr ⟨lw_p151, List.forall_mem_cons.mpr ⟨lw_p152, List.forall_mem_cons.mpr ⟨lw_p153, List.forall_mem_cons.mpr ⟨lw_p154, List.forall_mem_cons.mpr ⟨lw_p155, List.forall_mem_cons.mpr ⟨lw_p156, List.forall_mem_cons.mpr ⟨lw_p157, List.forall_mem_cons.mpr ⟨lw_p158, List.forall_mem_cons.mpr ⟨lw_p159, fun _ h => absurd h List.not_mem_nil⟩⟩⟩⟩⟩⟩⟩⟩⟩⟩⟩⟩⟩⟩⟩⟩
theorem lw_p160 : lw_okq (⟨"TongueHouseModel", "noForest", "()V"⟩, 229) := ⟨⟨by decide +kernel, by decide +kernel⟩, List.mem_of_getElem? (i := 2004) (by decide +kernel), List.mem_of_getElem? (i := 3136) (by decide +kernel), List.mem_of_getElem? (i := 3137) (by decide +kernel)⟩
theorem lw_p161 : lw_okq (⟨"TongueHouseModel", "parsed", "(II)I"⟩, 229) := ⟨⟨by decide +kernel, by decide +kernel⟩, List.mem_of_getElem? (i := 2004) (by decide +kernel), List.mem_of_getElem? (i := 3140) (by decide +kernel), List.mem_of_getElem? (i := 3141) (by decide +kernel)⟩
theorem lw_p162 : lw_okq (⟨"TongueHouseModel", "chart", "(I)Z"⟩, 229) := ⟨⟨by decide +kernel, by decide +kernel⟩, List.mem_of_getElem? (i := 2004) (by decide +kernel), List.mem_of_getElem? (i := 3144) (by decide +kernel), List.mem_of_getElem? (i := 3145) (by decide +kernel)⟩
theorem lw_p163 : lw_okq (⟨"TongueHouseModel", "leaves", "(III)V"⟩, 229) := ⟨⟨by decide +kernel, by decide +kernel⟩, List.mem_of_getElem? (i := 2004) (by decide +kernel), List.mem_of_getElem? (i := 3149) (by decide +kernel), List.mem_of_getElem? (i := 3150) (by decide +kernel)⟩
theorem lw_p164 : lw_okq (⟨"TongueHouseModel", "isWord", "(II)Z"⟩, 229) := ⟨⟨by decide +kernel, by decide +kernel⟩, List.mem_of_getElem? (i := 2004) (by decide +kernel), List.mem_of_getElem? (i := 3153) (by decide +kernel), List.mem_of_getElem? (i := 3154) (by decide +kernel)⟩
theorem lw_p165 : lw_okq (⟨"TongueHouseModel", "nodeOf", "(IIII)I"⟩, 229) := ⟨⟨by decide +kernel, by decide +kernel⟩, List.mem_of_getElem? (i := 2004) (by decide +kernel), List.mem_of_getElem? (i := 3157) (by decide +kernel), List.mem_of_getElem? (i := 3158) (by decide +kernel)⟩
theorem lw_p166 : lw_okq (⟨"TongueHouseModel", "wayOf", "(IIII)I"⟩, 229) := ⟨⟨by decide +kernel, by decide +kernel⟩, List.mem_of_getElem? (i := 2004) (by decide +kernel), List.mem_of_getElem? (i := 3164) (by decide +kernel), List.mem_of_getElem? (i := 3165) (by decide +kernel)⟩
theorem lw_p167 : lw_okq (⟨"TongueHouseModel", "match", "(II)V"⟩, 229) := ⟨⟨by decide +kernel, by decide +kernel⟩, List.mem_of_getElem? (i := 2004) (by decide +kernel), List.mem_of_getElem? (i := 3168) (by decide +kernel), List.mem_of_getElem? (i := 3169) (by decide +kernel)⟩
theorem lw_p168 : lw_okq (⟨"TongueHouseModel", "finish", "()V"⟩, 229) := ⟨⟨by decide +kernel, by decide +kernel⟩, List.mem_of_getElem? (i := 2004) (by decide +kernel), List.mem_of_getElem? (i := 3172) (by decide +kernel), List.mem_of_getElem? (i := 3173) (by decide +kernel)⟩
theorem lw_p169 : lw_okq (⟨"TongueHouseModel", "saidOf", "(I)I"⟩, 229) := ⟨⟨by decide +kernel, by decide +kernel⟩, List.mem_of_getElem? (i := 2004) (by decide +kernel), List.mem_of_getElem? (i := 3176) (by decide +kernel), List.mem_of_getElem? (i := 3177) (by decide +kernel)⟩
theorem lw_p170 : lw_okq (⟨"TongueHouseModel", "orderWays", "()V"⟩, 229) := ⟨⟨by decide +kernel, by decide +kernel⟩, List.mem_of_getElem? (i := 2004) (by decide +kernel), List.mem_of_getElem? (i := 3183) (by decide +kernel), List.mem_of_getElem? (i := 3184) (by decide +kernel)⟩
theorem lw_p171 : lw_okq (⟨"TongueHouseModel", "wayOrder", "(II)I"⟩, 229) := ⟨⟨by decide +kernel, by decide +kernel⟩, List.mem_of_getElem? (i := 2004) (by decide +kernel), List.mem_of_getElem? (i := 3187) (by decide +kernel), List.mem_of_getElem? (i := 3188) (by decide +kernel)⟩
theorem lw_p172 : lw_okq (⟨"TongueHouseModel", "counted", "()J"⟩, 229) := ⟨⟨by decide +kernel, by decide +kernel⟩, List.mem_of_getElem? (i := 2004) (by decide +kernel), List.mem_of_getElem? (i := 3191) (by decide +kernel), List.mem_of_getElem? (i := 3192) (by decide +kernel)⟩
theorem lw_p173 : lw_okq (⟨"TongueHouseModel", "tops", "(IIII)V"⟩, 229) := ⟨⟨by decide +kernel, by decide +kernel⟩, List.mem_of_getElem? (i := 2004) (by decide +kernel), List.mem_of_getElem? (i := 3200) (by decide +kernel), List.mem_of_getElem? (i := 3201) (by decide +kernel)⟩
theorem lw_p174 : lw_okq (⟨"TongueHouseModel", "ahead", "(IIII)Z"⟩, 229) := ⟨⟨by decide +kernel, by decide +kernel⟩, List.mem_of_getElem? (i := 2004) (by decide +kernel), List.mem_of_getElem? (i := 3204) (by decide +kernel), List.mem_of_getElem? (i := 3205) (by decide +kernel)⟩
theorem lw_p175 : lw_okq (⟨"TongueHouseModel", "combine", "(IIIIIIII)V"⟩, 229) := ⟨⟨by decide +kernel, by decide +kernel⟩, List.mem_of_getElem? (i := 2004) (by decide +kernel), List.mem_of_getElem? (i := 3211) (by decide +kernel), List.mem_of_getElem? (i := 3212) (by decide +kernel)⟩
def lw_privs_11 : List (MethodName × Nat) := [(⟨"TongueHouseModel", "noForest", "()V"⟩, 229), (⟨"TongueHouseModel", "parsed", "(II)I"⟩, 229), (⟨"TongueHouseModel", "chart", "(I)Z"⟩, 229), (⟨"TongueHouseModel", "leaves", "(III)V"⟩, 229), (⟨"TongueHouseModel", "isWord", "(II)Z"⟩, 229), (⟨"TongueHouseModel", "nodeOf", "(IIII)I"⟩, 229), (⟨"TongueHouseModel", "wayOf", "(IIII)I"⟩, 229), (⟨"TongueHouseModel", "match", "(II)V"⟩, 229), (⟨"TongueHouseModel", "finish", "()V"⟩, 229), (⟨"TongueHouseModel", "saidOf", "(I)I"⟩, 229), (⟨"TongueHouseModel", "orderWays", "()V"⟩, 229), (⟨"TongueHouseModel", "wayOrder", "(II)I"⟩, 229), (⟨"TongueHouseModel", "counted", "()J"⟩, 229), (⟨"TongueHouseModel", "tops", "(IIII)V"⟩, 229), (⟨"TongueHouseModel", "ahead", "(IIII)Z"⟩, 229), (⟨"TongueHouseModel", "combine", "(IIIIIIII)V"⟩, 229)]
theorem lw_r11 : ∀ q ∈ lw_privs_11, lw_okq q := List.forall_mem_cons.mpr ⟨lw_p160, List.forall_mem_cons.mpr ⟨lw_p161, List.forall_mem_cons.mpr ⟨lw_p162, List.forall_mem_cons.mpr ⟨lw_p163, List.forall_mem_cons.mpr ⟨lw_p164, List.forall_mem_cons.mpr ⟨lw_p165, List.forall_mem_cons.mpr ⟨lw_p166, List.forall_mem_cons.mpr ⟨lw_p167, List.forall_mem_cons.mpr ⟨lw_p168, List.forall_mem_cons.mpr ⟨lw_p169, List.forall_mem_cons.mpr ⟨lw_p170, List.forall_mem_cons.mpr ⟨lw_p171, List.forall_mem_cons.mpr ⟨lw_p172, List.forall_mem_cons.mpr ⟨lw_p173, List.forall_mem_cons.mpr ⟨lw_p174, List.forall_mem_cons.mpr ⟨lw_p175, fun _ h => absurd h List.not_mem_nil⟩⟩⟩⟩⟩⟩⟩⟩⟩⟩⟩⟩⟩⟩⟩⟩
theorem lw_p176 : lw_okq (⟨"TongueHouseModel", "noPlace", "(I)Z"⟩, 229) := ⟨⟨by decide +kernel, by decide +kernel⟩, List.mem_of_getElem? (i := 2004) (by decide +kernel), List.mem_of_getElem? (i := 3231) (by decide +kernel), List.mem_of_getElem? (i := 3232) (by decide +kernel)⟩
theorem lw_p177 : lw_okq (⟨"TongueHouseModel", "read", "(II)V"⟩, 229) := ⟨⟨by decide +kernel, by decide +kernel⟩, List.mem_of_getElem? (i := 2004) (by decide +kernel), List.mem_of_getElem? (i := 3235) (by decide +kernel), List.mem_of_getElem? (i := 3236) (by decide +kernel)⟩
theorem lw_p178 : lw_okq (⟨"TongueHouseModel", "noTree", "(I)Z"⟩, 229) := ⟨⟨by decide +kernel, by decide +kernel⟩, List.mem_of_getElem? (i := 2004) (by decide +kernel), List.mem_of_getElem? (i := 3243) (by decide +kernel), List.mem_of_getElem? (i := 3244) (by decide +kernel)⟩
theorem lw_p179 : lw_okq (⟨"TongueHouseModel", "takes", "(I)I"⟩, 229) := ⟨⟨by decide +kernel, by decide +kernel⟩, List.mem_of_getElem? (i := 2004) (by decide +kernel), List.mem_of_getElem? (i := 3251) (by decide +kernel), List.mem_of_getElem? (i := 3252) (by decide +kernel)⟩
theorem lw_p180 : lw_okq (⟨"TongueHouseModel", "shown", "(I)I"⟩, 229) := ⟨⟨by decide +kernel, by decide +kernel⟩, List.mem_of_getElem? (i := 2004) (by decide +kernel), List.mem_of_getElem? (i := 3255) (by decide +kernel), List.mem_of_getElem? (i := 3256) (by decide +kernel)⟩
theorem lw_p181 : lw_okq (⟨"TongueHouseModel", "outName", "(J)V"⟩, 229) := ⟨⟨by decide +kernel, by decide +kernel⟩, List.mem_of_getElem? (i := 2004) (by decide +kernel), List.mem_of_getElem? (i := 3259) (by decide +kernel), List.mem_of_getElem? (i := 3260) (by decide +kernel)⟩
theorem lw_p182 : lw_okq (⟨"TongueHouseModel", "options", "(II)I"⟩, 229) := ⟨⟨by decide +kernel, by decide +kernel⟩, List.mem_of_getElem? (i := 2004) (by decide +kernel), List.mem_of_getElem? (i := 3272) (by decide +kernel), List.mem_of_getElem? (i := 3273) (by decide +kernel)⟩
theorem lw_p183 : lw_okq (⟨"TongueHouseModel", "slot", "(III)I"⟩, 229) := ⟨⟨by decide +kernel, by decide +kernel⟩, List.mem_of_getElem? (i := 2004) (by decide +kernel), List.mem_of_getElem? (i := 3276) (by decide +kernel), List.mem_of_getElem? (i := 3277) (by decide +kernel)⟩
theorem lw_p184 : lw_okq (⟨"TongueHouseModel", "puts", "(IIIII)V"⟩, 229) := ⟨⟨by decide +kernel, by decide +kernel⟩, List.mem_of_getElem? (i := 2004) (by decide +kernel), List.mem_of_getElem? (i := 3280) (by decide +kernel), List.mem_of_getElem? (i := 3281) (by decide +kernel)⟩
theorem lw_p185 : lw_okq (⟨"TongueHouseModel", "ready", "(IIII)V"⟩, 229) := ⟨⟨by decide +kernel, by decide +kernel⟩, List.mem_of_getElem? (i := 2004) (by decide +kernel), List.mem_of_getElem? (i := 3284) (by decide +kernel), List.mem_of_getElem? (i := 3285) (by decide +kernel)⟩
theorem lw_p186 : lw_okq (⟨"TongueHouseModel", "hitsWord", "(III)Z"⟩, 229) := ⟨⟨by decide +kernel, by decide +kernel⟩, List.mem_of_getElem? (i := 2004) (by decide +kernel), List.mem_of_getElem? (i := 3304) (by decide +kernel), List.mem_of_getElem? (i := 3305) (by decide +kernel)⟩
theorem lw_p187 : lw_okq (⟨"TongueHouseModel", "mended", "(II)I"⟩, 229) := ⟨⟨by decide +kernel, by decide +kernel⟩, List.mem_of_getElem? (i := 2004) (by decide +kernel), List.mem_of_getElem? (i := 3316) (by decide +kernel), List.mem_of_getElem? (i := 3317) (by decide +kernel)⟩
theorem lw_p188 : lw_okq (⟨"TongueHouseModel", "word", "(I[BII)V"⟩, 229) := ⟨⟨by decide +kernel, by decide +kernel⟩, List.mem_of_getElem? (i := 2004) (by decide +kernel), List.mem_of_getElem? (i := 3320) (by decide +kernel), List.mem_of_getElem? (i := 3321) (by decide +kernel)⟩
theorem lw_p189 : lw_okq (⟨"TongueHouseModel", "back", "(II)V"⟩, 229) := ⟨⟨by decide +kernel, by decide +kernel⟩, List.mem_of_getElem? (i := 2004) (by decide +kernel), List.mem_of_getElem? (i := 3324) (by decide +kernel), List.mem_of_getElem? (i := 3325) (by decide +kernel)⟩
theorem lw_p190 : lw_okq (⟨"TongueHouseModel", "outSentence", "()V"⟩, 229) := ⟨⟨by decide +kernel, by decide +kernel⟩, List.mem_of_getElem? (i := 2004) (by decide +kernel), List.mem_of_getElem? (i := 3328) (by decide +kernel), List.mem_of_getElem? (i := 3329) (by decide +kernel)⟩
theorem lw_p191 : lw_okq (⟨"TongueHouseModel", "means", "()I"⟩, 229) := ⟨⟨by decide +kernel, by decide +kernel⟩, List.mem_of_getElem? (i := 2004) (by decide +kernel), List.mem_of_getElem? (i := 3336) (by decide +kernel), List.mem_of_getElem? (i := 3337) (by decide +kernel)⟩
def lw_privs_12 : List (MethodName × Nat) := [(⟨"TongueHouseModel", "noPlace", "(I)Z"⟩, 229), (⟨"TongueHouseModel", "read", "(II)V"⟩, 229), (⟨"TongueHouseModel", "noTree", "(I)Z"⟩, 229), (⟨"TongueHouseModel", "takes", "(I)I"⟩, 229), (⟨"TongueHouseModel", "shown", "(I)I"⟩, 229), (⟨"TongueHouseModel", "outName", "(J)V"⟩, 229), (⟨"TongueHouseModel", "options", "(II)I"⟩, 229), (⟨"TongueHouseModel", "slot", "(III)I"⟩, 229), (⟨"TongueHouseModel", "puts", "(IIIII)V"⟩, 229), (⟨"TongueHouseModel", "ready", "(IIII)V"⟩, 229), (⟨"TongueHouseModel", "hitsWord", "(III)Z"⟩, 229), (⟨"TongueHouseModel", "mended", "(II)I"⟩, 229), (⟨"TongueHouseModel", "word", "(I[BII)V"⟩, 229), (⟨"TongueHouseModel", "back", "(II)V"⟩, 229), (⟨"TongueHouseModel", "outSentence", "()V"⟩, 229), (⟨"TongueHouseModel", "means", "()I"⟩, 229)]
theorem lw_r12 : ∀ q ∈ lw_privs_12, lw_okq q := List.forall_mem_cons.mpr ⟨lw_p176, List.forall_mem_cons.mpr ⟨lw_p177, List.forall_mem_cons.mpr ⟨lw_p178, List.forall_mem_cons.mpr ⟨lw_p179, List.forall_mem_cons.mpr ⟨lw_p180, List.forall_mem_cons.mpr ⟨lw_p181, List.forall_mem_cons.mpr ⟨lw_p182, List.forall_mem_cons.mpr ⟨lw_p183, List.forall_mem_cons.mpr ⟨lw_p184, List.forall_mem_cons.mpr ⟨lw_p185, List.forall_mem_cons.mpr ⟨lw_p186, List.forall_mem_cons.mpr ⟨lw_p187, List.forall_mem_cons.mpr ⟨lw_p188, List.forall_mem_cons.mpr ⟨lw_p189, List.forall_mem_cons.mpr ⟨lw_p190, List.forall_mem_cons.mpr ⟨lw_p191, fun _ h => absurd h List.not_mem_nil⟩⟩⟩⟩⟩⟩⟩⟩⟩⟩⟩⟩⟩⟩⟩⟩
theorem lw_p192 : lw_okq (⟨"TongueHouseModel", "argumentsOf", "(I)I"⟩, 229) := ⟨⟨by decide +kernel, by decide +kernel⟩, List.mem_of_getElem? (i := 2004) (by decide +kernel), List.mem_of_getElem? (i := 3340) (by decide +kernel), List.mem_of_getElem? (i := 3341) (by decide +kernel)⟩
theorem lw_p193 : lw_okq (⟨"TongueHouseModel", "composed", "(II)I"⟩, 229) := ⟨⟨by decide +kernel, by decide +kernel⟩, List.mem_of_getElem? (i := 2004) (by decide +kernel), List.mem_of_getElem? (i := 3344) (by decide +kernel), List.mem_of_getElem? (i := 3345) (by decide +kernel)⟩
theorem lw_p194 : lw_okq (⟨"TongueHouseModel", "heap", "(IIIJ)I"⟩, 229) := ⟨⟨by decide +kernel, by decide +kernel⟩, List.mem_of_getElem? (i := 2004) (by decide +kernel), List.mem_of_getElem? (i := 3348) (by decide +kernel), List.mem_of_getElem? (i := 3349) (by decide +kernel)⟩
theorem lw_p195 : lw_okq (⟨"TongueHouseModel", "redex", "(I)I"⟩, 229) := ⟨⟨by decide +kernel, by decide +kernel⟩, List.mem_of_getElem? (i := 2004) (by decide +kernel), List.mem_of_getElem? (i := 3352) (by decide +kernel), List.mem_of_getElem? (i := 3353) (by decide +kernel)⟩
theorem lw_p196 : lw_okq (⟨"TongueHouseModel", "stepped", "(II)I"⟩, 229) := ⟨⟨by decide +kernel, by decide +kernel⟩, List.mem_of_getElem? (i := 2004) (by decide +kernel), List.mem_of_getElem? (i := 3356) (by decide +kernel), List.mem_of_getElem? (i := 3357) (by decide +kernel)⟩
theorem lw_p197 : lw_okq (⟨"TongueHouseModel", "put", "(III)I"⟩, 229) := ⟨⟨by decide +kernel, by decide +kernel⟩, List.mem_of_getElem? (i := 2004) (by decide +kernel), List.mem_of_getElem? (i := 3360) (by decide +kernel), List.mem_of_getElem? (i := 3361) (by decide +kernel)⟩
theorem lw_p198 : lw_okq (⟨"TongueHouseModel", "raised", "(III)I"⟩, 229) := ⟨⟨by decide +kernel, by decide +kernel⟩, List.mem_of_getElem? (i := 2004) (by decide +kernel), List.mem_of_getElem? (i := 3364) (by decide +kernel), List.mem_of_getElem? (i := 3365) (by decide +kernel)⟩
theorem lw_p199 : lw_okq (⟨"TongueHouseModel", "outTerm", "(II)V"⟩, 229) := ⟨⟨by decide +kernel, by decide +kernel⟩, List.mem_of_getElem? (i := 2004) (by decide +kernel), List.mem_of_getElem? (i := 3368) (by decide +kernel), List.mem_of_getElem? (i := 3369) (by decide +kernel)⟩
theorem lw_p200 : lw_okq (⟨"TongueHouseModel", "outNumber", "(I)V"⟩, 229) := ⟨⟨by decide +kernel, by decide +kernel⟩, List.mem_of_getElem? (i := 2004) (by decide +kernel), List.mem_of_getElem? (i := 3372) (by decide +kernel), List.mem_of_getElem? (i := 3373) (by decide +kernel)⟩
theorem lw_p201 : lw_okq (⟨"TongueHouseModel", "outApplied", "(II)V"⟩, 229) := ⟨⟨by decide +kernel, by decide +kernel⟩, List.mem_of_getElem? (i := 2004) (by decide +kernel), List.mem_of_getElem? (i := 3376) (by decide +kernel), List.mem_of_getElem? (i := 3377) (by decide +kernel)⟩
theorem lw_p202 : lw_okq (⟨"TongueHouseModel", "holds", "(I)I"⟩, 229) := ⟨⟨by decide +kernel, by decide +kernel⟩, List.mem_of_getElem? (i := 2004) (by decide +kernel), List.mem_of_getElem? (i := 3384) (by decide +kernel), List.mem_of_getElem? (i := 3385) (by decide +kernel)⟩
theorem lw_p203 : lw_okq (⟨"TongueHouseModel", "thingOf", "(I)I"⟩, 229) := ⟨⟨by decide +kernel, by decide +kernel⟩, List.mem_of_getElem? (i := 2004) (by decide +kernel), List.mem_of_getElem? (i := 3388) (by decide +kernel), List.mem_of_getElem? (i := 3389) (by decide +kernel)⟩
def lw_privs_13 : List (MethodName × Nat) := [(⟨"TongueHouseModel", "argumentsOf", "(I)I"⟩, 229), (⟨"TongueHouseModel", "composed", "(II)I"⟩, 229), (⟨"TongueHouseModel", "heap", "(IIIJ)I"⟩, 229), (⟨"TongueHouseModel", "redex", "(I)I"⟩, 229), (⟨"TongueHouseModel", "stepped", "(II)I"⟩, 229), (⟨"TongueHouseModel", "put", "(III)I"⟩, 229), (⟨"TongueHouseModel", "raised", "(III)I"⟩, 229), (⟨"TongueHouseModel", "outTerm", "(II)V"⟩, 229), (⟨"TongueHouseModel", "outNumber", "(I)V"⟩, 229), (⟨"TongueHouseModel", "outApplied", "(II)V"⟩, 229), (⟨"TongueHouseModel", "holds", "(I)I"⟩, 229), (⟨"TongueHouseModel", "thingOf", "(I)I"⟩, 229)]
theorem lw_r13 : ∀ q ∈ lw_privs_13, lw_okq q := List.forall_mem_cons.mpr ⟨lw_p192, List.forall_mem_cons.mpr ⟨lw_p193, List.forall_mem_cons.mpr ⟨lw_p194, List.forall_mem_cons.mpr ⟨lw_p195, List.forall_mem_cons.mpr ⟨lw_p196, List.forall_mem_cons.mpr ⟨lw_p197, List.forall_mem_cons.mpr ⟨lw_p198, List.forall_mem_cons.mpr ⟨lw_p199, List.forall_mem_cons.mpr ⟨lw_p200, List.forall_mem_cons.mpr ⟨lw_p201, List.forall_mem_cons.mpr ⟨lw_p202, List.forall_mem_cons.mpr ⟨lw_p203, fun _ h => absurd h List.not_mem_nil⟩⟩⟩⟩⟩⟩⟩⟩⟩⟩⟩⟩
def lw_privs : List (MethodName × Nat) := lw_privs_1 ++ (lw_privs_2 ++ (lw_privs_3 ++ (lw_privs_4 ++ (lw_privs_5 ++ (lw_privs_6 ++ (lw_privs_7 ++ (lw_privs_8 ++ (lw_privs_9 ++ (lw_privs_10 ++ (lw_privs_11 ++ (lw_privs_12 ++ (lw_privs_13))))))))))))
def lw_tbl : List Cond := k2_sels lw_privs ++ tables_1
theorem lw_privs_ok : ∀ q ∈ lw_privs, lw_okq q := by
  show ∀ q ∈ lw_privs_1 ++ (lw_privs_2 ++ (lw_privs_3 ++ (lw_privs_4 ++ (lw_privs_5 ++ (lw_privs_6 ++ (lw_privs_7 ++ (lw_privs_8 ++ (lw_privs_9 ++ (lw_privs_10 ++ (lw_privs_11 ++ (lw_privs_12 ++ (lw_privs_13)))))))))))), lw_okq q
  exact List.forall_mem_append.mpr ⟨lw_r1, List.forall_mem_append.mpr ⟨lw_r2, List.forall_mem_append.mpr ⟨lw_r3, List.forall_mem_append.mpr ⟨lw_r4, List.forall_mem_append.mpr ⟨lw_r5, List.forall_mem_append.mpr ⟨lw_r6, List.forall_mem_append.mpr ⟨lw_r7, List.forall_mem_append.mpr ⟨lw_r8, List.forall_mem_append.mpr ⟨lw_r9, List.forall_mem_append.mpr ⟨lw_r10, List.forall_mem_append.mpr ⟨lw_r11, List.forall_mem_append.mpr ⟨lw_r12, lw_r13⟩⟩⟩⟩⟩⟩⟩⟩⟩⟩⟩⟩
end
section
/-! ===== BEGIN words of one list among another's, by their places ===== -/
theorem goodIn_r {big : List Cond} (ws : List Cond) (ps : List Nat) (hp : ws = ps.filterMap (fun i => big[i]?)) (h : ws.all goodWord = true) : GoodIn big ws := by
  intro w hw
  have h1 := List.all_eq_true.mp h w hw
  rw [hp] at hw
  obtain ⟨i, -, hi⟩ := List.mem_filterMap.mp hw
  have hm : w ∈ big := by first | exact List.mem_of_getElem? hi | exact List.getElem?_mem hi
  exact ⟨hm, good_of_word h1⟩
theorem goodIn_app {big a b : List Cond} (ha : GoodIn big a) (hb : GoodIn big b) : GoodIn big (a ++ b) := fun w h => (List.mem_append.mp h).elim (ha w) (hb w)
theorem goodIn_ca {big a b : List Cond} {c : Cond} (ha : GoodIn big (c :: a)) (hb : GoodIn big b) : GoodIn big (c :: (a ++ b)) := fun w h => (List.mem_cons.mp h).elim (fun e => ha w (List.mem_cons.mpr (Or.inl e))) (fun h => (List.mem_append.mp h).elim (fun h => ha w (List.mem_cons.mpr (Or.inr h))) (hb w))
theorem goodIn_sub {big ws : List Cond} (hm : ∀ w ∈ ws, w ∈ big) (h : ws.all goodWord = true) : GoodIn big ws := fun w hw => ⟨hm w hw, good_of_word (List.all_eq_true.mp h w hw)⟩
/-! ===== END ===== -/


/-! ===== BEGIN exceptions that leave a method, and their catching by the caller (launches without stack traces) ===== -/
section VXA
/-! The laws vx_back, vx_callV, vx_callS, vx_callSW, vx_throw0, vx_throwS follow proofs of the library, with one case more: JvmDerived/Free/Laws.lean (Back.of_free), Shelf42/LK1.lean (callV, callS), Shelf/KitTraced.lean (throwNew0V, throwNewS). -/
/-- where a method has thrown q: the class by its name, the cell, what was written, the world -/
def vx_T (XC : String → State → State → Prop) (st : State) (q : Addr) (t : State) (mc ms : Nat) (free : Addr → Prop) : Prop :=
  ∃ (E : String) (ce : Cell) (L : List Loc), XC E st t ∧ t.heap[q]? = some ce ∧ ce.vm = .none ∧ st.vm.findClass E = some ce.cls ∧ st.WarmedH t.vm ∧ st.sameButNew ({ t with vm := st.vm } : State) L mc ms ∧ ∀ z ∈ L, free z.base
def vx_Q (Qc : Array Value → State → Outcome → State → Prop) (XC : String → State → State → Prop) (mc ms : Nat) (free : Addr → Prop) : Array Value → State → Outcome → State → Prop := fun a st o t =>
  (Qc a st o t ∧ ∃ L, FrameEnd st o t L mc ms ∧ ∀ q ∈ L, free q.base) ∨ ∃ q, o = .threw q ∧ vx_T XC st q t mc ms free
/-- a callee that returns or throws -/
def vx_Met (l : Launch) (y : MethodName) (ws : List Cond) (rm : Room) (Pc : Array Value → State → Prop) (Qc : Array Value → State → Outcome → State → Prop) (XC : String → State → State → Prop) (mc ms : Nat) (free : Addr → Prop) : Prop :=
  MetFree l y (headSpec ws rm) Pc (fun _ _ _ _ _ => True) (vx_Q Qc XC mc ms free)
def vx_Post (XC : String → State → State → Prop) (mc ms : Nat) (free : Addr → Prop) : Pt → Array Value → Addr → Pt → Prop := fun A a q B =>
  ∃ (g : JFrame) (mk : MethodId) (t : State) (L : List Loc) (E : String) (ce : Cell), B.U.heap = t.heap ∧ B.U.vm = t.vm ∧ XC E (A.U.calling g mk a) t ∧ t.heap[q]? = some ce ∧ ce.vm = .none ∧ A.U.vm.findClass E = some ce.cls ∧ B.locs = A.locs ++ L ∧ (∀ z ∈ L, free z.base) ∧ B.cells = A.cells + mc ∧ B.slots = A.slots + ms
def vx_Back (l : Launch) (R : Room) (p : Program) (e : Env) (below : List Frame) (s : State) (sargs : Array Value) (y : MethodName) (len W9 : Nat)
    (Pre : Pt → Array Value → Prop) (Post : Pt → Array Value → Option Value → Pt → Prop) (PostX : Pt → Array Value → Addr → Pt → Prop) : Prop :=
  ∀ (m : MethodId) (meth : Method) (c : Code) (A : Pt) (g : JFrame) (ig : Instr) (mk : MethodId) (a : Array Value),
    Stand p l e R s m sargs below meth c A.U A.locs A.cells A.slots → g.method = m → g.locals.size = c.maxLocals → decode c.code g.pc = .ok (ig, len) →
    2 * g.monitorRoom + (g.stack.map fun v => v.category).sum ≤ W9 → A.U.methodNamed? y = some mk → Pre A a →
    (∃ (v : Option Value) (B : Pt), Stand p l e R s m sargs below meth c B.U B.locs B.cells B.slots ∧ Post A a v B ∧
      Steps p.tables e below (doInvoke e (A.U.setTop g) [] mk a).1 (B.U.setTop { g with pc := g.pc + len, stack := v.toList ++ g.stack })) ∨
    (∃ (q : Addr) (B : Pt), Stand p l e R s m sargs below meth c B.U B.locs B.cells B.slots ∧ PostX A a q B ∧
      Steps p.tables e below (doInvoke e (A.U.setTop g) [] mk a).1 ((B.U.setTop g).pushFrame (.throwing q)))
section Payer
variable {l : Launch} {R : Room} {p : Program} {e : Env} {below : List Frame} {s : State} {sargs : Array Value} {y : MethodName} {len W9 : Nat}
theorem vx_back {ws : List Cond} {rm : Room} {Pc : Array Value → State → Prop} {Qc : Array Value → State → Outcome → State → Prop} {XC : String → State → State → Prop} {mc ms : Nat} {free : Addr → Prop} {bytes : ByteArray} {maxL : Nat} {ret : Option FieldType}
    (hM : vx_Met l y ws rm Pc Qc XC mc ms free) (hblind : FrameBlind Pc) (hrc : rm.cells = mc) (hrs : rm.slots = ms)
    (hframes : rm.frames + 1 ≤ R.frames) (hlocals : W9 + (maxL + 11) + rm.locals ≤ R.locals)
    (hws : ∀ w ∈ ws, ∀ a' U, s.WarmedH U.vm → w.before a' U = true) (hcode : Cond.code y bytes maxL ret ∈ ws) (hinit : ∀ a' U, s.WarmedH U.vm → (Cond.initialized y.cls).before a' U = true) :
    vx_Back l R p e below s sargs y len W9 (PreOf R mc ms Pc) (PostOf Qc mc ms free) (vx_Post XC mc ms free) := by
  intro m meth c A g ig mk a X hg hsize hdg hW hn hp
  have h1 : (headSpec ws rm).pre.before a A.U = true := atoms_intro fun w hw => hws w hw _ _ X.warmed
  have h2 : (Cond.code y bytes maxL ret).before a A.U = true := hws _ hcode _ _ X.warmed
  have h3 : (Cond.initialized y.cls).before a A.U = true := hinit _ _ X.warmed
  have h4 : A.cells + (headSpec ws rm).room.cells ≤ R.cells := by rw [show (headSpec ws rm).room.cells = mc from hrc]; exact hp.1
  have h5 : A.slots + (headSpec ws rm).room.slots ≤ R.slots := by rw [show (headSpec ws rm).room.slots = ms from hrs]; exact hp.2.1
  have hPc : Pc a (A.U.calling g mk a) := hblind _ _ _ _ hp.2.2
  obtain ⟨U, Ls, c0, s0⟩ := A
  dsimp only [Pt.U, Pt.locs, Pt.cells, Pt.slots] at h1 h2 h3 h4 h5 X hn hPc ⊢
  obtain ⟨methY, cY, hmY, hcY, -, hlY, -, -, -, -⟩ := Cond.code_spec hn h2
  obtain ⟨kY, hkY, -⟩ := className_of_methodNamed hn
  have hinitY : kY.init = .initialized := Cond.initialized_spec (findClass_of_methodNamed hn) hkY h3
  have h : At U g.method c below := by rw [hg]; exact X.here
  have hlocals9 : W9 + (maxL + 11) + (headSpec ws rm).room.locals ≤ R.locals := hlocals
  have happ : (headSpec ws rm).appliesLoose y e.platform (U.calling g mk a) = true :=
    Spec.appliesLoose_calling (g := g) h hdg hn hkY hinitY
      (X.room_calling (g := g) (R' := (headSpec ws rm).room) hsize hmY hcY hframes (by rw [hlY]; omega) h4 h5) h1
  obtain ⟨mid, hmid⟩ := h.above
  have hfr : (U.setTop g).frames = (.java g :: mid) ++ below := by rw [State.frames_setTop' g h.top, hmid]; rfl
  obtain ⟨o, s₂, hsteps, -, hend, hq⟩ := Steps.callFree hM p X.admits X.cas X.clock (acts := []) hfr happ hPc trivial
  have hq' : vx_Q Qc XC mc ms free a (U.calling g mk a) o s₂ := hq
  rw [State.frames_setTop' g h.top] at hend
  obtain ⟨g₀, hg0⟩ := Option.isSome_iff_exists.mp h.top
  obtain ⟨r, hr⟩ := State.topJava?_eq_some.mp hg0
  have hr' : (({ U with heap := s₂.heap, slotsUsed := s₂.slotsUsed } : State).setVm s₂.vm).frames = .java g₀ :: r := hr
  rcases hq' with ⟨hqc, L, hfe, hL⟩ | ⟨q, rfl, E, ce, L, hx, hce, hcv, hcl, hW₂, hsm, hL⟩
  · obtain ⟨⟨v, rfl⟩, hW₂, e2, q2, q3, q4, q5, q6⟩ := id hfe
    have e3 : s₂ = ({ (U.calling g mk a).setFrames s₂.frames with heap := s₂.heap, slotsUsed := s₂.slotsUsed } : State).setVm s₂.vm := by
      have : s₂ = ({ s₂ with vm := (U.calling g mk a).vm } : State).setVm s₂.vm := rfl
      rw [e2] at this
      exact this
    obtain ⟨c₂, i₂, len₂, hc₂, hd₂, hf₂⟩ := hend
    have hW' : U.WarmedH s₂.vm := hW₂
    have hcc : c₂ = c := by
      have h1 : s₂.code? g.method = U.code? g.method := by
        rw [State.code?_eq, State.code?_eq, hW'.alike.method?]
      exact Option.some.inj (hc₂.symm.trans (h1.trans h.code))
    subst hcc
    have hlen : len₂ = len := by rw [hdg] at hd₂; cases hd₂; rfl
    subst hlen
    have hs₂ : s₂ = (({ U with heap := s₂.heap, slotsUsed := s₂.slotsUsed } : State).setVm s₂.vm).setTop { g with pc := g.pc + len₂, stack := v.toList ++ g.stack } := by
      refine e3.trans ?_
      rw [hf₂, State.calling_eq h.top, State.setFrames_setFrames, State.setTop_of_frames _ hr', hr]
      rfl
    have hsame : U.sameButNew ({ U with heap := s₂.heap, slotsUsed := s₂.slotsUsed } : State) L mc ms := by
      refine ⟨?_, q2, q3, q4, q5, q6⟩
      obtain ⟨t, ht, -⟩ := State.frames_cons hr
      show ({ U with heap := s₂.heap, slotsUsed := s₂.slotsUsed } : State) = { U.setFrames U.frames with heap := s₂.heap, slotsUsed := s₂.slotsUsed }
      rw [State.setFrames_self ht]
    subst hg
    refine Or.inl ⟨v, ⟨(({ U with heap := s₂.heap, slotsUsed := s₂.slotsUsed } : State).setVm s₂.vm), Ls ++ L, c0 + mc, s0 + ms⟩,
      ⟨X.admits, X.cas, X.clock, X.frames, X.room, X.hears, X.method, X.code, (X.here.setHeapUsed s₂.heap s₂.slotsUsed).setVm hW'.alike, X.tail, State.WarmedH.trans X.warmed hW', X.limits, X.bytes, X.same.trans (hsame.setVm s.vm)⟩,
      ⟨g, mk, s₂, L, rfl, rfl, hqc, rfl, hL, rfl, rfl⟩, ?_⟩
    show Steps p.tables e below _ ((({ U with heap := s₂.heap, slotsUsed := s₂.slotsUsed } : State).setVm s₂.vm).setTop { g with pc := g.pc + len₂, stack := v.toList ++ g.stack })
    rw [← hs₂]
    exact hsteps
  · obtain ⟨e2, q2, q3, q4, q5, q6⟩ := id hsm
    have e3 : s₂ = ({ (U.calling g mk a).setFrames s₂.frames with heap := s₂.heap, slotsUsed := s₂.slotsUsed } : State).setVm s₂.vm := by
      have : s₂ = ({ s₂ with vm := (U.calling g mk a).vm } : State).setVm s₂.vm := rfl
      rw [e2] at this
      exact this
    have hf₂ : s₂.frames = .throwing q :: .java g :: U.frames.tail := hend
    have hW' : U.WarmedH s₂.vm := hW₂
    have hs₂ : s₂ = ((({ U with heap := s₂.heap, slotsUsed := s₂.slotsUsed } : State).setVm s₂.vm).setTop g).pushFrame (.throwing q) := by
      refine e3.trans ?_
      rw [hf₂, State.calling_eq h.top, State.setFrames_setFrames, State.pushFrame, State.frames_setTop _ hr', State.setTop_of_frames _ hr', State.setFrames_setFrames, hr]
      rfl
    have hsame : U.sameButNew ({ U with heap := s₂.heap, slotsUsed := s₂.slotsUsed } : State) L mc ms := by
      refine ⟨?_, q2, q3, q4, q5, q6⟩
      obtain ⟨t, ht, -⟩ := State.frames_cons hr
      show ({ U with heap := s₂.heap, slotsUsed := s₂.slotsUsed } : State) = { U.setFrames U.frames with heap := s₂.heap, slotsUsed := s₂.slotsUsed }
      rw [State.setFrames_self ht]
    subst hg
    refine Or.inr ⟨q, ⟨(({ U with heap := s₂.heap, slotsUsed := s₂.slotsUsed } : State).setVm s₂.vm), Ls ++ L, c0 + mc, s0 + ms⟩,
      ⟨X.admits, X.cas, X.clock, X.frames, X.room, X.hears, X.method, X.code, (X.here.setHeapUsed s₂.heap s₂.slotsUsed).setVm hW'.alike, X.tail, State.WarmedH.trans X.warmed hW', X.limits, X.bytes, X.same.trans (hsame.setVm s.vm)⟩,
      ⟨g, mk, s₂, L, E, ce, rfl, rfl, hx, hce, hcv, hcl, rfl, hL, rfl, rfl⟩, ?_⟩
    show Steps p.tables e below _ (((({ U with heap := s₂.heap, slotsUsed := s₂.slotsUsed } : State).setVm s₂.vm).setTop g).pushFrame (.throwing q))
    rw [← hs₂]
    exact hsteps
end Payer
section Calls
variable {p : Program} {l : Launch} {e : Env} {R : Room} {s : State} {m : MethodId} {args : Array Value} {below : List Frame} {meth : Method} {c : Code} {T : State} {locs : List Loc} {cells slots : Nat}
theorem vx_callV (X : Stand p l e R s m args below meth c T locs cells slots) (hexec : p.tables.exec = Jvm.exec) {own C : String} {index : Nat} {y : MethodName} {bytes : ByteArray} {maxL : Nat} {ret : Option FieldType}
    (hown : s.vm.findClass own = some m.cls) (hlink : (Cond.methodLink own index y).before args s = true) (hinst : (Cond.instanceMethod y).before args s = true) (hsel : (Cond.selects C y y).before args s = true)
    (hcode : (Cond.code y bytes maxL ret).before args s = true) (hy : y.cls ≠ "java/lang/invoke/MethodHandle" ∧ y.cls ≠ "java/lang/invoke/VarHandle")
    {W9 : Nat} {Pre : Pt → Array Value → Prop} {Post : Pt → Array Value → Option Value → Pt → Prop} {PostX : Pt → Array Value → Addr → Pt → Prop} (hK : vx_Back l R p e below s args y 3 W9 Pre Post PostX)
    {b : Addr} {cellB : Cell} (hcell : T.heap[b]? = some cellB) (hobj : cellB.vm.isStatics = false) (hcls : s.vm.findClass C = some cellB.cls)
    {g : JFrame} (hg : g.method = m) (hsize : g.locals.size = c.maxLocals) {argsL rest : List Value} (hlen : ∀ sig, parseMethodDescriptor y.desc = some sig → argsL.length = sig.parameters.length)
    (hstack : g.stack = argsL.reverse ++ .ref b :: rest) (hW : 2 * g.monitorRoom + (rest.map fun v => v.category).sum ≤ W9) (hdg : decode c.code g.pc = .ok (.invokevirtual index, 3))
    (hpre : ∀ vm₁, s.WarmedH vm₁ → Pre ⟨T.setVm vm₁, locs, cells, slots⟩ (Value.ref b :: argsL).toArray) :
    (∃ (v : Option Value) (vm₁ : Vm) (B : Pt), s.WarmedH vm₁ ∧ Stand p l e R s m args below meth c B.U B.locs B.cells B.slots ∧ Post ⟨T.setVm vm₁, locs, cells, slots⟩ (Value.ref b :: argsL).toArray v B ∧
      ∀ target, Steps p.tables e below (B.U.setTop { g with pc := g.pc + 3, stack := v.toList ++ rest }) target → Steps p.tables e below (T.setTop g) target) ∨
    (∃ (q : Addr) (vm₁ : Vm) (B : Pt), s.WarmedH vm₁ ∧ Stand p l e R s m args below meth c B.U B.locs B.cells B.slots ∧ PostX ⟨T.setVm vm₁, locs, cells, slots⟩ (Value.ref b :: argsL).toArray q B ∧
      Steps p.tables e below (T.setTop g) ((B.U.setTop { g with stack := rest }).pushFrame (.throwing q))) := by
  obtain ⟨mk, methM, hnamed, hmethM, hstM, habM⟩ := Cond.instanceMethod_spec hinst
  obtain ⟨methM', cM, hmethM', -, -, -, -, -, -, hsigM⟩ := Cond.code_spec hnamed hcode
  cases hmethM.symm.trans hmethM'
  obtain ⟨c2, r2, m2, q1, q2, q3, q4, kP, hkP, hkPi⟩ := Cond.selects_spec hsel
  cases hcls.symm.trans q1
  cases (State.methodFound?_of_named hnamed hy).symm.trans q2
  cases hnamed.symm.trans q3
  have hselP : selectMethod e.platform s.vm cellB.cls mk = .method mk := by rw [Launch.admits_selectMethod X.admits]; exact q4
  obtain ⟨vm₁, X₁, hstep₁⟩ := X.invokevirtual hexec hown hlink hnamed hmethM hstM hkP hkPi hy (a := b) (cell := cellB) hcell
    (fun z h => by rw [h] at hobj; cases hobj) hselP hmethM habM hkP hkPi (g := g) hg (argsL := argsL) (rest := rest) (hlen _ hsigM) hstack hdg
  rcases hK m meth c ⟨T.setVm vm₁, locs, cells, slots⟩ { g with stack := rest } (.invokevirtual index) mk (Value.ref b :: argsL).toArray X₁ hg hsize hdg hW (X₁.named hnamed) (hpre vm₁ X₁.warmed) with ⟨v, B, X', hpost, hsteps⟩ | ⟨q, B, X', hpost, hsteps⟩
  · exact Or.inl ⟨v, vm₁, B, X₁.warmed, X', hpost, fun target h => hstep₁ _ fun acts => by rw [doInvoke_state]; exact hsteps.trans h⟩
  · exact Or.inr ⟨q, vm₁, B, X₁.warmed, X', hpost, hstep₁ _ fun acts => by rw [doInvoke_state]; exact hsteps⟩
theorem vx_callS (X : Stand p l e R s m args below meth c T locs cells slots) (hexec : p.tables.exec = Jvm.exec) {own : String} {index : Nat} {y : MethodName} {bytes : ByteArray} {maxL : Nat} {ret : Option FieldType}
    (hown : s.vm.findClass own = some m.cls) (hlink : (Cond.methodLink own index y).before args s = true) (hstat : (Cond.static y).before args s = true) (hinit : (Cond.initialized y.cls).before args s = true)
    (hcode : (Cond.code y bytes maxL ret).before args s = true) (hy : y.cls ≠ "java/lang/invoke/MethodHandle" ∧ y.cls ≠ "java/lang/invoke/VarHandle")
    {W9 : Nat} {Pre : Pt → Array Value → Prop} {Post : Pt → Array Value → Option Value → Pt → Prop} {PostX : Pt → Array Value → Addr → Pt → Prop} (hK : vx_Back l R p e below s args y 3 W9 Pre Post PostX)
    {g : JFrame} (hg : g.method = m) (hsize : g.locals.size = c.maxLocals) {argsL rest : List Value} (hlen : ∀ sig, parseMethodDescriptor y.desc = some sig → argsL.length = sig.parameters.length)
    (hstack : g.stack = argsL.reverse ++ rest) (hW : 2 * g.monitorRoom + (rest.map fun v => v.category).sum ≤ W9) (hdg : decode c.code g.pc = .ok (.invokestatic index, 3))
    (hpre : ∀ vm₁, s.WarmedH vm₁ → Pre ⟨T.setVm vm₁, locs, cells, slots⟩ argsL.toArray) :
    (∃ (v : Option Value) (vm₁ : Vm) (B : Pt), s.WarmedH vm₁ ∧ Stand p l e R s m args below meth c B.U B.locs B.cells B.slots ∧ Post ⟨T.setVm vm₁, locs, cells, slots⟩ argsL.toArray v B ∧
      ∀ target, Steps p.tables e below (B.U.setTop { g with pc := g.pc + 3, stack := v.toList ++ rest }) target → Steps p.tables e below (T.setTop g) target) ∨
    (∃ (q : Addr) (vm₁ : Vm) (B : Pt), s.WarmedH vm₁ ∧ Stand p l e R s m args below meth c B.U B.locs B.cells B.slots ∧ PostX ⟨T.setVm vm₁, locs, cells, slots⟩ argsL.toArray q B ∧
      Steps p.tables e below (T.setTop g) ((B.U.setTop { g with stack := rest }).pushFrame (.throwing q))) := by
  obtain ⟨mk, hnamed⟩ := Cond.code_named hcode
  obtain ⟨methM, cM, hmethM, -, -, -, -, -, -, hsigM⟩ := Cond.code_spec hnamed hcode
  have hstatic : methM.isStatic = true := Cond.static_spec hnamed hmethM hstat
  obtain ⟨kP, hkP, -⟩ := className_of_methodNamed hnamed
  have hinitP : kP.init = .initialized := Cond.initialized_spec (findClass_of_methodNamed hnamed) hkP hinit
  obtain ⟨vm₁, X₁, hstep₁⟩ := X.invokestatic hexec hown hlink hnamed hmethM hstatic hkP hinitP hy (g := g) hg (argsL := argsL) (rest := rest) (hlen _ hsigM) hstack hdg
  rcases hK m meth c ⟨T.setVm vm₁, locs, cells, slots⟩ { g with stack := rest } (.invokestatic index) mk argsL.toArray X₁ hg hsize hdg hW (X₁.named hnamed) (hpre vm₁ X₁.warmed) with ⟨v, B, X', hpost, hsteps⟩ | ⟨q, B, X', hpost, hsteps⟩
  · exact Or.inl ⟨v, vm₁, B, X₁.warmed, X', hpost, fun target h => hstep₁ _ fun acts => by rw [doInvoke_state]; exact hsteps.trans h⟩
  · exact Or.inr ⟨q, vm₁, B, X₁.warmed, X', hpost, hstep₁ _ fun acts => by rw [doInvoke_state]; exact hsteps⟩
end Calls
theorem vx_cls {s : State} {T : State} {vm₁ : Vm} {E : String} {k : ClassId} (hW : s.WarmedH vm₁) (h : (T.setVm vm₁).vm.findClass E = some k) : s.vm.findClass E = some k := by
  have h1 : vm₁.findClass E = some k := h
  rw [hW.alike.findClass] at h1
  exact h1
/-- the method's frame g, with q thrown over it -/
def vx_W (p : Program) (l : Launch) (e : Env) (R : Room) (s : State) (m : MethodId) (args : Array Value) (below : List Frame) (meth : Method) (c : Code) (H : Heap) (locs : List Loc) (cells slots : Nat) (Q : State → Prop) (g : JFrame) (q : Addr) : Prop :=
  ∀ T : State, T.heap = H → Stand p l e R s m args below meth c T locs cells slots → ∃ t, Steps p.tables e below ((T.setTop g).pushFrame (.throwing q)) t ∧ Q t
def vx_Run (p : Program) (l : Launch) (e : Env) (R : Room) (s : State) (m : MethodId) (args : Array Value) (below : List Frame) (meth : Method) (c : Code) (H : Heap) (locs : List Loc) (cells slots mc ms : Nat) (g : JFrame) (rest : List Value) (Qa : State → Outcome → State → Prop) (XC : String → State → State → Prop) (free : Addr → Prop) : Prop :=
  ∀ T : State, T.heap = H → Stand p l e R s m args below meth c T locs cells slots →
    (∃ (v : Option Value) (st₀ t T' : State) (L : List Loc), st₀.heap = H ∧ Stand p l e R s m args below meth c T' (locs ++ L) (cells + mc) (slots + ms) ∧ (∀ q ∈ L, free q.base) ∧ T'.heap = t.heap ∧ T'.vm = t.vm ∧ Qa st₀ (.returned v) t ∧
      Goes p e below T g T' { g with pc := g.pc + 3, stack := v.toList ++ rest }) ∨
    (∃ (q : Addr) (st₀ t T' : State) (L : List Loc) (E : String) (ce : Cell), st₀.heap = H ∧ Stand p l e R s m args below meth c T' (locs ++ L) (cells + mc) (slots + ms) ∧ (∀ z ∈ L, free z.base) ∧ T'.heap = t.heap ∧ T'.vm = t.vm ∧ XC E st₀ t ∧ t.heap[q]? = some ce ∧ ce.vm = .none ∧ s.vm.findClass E = some ce.cls ∧
      Steps p.tables e below (T.setTop g) ((T'.setTop { g with stack := rest }).pushFrame (.throwing q)))
def vx_X {S : Type} (px : S → Prop) (B : String → S → State → Prop) (A : Nat → Prop) : String → State → State → Prop := fun E st t => ∃ u : S, px u ∧ B E u t ∧ va_F A st t
section Runs
variable {p : Program} {l : Launch} {e : Env} {R : Room} {s : State} {m : MethodId} {args : Array Value} {below : List Frame} {meth : Method} {c : Code} {H : Heap} {locs : List Loc} {cells slots : Nat}
variable {y : MethodName} {bytes cc : ByteArray} {maxL nL mc ms n index : Nat} {ret : Option FieldType} {ws : List Cond} {rm : Room} {Pc : Array Value → State → Prop} {Qc : Array Value → State → Outcome → State → Prop} {XC : String → State → State → Prop} {free : Addr → Prop} {Ts : List Cond} {own C : String} {b : Addr} {As rest : List Value} {g : JFrame}
theorem vx_callBack (cb : CallB R s args own index y bytes maxL ret ws rm mc ms n) (hM : vx_Met l y ws rm Pc Qc XC mc ms free) (hbl : FrameBlind Pc) : vx_Back l R p e below s args y 3 8 (PreOf R mc ms Pc) (PostOf Qc mc ms free) (vx_Post XC mc ms free) := by
  obtain ⟨hrc, hrs, hfr, hlo, hws, hcw, -, hini, -⟩ := cb
  exact vx_back (bytes := bytes) (maxL := maxL) (ret := ret) hM hbl hrc hrs hfr hlo hws hcw (fun a' U hW => word_at hW (Or.inl (by first | rfl | simp [Cond.onTables, Cond.keeps, Cond.steady])) hini)
theorem vx_runV (S : CallFix p m c cc nL s args Ts own) (hM : vx_Met l y ws rm Pc Qc XC mc ms free) (cw : CallW R s args own C index y bytes maxL ret ws rm mc ms n) (hp : PreV s H C b Pc As)
    (hg : g.method = m) (hn : As.length = n) (hsize : g.locals.size = nL) (hstack : g.stack = As.reverse ++ .ref b :: rest) (hW : 2 * g.monitorRoom + (rest.map fun v => v.category).sum ≤ 8) (hdg : decode cc g.pc = .ok (.invokevirtual index, 3)) (hf : cells + mc ≤ R.cells ∧ slots + ms ≤ R.slots) :
    vx_Run p l e R s m args below meth c H locs cells slots mc ms g rest (Qc (Value.ref b :: As).toArray) XC free := by
  have hK : vx_Back l R p e below s args y 3 8 (PreOf R mc ms Pc) (PostOf Qc mc ms free) (vx_Post XC mc ms free) := vx_callBack cw.1 hM hp.1
  obtain ⟨⟨-, -, -, -, -, -, hcode, -, hy, hlen, hl⟩, hin, hse⟩ := cw
  obtain ⟨hx, hb, hml, ho, -⟩ := S
  obtain ⟨-, ⟨cellB, hcB, hoB, hclB⟩, hPc⟩ := hp
  intro T hT X
  rcases vx_callV X hx (C := C) (bytes := bytes) (maxL := maxL) (ret := ret) ho hl hin hse hcode hy hK (by rw [hT]; exact hcB) hoB hclB hg (hsize.trans hml.symm) (argsL := As) (rest := rest) (fun sig h => hn.trans (hlen sig h)) hstack hW (by rw [hb]; exact hdg)
    (fun vm₁ hW₁ => ⟨hf.1, hf.2, hPc (T.setVm vm₁) hT hW₁⟩) with ⟨v, vm₁, ⟨U', l2, c2, s2⟩, hW₁, X', ⟨g', mk, t, L, e1, e2, hq, h1, hL, h2, h3⟩, st⟩ | ⟨q, vm₁, ⟨U', l2, c2, s2⟩, hW₁, X', ⟨g', mk, t, L, E, ce, e1, e2, hq, hce, hcv, hcl, h1, hL, h2, h3⟩, st⟩
  · dsimp only [Pt.U, Pt.locs, Pt.cells, Pt.slots] at X' e1 e2 h1 h2 h3 st
    subst h1; subst h2; subst h3
    exact Or.inl ⟨v, (T.setVm vm₁).calling g' mk (Value.ref b :: As).toArray, t, U', L, hT, X', hL, e1, e2, hq, st⟩
  · dsimp only [Pt.U, Pt.locs, Pt.cells, Pt.slots] at X' e1 e2 h1 h2 h3 st hcl
    subst h1; subst h2; subst h3
    exact Or.inr ⟨q, (T.setVm vm₁).calling g' mk (Value.ref b :: As).toArray, t, U', L, E, ce, hT, X', hL, e1, e2, hq, hce, hcv, vx_cls hW₁ hcl, st⟩
theorem vx_runS (S : CallFix p m c cc nL s args Ts own) (hM : vx_Met l y ws rm Pc Qc XC mc ms free) (cw : CallB R s args own index y bytes maxL ret ws rm mc ms n ∧ (Cond.static y).before args s = true) (hp : PreS s H Pc As)
    (hg : g.method = m) (hn : As.length = n) (hsize : g.locals.size = nL) (hstack : g.stack = As.reverse ++ rest) (hW : 2 * g.monitorRoom + (rest.map fun v => v.category).sum ≤ 8) (hdg : decode cc g.pc = .ok (.invokestatic index, 3)) (hf : cells + mc ≤ R.cells ∧ slots + ms ≤ R.slots) :
    vx_Run p l e R s m args below meth c H locs cells slots mc ms g rest (Qc As.toArray) XC free := by
  have hK : vx_Back l R p e below s args y 3 8 (PreOf R mc ms Pc) (PostOf Qc mc ms free) (vx_Post XC mc ms free) := vx_callBack cw.1 hM hp.1
  obtain ⟨⟨-, -, -, -, -, -, hcode, hini, hy, hlen, hl⟩, hstt⟩ := cw
  obtain ⟨hx, hb, hml, ho, -⟩ := S
  intro T hT X
  rcases vx_callS X hx (bytes := bytes) (maxL := maxL) (ret := ret) ho hl hstt hini hcode hy hK hg (hsize.trans hml.symm) (argsL := As) (rest := rest) (fun sig h => hn.trans (hlen sig h)) hstack hW (by rw [hb]; exact hdg)
    (fun vm₁ hW₁ => ⟨hf.1, hf.2, hp.2 (T.setVm vm₁) hT hW₁⟩) with ⟨v, vm₁, ⟨U', l2, c2, s2⟩, hW₁, X', ⟨g', mk, t, L, e1, e2, hq, h1, hL, h2, h3⟩, st⟩ | ⟨q, vm₁, ⟨U', l2, c2, s2⟩, hW₁, X', ⟨g', mk, t, L, E, ce, e1, e2, hq, hce, hcv, hcl, h1, hL, h2, h3⟩, st⟩
  · dsimp only [Pt.U, Pt.locs, Pt.cells, Pt.slots] at X' e1 e2 h1 h2 h3 st
    subst h1; subst h2; subst h3
    exact Or.inl ⟨v, (T.setVm vm₁).calling g' mk As.toArray, t, U', L, hT, X', hL, e1, e2, hq, st⟩
  · dsimp only [Pt.U, Pt.locs, Pt.cells, Pt.slots] at X' e1 e2 h1 h2 h3 st hcl
    subst h1; subst h2; subst h3
    exact Or.inr ⟨q, (T.setVm vm₁).calling g' mk As.toArray, t, U', L, E, ce, hT, X', hL, e1, e2, hq, hce, hcv, vx_cls hW₁ hcl, st⟩
end Runs
section Rows
variable {p : Program} {l : Launch} {e : Env} {R : Room} {s : State} {m : MethodId} {args : Array Value} {below : List Frame} {meth : Method} {c : Code} {H : Heap} {locs : List Loc} {cells slots : Nat} {Q : State → Prop}
variable {mc ms : Nat} {free : Addr → Prop} {A0 A1 : Nat → Prop} {H0 : Heap} {a : Array Value} {pc : Nat} {ls : Array Slot} {st0 rest : List Value}
theorem vx_keep {st₀ t T' : State} {L : List Loc} (h0 : st₀.heap = H) (e1 : T'.heap = t.heap) (hS : va_S A0 H0 H locs) (hA : ∀ q, q < H.size → A1 q → A0 q) (hf : ∀ q, free q → A0 q) (hL : ∀ q ∈ L, free q.base) (hF : va_F A1 st₀ t) :
    H.size ≤ T'.heap.size ∧ (∀ q : Nat, q < H.size → ¬ A1 q → T'.heap[q]? = H[q]?) ∧ va_S A0 H0 T'.heap (locs ++ L) := by
  obtain ⟨hz, hk⟩ := hF
  rw [h0] at hz hk
  exact ⟨by rw [e1]; exact hz, fun q h1 h2 => by rw [e1]; exact hk q h1 h2,
    ⟨Nat.le_trans hS.1 (by rw [e1]; exact hz), fun q h1 h2 => by rw [e1, hk q (Nat.lt_of_lt_of_le h1 hS.1) (fun z => h2 (hA q (Nat.lt_of_lt_of_le h1 hS.1) z))]; exact hS.2.1 q h1 h2, fun q hq => by
      rcases List.mem_append.mp hq with h | h
      · exact hS.2.2 q h
      · exact hf _ (hL q h)⟩⟩
theorem vx_calli {S SX : Type} {post : Int32 → S → Prop} {px : SX → Prop} {B : S → State → Prop} {BX : String → SX → State → Prop} {AX : Nat → Prop} (hr : vx_Run p l e R s m args below meth c H locs cells slots mc ms (F0 m pc ls st0) rest (va_Qi post B A1 a) (vx_X px BX AX) free) (hS : va_S A0 H0 H locs) (hA : ∀ q, q < H.size → A1 q → A0 q) (hf : ∀ q, free q → A0 q) (hAX : ∀ q, q < H.size → AX q → A0 q)
    (kx : ∀ (E : String) (ce : Cell) (q9 : Addr) (u : SX) (t : State) (H1 : Heap) (locs1 : List Loc), t.heap = H1 → s.vm.Alike t.vm → px u → BX E u t → H.size ≤ H1.size → (∀ q : Nat, q < H.size → ¬ AX q → H1[q]? = H[q]?) → va_S A0 H0 H1 locs1 → H1[q9]? = some ce → ce.vm = .none → s.vm.findClass E = some ce.cls → vx_W p l e R s m args below meth c H1 locs1 (cells + mc) (slots + ms) Q (F0 m pc ls rest) q9)
    (kk : ∀ (r : Int32) (u : S) (t : State) (H1 : Heap) (locs1 : List Loc), t.heap = H1 → s.vm.Alike t.vm → post r u → B u t → H.size ≤ H1.size → (∀ q : Nat, q < H.size → ¬ A1 q → H1[q]? = H[q]?) → va_S A0 H0 H1 locs1 → W p l e R s m args below meth c H1 locs1 (cells + mc) (slots + ms) Q (F0 m (pc + 3) ls (.int r :: rest))) : W p l e R s m args below meth c H locs cells slots Q (F0 m pc ls st0) := by
  intro T hT X
  rcases hr T hT X with ⟨v, st₀, t, T', L, h0, X', hL, e1, e2, ⟨⟨r, u, hv, hp, hb⟩, hF⟩, st⟩ | ⟨q, st₀, t, T', L, E, ce, h0, X', hL, e1, e2, ⟨u, hp, hb, hF⟩, hce, hcv, hcl, st⟩
  · cases hv
    obtain ⟨k1, k2, k3⟩ := vx_keep h0 e1 hS hA hf hL hF
    obtain ⟨t2, a1, b1⟩ := kk r u t T'.heap (locs ++ L) e1.symm (by rw [← e2]; exact X'.warmed.alike) hp hb k1 k2 k3 T' rfl X'
    exact ⟨t2, st t2 a1, b1⟩
  · obtain ⟨k1, k2, k3⟩ := vx_keep h0 e1 hS hAX hf hL hF
    obtain ⟨t2, a1, b1⟩ := kx E ce q u t T'.heap (locs ++ L) e1.symm (by rw [← e2]; exact X'.warmed.alike) hp hb k1 k2 k3 (by rw [e1]; exact hce) hcv hcl T' rfl X'
    exact ⟨t2, st.trans a1, b1⟩
theorem vx_calll {S SX : Type} {post : Int64 → S → Prop} {px : SX → Prop} {B : S → State → Prop} {BX : String → SX → State → Prop} {AX : Nat → Prop} (hr : vx_Run p l e R s m args below meth c H locs cells slots mc ms (F0 m pc ls st0) rest (va_Ql post B A1 a) (vx_X px BX AX) free) (hS : va_S A0 H0 H locs) (hA : ∀ q, q < H.size → A1 q → A0 q) (hf : ∀ q, free q → A0 q) (hAX : ∀ q, q < H.size → AX q → A0 q)
    (kx : ∀ (E : String) (ce : Cell) (q9 : Addr) (u : SX) (t : State) (H1 : Heap) (locs1 : List Loc), t.heap = H1 → s.vm.Alike t.vm → px u → BX E u t → H.size ≤ H1.size → (∀ q : Nat, q < H.size → ¬ AX q → H1[q]? = H[q]?) → va_S A0 H0 H1 locs1 → H1[q9]? = some ce → ce.vm = .none → s.vm.findClass E = some ce.cls → vx_W p l e R s m args below meth c H1 locs1 (cells + mc) (slots + ms) Q (F0 m pc ls rest) q9)
    (kk : ∀ (r : Int64) (u : S) (t : State) (H1 : Heap) (locs1 : List Loc), t.heap = H1 → s.vm.Alike t.vm → post r u → B u t → H.size ≤ H1.size → (∀ q : Nat, q < H.size → ¬ A1 q → H1[q]? = H[q]?) → va_S A0 H0 H1 locs1 → W p l e R s m args below meth c H1 locs1 (cells + mc) (slots + ms) Q (F0 m (pc + 3) ls (.long r :: rest))) : W p l e R s m args below meth c H locs cells slots Q (F0 m pc ls st0) := by
  intro T hT X
  rcases hr T hT X with ⟨v, st₀, t, T', L, h0, X', hL, e1, e2, ⟨⟨r, u, hv, hp, hb⟩, hF⟩, st⟩ | ⟨q, st₀, t, T', L, E, ce, h0, X', hL, e1, e2, ⟨u, hp, hb, hF⟩, hce, hcv, hcl, st⟩
  · cases hv
    obtain ⟨k1, k2, k3⟩ := vx_keep h0 e1 hS hA hf hL hF
    obtain ⟨t2, a1, b1⟩ := kk r u t T'.heap (locs ++ L) e1.symm (by rw [← e2]; exact X'.warmed.alike) hp hb k1 k2 k3 T' rfl X'
    exact ⟨t2, st t2 a1, b1⟩
  · obtain ⟨k1, k2, k3⟩ := vx_keep h0 e1 hS hAX hf hL hF
    obtain ⟨t2, a1, b1⟩ := kx E ce q u t T'.heap (locs ++ L) e1.symm (by rw [← e2]; exact X'.warmed.alike) hp hb k1 k2 k3 (by rw [e1]; exact hce) hcv hcl T' rfl X'
    exact ⟨t2, st.trans a1, b1⟩
theorem vx_callf {S SX : Type} {post : UInt32 → S → Prop} {px : SX → Prop} {B : S → State → Prop} {BX : String → SX → State → Prop} {AX : Nat → Prop} (hr : vx_Run p l e R s m args below meth c H locs cells slots mc ms (F0 m pc ls st0) rest (va_Qf post B A1 a) (vx_X px BX AX) free) (hS : va_S A0 H0 H locs) (hA : ∀ q, q < H.size → A1 q → A0 q) (hf : ∀ q, free q → A0 q) (hAX : ∀ q, q < H.size → AX q → A0 q)
    (kx : ∀ (E : String) (ce : Cell) (q9 : Addr) (u : SX) (t : State) (H1 : Heap) (locs1 : List Loc), t.heap = H1 → s.vm.Alike t.vm → px u → BX E u t → H.size ≤ H1.size → (∀ q : Nat, q < H.size → ¬ AX q → H1[q]? = H[q]?) → va_S A0 H0 H1 locs1 → H1[q9]? = some ce → ce.vm = .none → s.vm.findClass E = some ce.cls → vx_W p l e R s m args below meth c H1 locs1 (cells + mc) (slots + ms) Q (F0 m pc ls rest) q9)
    (kk : ∀ (r : UInt32) (u : S) (t : State) (H1 : Heap) (locs1 : List Loc), t.heap = H1 → s.vm.Alike t.vm → post r u → B u t → H.size ≤ H1.size → (∀ q : Nat, q < H.size → ¬ A1 q → H1[q]? = H[q]?) → va_S A0 H0 H1 locs1 → W p l e R s m args below meth c H1 locs1 (cells + mc) (slots + ms) Q (F0 m (pc + 3) ls (.float r :: rest))) : W p l e R s m args below meth c H locs cells slots Q (F0 m pc ls st0) := by
  intro T hT X
  rcases hr T hT X with ⟨v, st₀, t, T', L, h0, X', hL, e1, e2, ⟨⟨r, u, hv, hp, hb⟩, hF⟩, st⟩ | ⟨q, st₀, t, T', L, E, ce, h0, X', hL, e1, e2, ⟨u, hp, hb, hF⟩, hce, hcv, hcl, st⟩
  · cases hv
    obtain ⟨k1, k2, k3⟩ := vx_keep h0 e1 hS hA hf hL hF
    obtain ⟨t2, a1, b1⟩ := kk r u t T'.heap (locs ++ L) e1.symm (by rw [← e2]; exact X'.warmed.alike) hp hb k1 k2 k3 T' rfl X'
    exact ⟨t2, st t2 a1, b1⟩
  · obtain ⟨k1, k2, k3⟩ := vx_keep h0 e1 hS hAX hf hL hF
    obtain ⟨t2, a1, b1⟩ := kx E ce q u t T'.heap (locs ++ L) e1.symm (by rw [← e2]; exact X'.warmed.alike) hp hb k1 k2 k3 (by rw [e1]; exact hce) hcv hcl T' rfl X'
    exact ⟨t2, st.trans a1, b1⟩
theorem vx_calld {S SX : Type} {post : UInt64 → S → Prop} {px : SX → Prop} {B : S → State → Prop} {BX : String → SX → State → Prop} {AX : Nat → Prop} (hr : vx_Run p l e R s m args below meth c H locs cells slots mc ms (F0 m pc ls st0) rest (va_Qd post B A1 a) (vx_X px BX AX) free) (hS : va_S A0 H0 H locs) (hA : ∀ q, q < H.size → A1 q → A0 q) (hf : ∀ q, free q → A0 q) (hAX : ∀ q, q < H.size → AX q → A0 q)
    (kx : ∀ (E : String) (ce : Cell) (q9 : Addr) (u : SX) (t : State) (H1 : Heap) (locs1 : List Loc), t.heap = H1 → s.vm.Alike t.vm → px u → BX E u t → H.size ≤ H1.size → (∀ q : Nat, q < H.size → ¬ AX q → H1[q]? = H[q]?) → va_S A0 H0 H1 locs1 → H1[q9]? = some ce → ce.vm = .none → s.vm.findClass E = some ce.cls → vx_W p l e R s m args below meth c H1 locs1 (cells + mc) (slots + ms) Q (F0 m pc ls rest) q9)
    (kk : ∀ (r : UInt64) (u : S) (t : State) (H1 : Heap) (locs1 : List Loc), t.heap = H1 → s.vm.Alike t.vm → post r u → B u t → H.size ≤ H1.size → (∀ q : Nat, q < H.size → ¬ A1 q → H1[q]? = H[q]?) → va_S A0 H0 H1 locs1 → W p l e R s m args below meth c H1 locs1 (cells + mc) (slots + ms) Q (F0 m (pc + 3) ls (.double r :: rest))) : W p l e R s m args below meth c H locs cells slots Q (F0 m pc ls st0) := by
  intro T hT X
  rcases hr T hT X with ⟨v, st₀, t, T', L, h0, X', hL, e1, e2, ⟨⟨r, u, hv, hp, hb⟩, hF⟩, st⟩ | ⟨q, st₀, t, T', L, E, ce, h0, X', hL, e1, e2, ⟨u, hp, hb, hF⟩, hce, hcv, hcl, st⟩
  · cases hv
    obtain ⟨k1, k2, k3⟩ := vx_keep h0 e1 hS hA hf hL hF
    obtain ⟨t2, a1, b1⟩ := kk r u t T'.heap (locs ++ L) e1.symm (by rw [← e2]; exact X'.warmed.alike) hp hb k1 k2 k3 T' rfl X'
    exact ⟨t2, st t2 a1, b1⟩
  · obtain ⟨k1, k2, k3⟩ := vx_keep h0 e1 hS hAX hf hL hF
    obtain ⟨t2, a1, b1⟩ := kx E ce q u t T'.heap (locs ++ L) e1.symm (by rw [← e2]; exact X'.warmed.alike) hp hb k1 k2 k3 (by rw [e1]; exact hce) hcv hcl T' rfl X'
    exact ⟨t2, st.trans a1, b1⟩
theorem vx_callv {S SX : Type} {post : S → Prop} {px : SX → Prop} {B : S → State → Prop} {BX : String → SX → State → Prop} {AX : Nat → Prop} (hr : vx_Run p l e R s m args below meth c H locs cells slots mc ms (F0 m pc ls st0) rest (va_Qv post B A1 a) (vx_X px BX AX) free) (hS : va_S A0 H0 H locs) (hA : ∀ q, q < H.size → A1 q → A0 q) (hf : ∀ q, free q → A0 q) (hAX : ∀ q, q < H.size → AX q → A0 q)
    (kx : ∀ (E : String) (ce : Cell) (q9 : Addr) (u : SX) (t : State) (H1 : Heap) (locs1 : List Loc), t.heap = H1 → s.vm.Alike t.vm → px u → BX E u t → H.size ≤ H1.size → (∀ q : Nat, q < H.size → ¬ AX q → H1[q]? = H[q]?) → va_S A0 H0 H1 locs1 → H1[q9]? = some ce → ce.vm = .none → s.vm.findClass E = some ce.cls → vx_W p l e R s m args below meth c H1 locs1 (cells + mc) (slots + ms) Q (F0 m pc ls rest) q9)
    (kk : ∀ (u : S) (t : State) (H1 : Heap) (locs1 : List Loc), t.heap = H1 → s.vm.Alike t.vm → post u → B u t → H.size ≤ H1.size → (∀ q : Nat, q < H.size → ¬ A1 q → H1[q]? = H[q]?) → va_S A0 H0 H1 locs1 → W p l e R s m args below meth c H1 locs1 (cells + mc) (slots + ms) Q (F0 m (pc + 3) ls (rest))) : W p l e R s m args below meth c H locs cells slots Q (F0 m pc ls st0) := by
  intro T hT X
  rcases hr T hT X with ⟨v, st₀, t, T', L, h0, X', hL, e1, e2, ⟨⟨u, hv, hp, hb⟩, hF⟩, st⟩ | ⟨q, st₀, t, T', L, E, ce, h0, X', hL, e1, e2, ⟨u, hp, hb, hF⟩, hce, hcv, hcl, st⟩
  · cases hv
    obtain ⟨k1, k2, k3⟩ := vx_keep h0 e1 hS hA hf hL hF
    obtain ⟨t2, a1, b1⟩ := kk u t T'.heap (locs ++ L) e1.symm (by rw [← e2]; exact X'.warmed.alike) hp hb k1 k2 k3 T' rfl X'
    exact ⟨t2, st t2 a1, b1⟩
  · obtain ⟨k1, k2, k3⟩ := vx_keep h0 e1 hS hAX hf hL hF
    obtain ⟨t2, a1, b1⟩ := kx E ce q u t T'.heap (locs ++ L) e1.symm (by rw [← e2]; exact X'.warmed.alike) hp hb k1 k2 k3 (by rw [e1]; exact hce) hcv hcl T' rfl X'
    exact ⟨t2, st.trans a1, b1⟩
end Rows
section Ends
variable {p : Program} {l : Launch} {e : Env} {R : Room} {s : State} {m : MethodId} {args : Array Value} {below : List Frame} {meth : Method} {c : Code} {H : Heap} {locs : List Loc} {cells slots : Nat} {Q : State → Prop}
variable {mc ms : Nat} {free : Addr → Prop} {A0 A1 : Nat → Prop} {H0 : Heap} {a : Array Value} {ls : Array Slot} {st0 rest : List Value}
variable {Qc : Array Value → State → Outcome → State → Prop} {XC : String → State → State → Prop}
/-- what a body that may throw owes at its end -/
def vx_MQ (below : List Frame) (Qc : Array Value → State → Outcome → State → Prop) (XC : String → State → State → Prop) (a : Array Value) (s : State) (mc ms : Nat) (free : Addr → Prop) : State → Prop := fun t =>
  ∃ o, t.status = .running ∧ Ended t below o ∧ vx_Q Qc XC mc ms free a s o t
theorem vx_ret {g : JFrame} {mc ms : Nat} (k : W p l e R s m args below meth c H locs cells slots (MQ below Qc args s mc ms free) g) : W p l e R s m args below meth c H locs cells slots (vx_MQ below Qc XC args s mc ms free) g := by
  intro T hT X
  obtain ⟨t, a1, o, b1, b2, b3, b4⟩ := k T hT X
  exact ⟨t, a1, o, b1, b2, Or.inl ⟨b3, b4⟩⟩
/-- not caught here: it goes on to the caller -/
theorem vx_widen {g : JFrame} {q : Addr} {k n : Nat} (h1 : cells ≤ k) (h2 : slots ≤ n) (kk : vx_W p l e R s m args below meth c H locs k n Q g q) : vx_W p l e R s m args below meth c H locs cells slots Q g q := fun T hT X => kk T hT (stand_widen X h1 h2)
theorem vx_out {pc : Nat} {E : String} {ce : Cell} {q : Addr} {mc ms : Nat} (hout : ∀ x ∈ c.exceptionTable.toList, covers x pc = false) (hlocks : meth.locks = false) (hcell : H[q]? = some ce) (hv : ce.vm = .none) (hcl : s.vm.findClass E = some ce.cls)
    (hx : ∀ t : State, t.heap = H → s.vm.Alike t.vm → XC E s t) (hf : ∀ z ∈ locs, free z.base) (hc : cells ≤ mc) (hs : slots ≤ ms) :
    vx_W p l e R s m args below meth c H locs cells slots (vx_MQ below Qc XC args s mc ms free) (F0 m pc ls rest) q := by
  intro T hT X
  obtain ⟨st1, hrun, hend, hW, hsm⟩ := X.leaveThrown q (g := F0 m pc ls rest) rfl rfl rfl hout hlocks
  have hcell9 : (T.setFrames (.throwing q :: below)).heap[q]? = some ce := by
    show T.heap[q]? = some ce
    rw [hT]; exact hcell
  exact ⟨_, st1, .threw q, hrun, hend, Or.inr ⟨q, rfl, E, ce, locs, hx _ hT hW.alike, hcell9, hv, hcl, hW, hsm.mono hc hs, hf⟩⟩
theorem vx_frame {U : State} {k n : Nat} (h : s.sameButNew ({ U with vm := s.vm } : State) locs k n) : s.heap.size ≤ U.heap.size ∧ ∀ q : Nat, q < s.heap.size → (∀ z ∈ locs, z.base ≠ q) → U.heap[q]? = s.heap[q]? := by
  obtain ⟨-, h2, -, -, -, h6⟩ := h
  refine ⟨h2, fun q hq hz => ?_⟩
  obtain ⟨c9, e1, e2, e3, e4⟩ := h6 q _ (Array.getElem?_eq_getElem hq)
  have hs : c9.slots = (s.heap[q]).slots := Array.ext_getElem? fun i => e4 i fun hm => hz _ hm rfl
  have h9 : c9 = s.heap[q] := by
    rw [hs] at e2
    exact e2
  have e5 : U.heap[q]? = some c9 := e1
  rw [e5, h9, Array.getElem?_eq_getElem hq]
/-- the words of a throw but the four that speak of the heap -/
def vx_no (w : Cond) : Bool := decide (w ≠ .isRef (.static Bundle.tN "UNASSIGNED_STACK" Bundle.steD)) && decide (w ≠ .isRef (.static Bundle.tN "SUPPRESSED_SENTINEL" Bundle.listD)) && decide (w ≠ .laysStatic Bundle.tN "UNASSIGNED_STACK" Bundle.steD) && decide (w ≠ .laysStatic Bundle.tN "SUPPRESSED_SENTINEL" Bundle.listD)
def vx_at0 (own : String) (ic : Nat) (X : String) (names : List String) : List Cond := (Bundle.ownAtoms0 own ic X names).filter vx_no
def vx_atS (own : String) (ic : Nat) (X : String) (names : List String) : List Cond := (Bundle.ownAtoms own ic X names).filter vx_no
/-- a word that the tables alone decide, or a good one -/
def vx_ot (w : Cond) : Bool := w.onTables || goodWord w
theorem vx_ot_at {args a' : Array Value} {s U : State} {w : Cond} (hW : s.WarmedH U.vm) (hvm : s.vm = U.vm) (hg : vx_ot w = true) (h : w.before args s = true) : w.before a' U = true := by
  simp only [vx_ot, Bool.or_eq_true] at hg
  rcases hg with hg | hg
  · exact va_tabs hg hvm h
  · exact word_at hW (good_of_word hg) h
/-- a list's words: the good ones out of the method's own list, the others by premises of their own -/
theorem vx_hat {args : Array Value} {s : State} {L B : List Cond} (h1 : ∀ w ∈ L.filter goodWord, w.before args s = true) (h2 : ∀ w ∈ L.filter (fun w => !goodWord w), w ∈ B) (h3 : ∀ w ∈ B, w.before args s = true) : ∀ w ∈ L, w.before args s = true := by
  intro w hw
  by_cases g : goodWord w = true
  · exact h1 w (List.mem_filter.mpr ⟨hw, g⟩)
  · refine h3 w (h2 w (List.mem_filter.mpr ⟨hw, ?_⟩))
    show (!goodWord w) = true
    cases hgw : goodWord w
    · rfl
    · exact absurd hgw g
theorem vx_c {args : Array Value} {s : State} {w : Cond} {B : List Cond} (h : w.before args s = true) (t : ∀ w ∈ B, w.before args s = true) : ∀ w' ∈ w :: B, w'.before args s = true := fun w' h' => (List.mem_cons.mp h').elim (fun e => by rw [e]; exact h) (t w')
theorem vx_n {args : Array Value} {s : State} : ∀ w ∈ ([] : List Cond), w.before args s = true := fun _ h => nomatch h
theorem vx_own {args : Array Value} {s : State} {L : List Cond} (h1 : ∀ w ∈ L.filter vx_no, w.before args s = true)
    (hU : (Cond.isRef (.static Bundle.tN "UNASSIGNED_STACK" Bundle.steD)).before args s = true) (hN : (Cond.isRef (.static Bundle.tN "SUPPRESSED_SENTINEL" Bundle.listD)).before args s = true)
    (lU : (Cond.laysStatic Bundle.tN "UNASSIGNED_STACK" Bundle.steD).before args s = true) (lN : (Cond.laysStatic Bundle.tN "SUPPRESSED_SENTINEL" Bundle.listD).before args s = true) : ∀ w ∈ L, w.before args s = true := by
  intro w hw
  by_cases e1 : w = .isRef (.static Bundle.tN "UNASSIGNED_STACK" Bundle.steD)
  · rw [e1]; exact hU
  · by_cases e2 : w = .isRef (.static Bundle.tN "SUPPRESSED_SENTINEL" Bundle.listD)
    · rw [e2]; exact hN
    · by_cases e3 : w = .laysStatic Bundle.tN "UNASSIGNED_STACK" Bundle.steD
      · rw [e3]; exact lU
      · by_cases e4 : w = .laysStatic Bundle.tN "SUPPRESSED_SENTINEL" Bundle.listD
        · rw [e4]; exact lN
        · exact h1 w (List.mem_filter.mpr ⟨hw, by unfold vx_no; rw [decide_eq_true e1, decide_eq_true e2, decide_eq_true e3, decide_eq_true e4]; rfl⟩)
/-- where a static field lies, its class's statics cell in H -/
def vx_L (C n d : String) (A : Nat → Prop) (U : State) (H : Heap) : Prop := ∃ (c : ClassId) (k : Class) (i : Nat) (f : Field) (a : Nat) (cell : Cell), U.vm.findClass C = some c ∧ U.fieldFound? C n d = some (c, k, i, f) ∧ f.isStatic = true ∧ k.statics = some a ∧ H[a]? = some cell ∧ cell.vm.isStatics = true ∧ cell.cls = c ∧ f.slot < cell.slots.size ∧ k.staticTypes[f.slot]? = some f.type ∧ ¬ A a
theorem vx_L.moved {C n d : String} {A : Nat → Prop} {u U : State} {H : Heap} (hvm : u.vm.Alike U.vm) (h : vx_L C n d A u H) : vx_L C n d A U H := by
  obtain ⟨c, k, i, f, a, cell, h1, h2, h3, h4, h5, h6, h7, h8, h9, h10⟩ := h
  obtain ⟨k', hi', he⟩ := State.fieldFound?_setVm hvm h2
  exact ⟨c, k', i, f, a, cell, by rw [hvm.findClass]; exact h1, hi', h3, by rw [he]; exact h4, h5, h6, h7, h8, by rw [he]; exact h9, h10⟩
theorem vx_L.kept {C n d : String} {A : Nat → Prop} {U : State} {H H1 : Heap} (h : vx_L C n d A U H) (hq : ∀ a : Nat, a < H.size → ¬ A a → H1[a]? = H[a]?) : vx_L C n d A U H1 := by
  obtain ⟨c, k, i, f, a, cell, h1, h2, h3, h4, h5, h6, h7, h8, h9, h10⟩ := h
  exact ⟨c, k, i, f, a, cell, h1, h2, h3, h4, by rw [hq a (Array.getElem?_eq_some_iff.mp h5).1 h10]; exact h5, h6, h7, h8, h9, h10⟩
theorem vx_L.narrow {C n d : String} {A B : Nat → Prop} {U : State} {H : Heap} (h : vx_L C n d A U H) (hAB : ∀ q, B q → A q) : vx_L C n d B U H := by
  obtain ⟨c, k, i, f, a, cell, h1, h2, h3, h4, h5, h6, h7, h8, h9, h10⟩ := h
  exact ⟨c, k, i, f, a, cell, h1, h2, h3, h4, h5, h6, h7, h8, h9, fun z => h10 (hAB _ z)⟩
theorem vx_L.word {C n d : String} {A : Nat → Prop} {s : State} {args : Array Value} (h : vx_L C n d A s s.heap) : (Cond.laysStatic C n d).before args s = true := by
  obtain ⟨c, k, i, f, a, cell, h1, h2, h3, h4, h5, h6, h7, h8, h9, -⟩ := h
  show (Cond.laysStatic C n d).holds args s none s [] = true
  exact Cond.laysStatic_of h1 h2 h3 h4 h5 h6 h7 h8 h9
/-- .. and what it holds: null or some reference -/
def vx_Zq (C n d : String) (A : Nat → Prop) (U : State) (H : Heap) : Prop := va_Zq C n d A U H ∧ vx_L C n d A U H
theorem vx_Zq.moved {C n d : String} {A : Nat → Prop} {u U : State} {H : Heap} (hvm : u.vm.Alike U.vm) (h : vx_Zq C n d A u H) : vx_Zq C n d A U H := ⟨va_Zq.moved hvm h.1, vx_L.moved hvm h.2⟩
theorem vx_Zq.kept {C n d : String} {A : Nat → Prop} {U : State} {H H1 : Heap} (h : vx_Zq C n d A U H) (hq : ∀ a : Nat, a < H.size → ¬ A a → H1[a]? = H[a]?) : vx_Zq C n d A U H1 := ⟨va_Zq.kept h.1 hq, vx_L.kept h.2 hq⟩
theorem vx_Zq.narrow {C n d : String} {A B : Nat → Prop} {U : State} {H : Heap} (h : vx_Zq C n d A U H) (hAB : ∀ q, B q → A q) : vx_Zq C n d B U H := ⟨va_Zq.narrow h.1 hAB, vx_L.narrow h.2 hAB⟩
theorem vx_Zqof {args : Array Value} {s : State} {C n d : String} {A : Nat → Prop} (hl : (Cond.laysStatic C n d).before args s = true) (hini : (Cond.initialized C).before args s = true) (h : (Cond.isRef (.static C n d)).before args s = true) (hA : ∀ a : Nat, a < s.heap.size → ¬ A a) : vx_Zq C n d A s s.heap := by
  refine ⟨va_Zqof hl hini h hA, ?_⟩
  obtain ⟨c, k, i, f, a, cell, h1, h2, h3, h4, h5, h6, h7, h8, h9⟩ := Cond.laysStatic_spec hl
  exact ⟨c, k, i, f, a, cell, h1, h2, h3, h4, h5, h6, h7, h8, h9, hA a (Array.getElem?_eq_some_iff.mp h5).1⟩
theorem vx_isRef {C n d : String} {v : Value} {A : Nat → Prop} {s : State} {args : Array Value} (h : va_Z C n d v A s s.heap) (hv : v.isRef = true) : (Cond.isRef (.static C n d)).before args s = true := by
  obtain ⟨cf, kf, fi, f, a, cell, h1, h2, h3, h4, h5, h6, h7, -⟩ := h
  have he : (Term.static C n d).eval args s none [] s = some v := by
    simp [Term.eval, State.fieldNamed?, h1, h2, h4, h5, h6, h7]
  simp only [Cond.before, Cond.holds, Cond.value, he]
  cases v <;> simp_all [Value.isRef]
theorem vx_isRefq {C n d : String} {A : Nat → Prop} {s : State} {args : Array Value} (h : va_Zq C n d A s s.heap) : (Cond.isRef (.static C n d)).before args s = true := by
  rcases h with h | ⟨t, h⟩
  · exact vx_isRef h rfl
  · exact vx_isRef h rfl
/-- the same frame, seen from here: as if the method were called anew in this heap -/
theorem vx_rebase {T : State} (X : Stand p l e R s m args below meth c T locs cells slots) {R' : Room} (hf : R'.frames ≤ R.frames) (hl : R'.locals ≤ R.locals) (hc : cells + R'.cells ≤ R.cells) (hs : slots + R'.slots ≤ R.slots) :
    Stand p l e R' ((T.setVm s.vm).setFrames (.invoking m args :: below)) m args below meth c T [] 0 0 := by
  have htop : (T.setVm s.vm).topJava?.isSome := X.here.top
  have hF : ((T.setVm s.vm).setFrames (.invoking m args :: below)).frames = .invoking m args :: below := State.frames_setFrames _ (State.cur_lt_of_top htop)
  obtain ⟨g₀, hg0⟩ := Option.isSome_iff_exists.mp htop
  obtain ⟨r, hr⟩ := State.topJava?_eq_some.mp hg0
  have hl9 : e.platform.stackLimits (T.setVm s.vm).me = e.platform.stackLimits s.me := X.limits
  have hb9 : (T.setVm s.vm).me.stackBytes = s.me.stackBytes := X.bytes
  refine ⟨X.admits, X.cas, X.clock, hF, ?_, X.hears, X.method, X.code, X.here, X.tail, X.warmed, ?_, ?_, ?_⟩
  · have h := X.room
    have hU : ((T.setVm s.vm).setFrames (.invoking m args :: below)).localsInUse = s.localsInUse := by
      rw [State.localsInUse_invoking hF (meth := meth) (c := c) X.method X.code, State.localsInUse_invoking X.frames X.method X.code]
    simp only [State.hasRoom, Bool.and_eq_true, decide_eq_true_eq] at h ⊢
    obtain ⟨⟨⟨⟨h1, h2, h3, h4, h5, h6⟩, h7⟩, h8⟩, h9⟩ := h
    rw [X.frames, List.length_cons] at h2 h3
    have q1 := X.heapSize
    have q2 := X.used
    simp only [hF, hU, List.length_cons, State.stackLimits_setFrames, State.stackBytes_setFrames, hl9, hb9]
    refine ⟨⟨⟨⟨by omega, by omega, by omega, by omega, by omega, h6⟩, ?_⟩, ?_⟩, X.book⟩
    · show T.heap.size + R'.cells ≤ e.platform.maxCells
      omega
    · show T.slotsUsed + R'.slots ≤ e.platform.maxSlots
      omega
  · rw [State.stackLimits_setFrames]; rfl
  · rw [State.stackBytes_setFrames]; rfl
  · refine ⟨?_, Nat.le_refl _, Nat.le_refl _, ?_, ?_, fun a c9 h9 => ⟨c9, h9, rfl, rfl, fun _ _ => rfl⟩⟩
    · obtain ⟨t, ht, -⟩ := State.frames_cons hr
      show T.setVm s.vm = { ((T.setVm s.vm).setFrames (.invoking m args :: below)).setFrames (T.setVm s.vm).frames with heap := T.heap, slotsUsed := T.slotsUsed }
      rw [State.setFrames_setFrames, State.setFrames_self ht]
      rfl
    · show T.slotsUsed = T.slotsUsed + ((T.heap.toList.drop T.heap.size).map (·.slots.size)).sum
      rw [List.drop_eq_nil_of_le (Nat.le_of_eq Array.length_toList)]
      rfl
    · show ((T.heap.toList.drop T.heap.size).map (·.slots.size)).sum ≤ 0
      rw [List.drop_eq_nil_of_le (Nat.le_of_eq Array.length_toList)]
      exact Nat.le_refl _
/-- 'throw new E()': new; dup; invokespecial; athrow -/
theorem vx_throw0 {cc : ByteArray} {pc : Nat} (hexec : p.tables.exec = Jvm.exec) (hb : c.code = cc) (hl : l.stackTraces = false) {own cls : String} {names : List String} {ik ic mc ms : Nat} {A : Nat → Prop}
    (hown : s.vm.findClass own = some m.cls) (hcls : Bundle.fit cls = true) (hnames : ∀ n ∈ names, Bundle.fit n = true)
    (hk : (Cond.classLink own ik cls).before args s = true) (hini : (Cond.initialized cls).before args s = true) (hat : ∀ w ∈ vx_at0 own ic cls names, w.before args s = true)
    (hgood : ∀ w ∈ Cond.classLink own ik cls :: Cond.initialized cls :: vx_at0 own ic cls names, vx_ot w = true)
    (hU : vx_Zq Bundle.tN "UNASSIGNED_STACK" Bundle.steD A s s.heap) (hN : vx_Zq Bundle.tN "SUPPRESSED_SENTINEL" Bundle.listD A s s.heap) (hS : va_S A s.heap H locs) (hsize : ls.size = c.maxLocals)
    (d0 : decode cc pc = .ok (.new ik, 3)) (d3 : decode cc (pc + 3) = .ok (.dup, 1)) (d4 : decode cc (pc + 4) = .ok (.invokespecial ic, 3)) (d7 : decode cc (pc + 7) = .ok (.athrow, 1))
    (hout : ∀ x ∈ c.exceptionTable.toList, covers x (pc + 7) = false)
    (hRframes : names.length + 3 < R.frames) (hRlocals : (rest.map fun v => v.category).sum + (13 * (names.length + 1) + 42) ≤ R.locals) (hRcells : cells + 1 ≤ R.cells) (hRslots : slots + 6 ≤ R.slots) (hlocks : meth.locks = false)
    (hx : ∀ t : State, s.vm.Alike t.vm → H.size ≤ t.heap.size → (∀ q : Nat, q < H.size → t.heap[q]? = H[q]?) → XC cls s t)
    (hf : ∀ z ∈ locs, free z.base) (hc : cells + 1 ≤ mc) (hs : slots + 6 ≤ ms) :
    W p l e R s m args below meth c H locs cells slots (vx_MQ below Qc XC args s mc ms free) (F0 m pc ls rest) := by
  intro T hT X
  have htr : e.platform.stackTraces = false := (show e.platform.stackTraces = l.stackTraces by rw [X.admits.platform]).trans hl
  have Y := vx_rebase X (R' := { frames := R.frames, locals := R.locals, cells := 1, slots := 6 }) (Nat.le_refl _) (Nat.le_refl _) hRcells hRslots
  obtain ⟨s', hA⟩ : ∃ z, z = (T.setVm s.vm).setFrames (.invoking m args :: below) := ⟨_, rfl⟩
  rw [← hA] at Y
  have hvm : s'.vm = s.vm := by rw [hA]; rfl
  have hhp : s'.heap = H := by rw [hA]; exact hT
  have hW0 : s.WarmedH s'.vm := by rw [hvm]; exact State.WarmedH.refl s
  have hat' : ∀ w ∈ vx_at0 own ic cls names, w.before args s' = true := fun w hw => vx_ot_at hW0 hvm.symm (hgood w (List.mem_cons_of_mem _ (List.mem_cons_of_mem _ hw))) (hat w hw)
  have hk' : (Cond.classLink own ik cls).before args s' = true := vx_ot_at hW0 hvm.symm (hgood _ List.mem_cons_self) hk
  have hini' : (Cond.initialized cls).before args s' = true := vx_ot_at hW0 hvm.symm (hgood _ (List.mem_cons_of_mem _ List.mem_cons_self)) hini
  have hU' : vx_Zq Bundle.tN "UNASSIGNED_STACK" Bundle.steD A s' s'.heap := by rw [hhp]; exact vx_Zq.moved hW0.alike (hU.kept hS.2.1)
  have hN' : vx_Zq Bundle.tN "SUPPRESSED_SENTINEL" Bundle.listD A s' s'.heap := by rw [hhp]; exact vx_Zq.moved hW0.alike (hN.kept hS.2.1)
  have h : ∀ w ∈ Bundle.ownAtoms0 own ic cls names, w.before args s' = true := vx_own hat' (vx_isRefq hU'.1) (vx_isRefq hN'.1) hU'.2.word hN'.2.word
  have hown' : s'.vm.findClass own = some m.cls := by rw [hvm]; exact hown
  have hins : (Cond.instantiable cls 6).before args s' = true := h _ (by simp [Bundle.ownAtoms0])
  obtain ⟨vm₁, cX, kX, hfX, hkX, -, -, X₁, st1⟩ := Y.newCold hexec (own := own) (C := cls) (index := ik) (n := 6) hown' hk' hins hini'
    (g := F0 m pc ls rest) rfl (by rw [hb]; exact d0) (Nat.le_refl _) (Nat.le_refl _)
  generalize hT1 : (T.setVm vm₁).pushCell { cls := cX, slots := kX.instanceTypes.map defaultValue, vm := .none } = T1 at X₁ st1
  have hcat : (Value.ref T.heap.size).category = 1 := rfl
  have hcellA : T1.heap[T.heap.size]? = some (freshCell cX kX) := by rw [← hT1]; exact State.heap_pushCell_size _ _
  have d3' : decode c.code (pc + 3) = .ok (.dup, 1) := by rw [hb]; exact d3
  obtain ⟨U, hsteps, hrun, hend, hW, hsame, ce, hce, hO⟩ := X₁.ctorThrow0 hexec htr (own := own) (cls := cls) (names := names) (ic := ic) hown' hcls hnames h (fun x hx => nomatch hx) hfX hkX hcellA (by rw [hhp, hT]; exact Nat.le_refl _)
    (g := { method := m, pc := pc + 4, locals := ls, stack := .ref T.heap.size :: .ref T.heap.size :: rest, locked := none }) rfl hsize rfl rfl (rest := rest) rfl
    (by rw [hb]; exact d4) (by rw [hb]; exact d7) hout hRframes (by simp only [List.map_cons, List.sum_cons, hcat]; omega) hlocks
  obtain ⟨f1, f2⟩ := vx_frame hsame
  rw [hhp] at f1 f2
  have hWs : s.WarmedH U.vm := State.WarmedH.trans hW0 hW
  have hcl : s.vm.findClass cls = some ce.cls := by
    have h9 := hO.cls
    rw [hvm] at h9
    exact h9
  have hall : s.sameButNew ({ U with vm := s.vm } : State) locs mc ms := by
    subst hA
    obtain ⟨e1, e2⟩ := hsame
    rw [State.setFrames_setFrames] at e1
    have h2 : (T.setVm s.vm).sameButNew ({ U with vm := s.vm } : State) [] (0 + 1) (0 + 6) := ⟨e1, e2⟩
    have h3 := X.same.trans h2
    rw [List.append_nil] at h3
    exact h3.mono hc hs
  refine ⟨U, ?_, .threw T.heap.size, hrun, hend, Or.inr ⟨T.heap.size, rfl, cls, ce, locs, hx U hWs.alike f1 (fun q hq => f2 q hq (fun z hz => nomatch hz)), hce, hO.vm, hcl, hWs, hall, hf⟩⟩
  refine st1 _ ?_
  show Steps p.tables e below (T1.setTop { method := m, pc := pc + 3, locals := ls, stack := .ref T.heap.size :: rest, locked := none }) _
  jvm_step X₁.here [X₁.here.top, hexec, d3', Value.category]
  exact hsteps
/-- 'throw new E("text")': new; dup; ldc; invokespecial; athrow -/
theorem vx_throwS {cc : ByteArray} {pc : Nat} (hexec : p.tables.exec = Jvm.exec) (hb : c.code = cc) (hl : l.stackTraces = false) {own cls text : String} {names : List String} {ik is ic mc ms sa : Nat} {A : Nat → Prop}
    (hown : s.vm.findClass own = some m.cls) (hcls : Bundle.fit cls = true) (hnames : ∀ n ∈ names, Bundle.fit n = true)
    (hk : (Cond.classLink own ik cls).before args s = true) (hini : (Cond.initialized cls).before args s = true) (hstr : vk_R own is text sa s) (hat : ∀ w ∈ vx_atS own ic cls names, w.before args s = true)
    (hgood : ∀ w ∈ Cond.classLink own ik cls :: Cond.initialized cls :: vx_atS own ic cls names, vx_ot w = true)
    (hU : vx_Zq Bundle.tN "UNASSIGNED_STACK" Bundle.steD A s s.heap) (hN : vx_Zq Bundle.tN "SUPPRESSED_SENTINEL" Bundle.listD A s s.heap) (hS : va_S A s.heap H locs) (hsize : ls.size = c.maxLocals)
    (d0 : decode cc pc = .ok (.new ik, 3)) (d3 : decode cc (pc + 3) = .ok (.dup, 1)) (d4 : decode cc (pc + 4) = .ok (.ldc is, 2)) (d6 : decode cc (pc + 6) = .ok (.invokespecial ic, 3)) (d9 : decode cc (pc + 9) = .ok (.athrow, 1))
    (hout : ∀ x ∈ c.exceptionTable.toList, covers x (pc + 9) = false)
    (hRframes : names.length + 3 < R.frames) (hRlocals : (rest.map fun v => v.category).sum + (13 * (names.length + 1) + 43) ≤ R.locals) (hRcells : cells + 1 ≤ R.cells) (hRslots : slots + 6 ≤ R.slots) (hlocks : meth.locks = false)
    (hx : ∀ t : State, s.vm.Alike t.vm → H.size ≤ t.heap.size → (∀ q : Nat, q < H.size → t.heap[q]? = H[q]?) → XC cls s t)
    (hf : ∀ z ∈ locs, free z.base) (hc : cells + 1 ≤ mc) (hs : slots + 6 ≤ ms) :
    W p l e R s m args below meth c H locs cells slots (vx_MQ below Qc XC args s mc ms free) (F0 m pc ls rest) := by
  intro T hT X
  have htr : e.platform.stackTraces = false := (show e.platform.stackTraces = l.stackTraces by rw [X.admits.platform]).trans hl
  have Y := vx_rebase X (R' := { frames := R.frames, locals := R.locals, cells := 1, slots := 6 }) (Nat.le_refl _) (Nat.le_refl _) hRcells hRslots
  obtain ⟨s', hA⟩ : ∃ z, z = (T.setVm s.vm).setFrames (.invoking m args :: below) := ⟨_, rfl⟩
  rw [← hA] at Y
  have hvm : s'.vm = s.vm := by rw [hA]; rfl
  have hhp : s'.heap = H := by rw [hA]; exact hT
  have hW0 : s.WarmedH s'.vm := by rw [hvm]; exact State.WarmedH.refl s
  have hat' : ∀ w ∈ vx_atS own ic cls names, w.before args s' = true := fun w hw => vx_ot_at hW0 hvm.symm (hgood w (List.mem_cons_of_mem _ (List.mem_cons_of_mem _ hw))) (hat w hw)
  have hk' : (Cond.classLink own ik cls).before args s' = true := vx_ot_at hW0 hvm.symm (hgood _ List.mem_cons_self) hk
  have hini' : (Cond.initialized cls).before args s' = true := vx_ot_at hW0 hvm.symm (hgood _ (List.mem_cons_of_mem _ List.mem_cons_self)) hini
  have hU' : vx_Zq Bundle.tN "UNASSIGNED_STACK" Bundle.steD A s' s'.heap := by rw [hhp]; exact vx_Zq.moved hW0.alike (hU.kept hS.2.1)
  have hN' : vx_Zq Bundle.tN "SUPPRESSED_SENTINEL" Bundle.listD A s' s'.heap := by rw [hhp]; exact vx_Zq.moved hW0.alike (hN.kept hS.2.1)
  have h : ∀ w ∈ Bundle.ownAtoms own ic cls names, w.before args s' = true := vx_own hat' (vx_isRefq hU'.1) (vx_isRefq hN'.1) hU'.2.word hN'.2.word
  have hown' : s'.vm.findClass own = some m.cls := by rw [hvm]; exact hown
  have hins : (Cond.instantiable cls 6).before args s' = true := h _ (by simp [Bundle.ownAtoms])
  obtain ⟨vm₁, cX, kX, hfX, hkX, -, -, X₁, st1⟩ := Y.newCold hexec (own := own) (C := cls) (index := ik) (n := 6) hown' hk' hins hini'
    (g := F0 m pc ls rest) rfl (by rw [hb]; exact d0) (Nat.le_refl _) (Nat.le_refl _)
  generalize hT1 : (T.setVm vm₁).pushCell { cls := cX, slots := kX.instanceTypes.map defaultValue, vm := .none } = T1 at X₁ st1
  have hcat : (Value.ref T.heap.size).category = 1 := rfl
  have hcellA : T1.heap[T.heap.size]? = some (freshCell cX kX) := by rw [← hT1]; exact State.heap_pushCell_size _ _
  have d3' : decode c.code (pc + 3) = .ok (.dup, 1) := by rw [hb]; exact d3
  have d4' : decode c.code (pc + 4) = .ok (.ldc is, 2) := by rw [hb]; exact d4
  have hstr' : vk_R own is text sa s' := vk_R.warm hW0 hstr
  obtain ⟨U, hsteps, hrun, hend, hW, hsame, ce, hce, hO⟩ := X₁.ctorThrowS hexec htr (own := own) (cls := cls) (names := names) (ic := ic) hown' hcls hnames h (fun x hx => nomatch hx) hfX hkX hcellA (by rw [hhp, hT]; exact Nat.le_refl _) (msg := .ref sa) rfl
    (g := { method := m, pc := pc + 6, locals := ls, stack := .ref sa :: .ref T.heap.size :: .ref T.heap.size :: rest, locked := none }) rfl hsize rfl rfl (rest := rest) rfl
    (by rw [hb]; exact d6) (by rw [hb]; exact d9) hout hRframes (by simp only [List.map_cons, List.sum_cons, hcat]; omega) hlocks
  obtain ⟨f1, f2⟩ := vx_frame hsame
  rw [hhp] at f1 f2
  have hWs : s.WarmedH U.vm := State.WarmedH.trans hW0 hW
  have hcl : s.vm.findClass cls = some ce.cls := by
    have h9 := hO.cls
    rw [hvm] at h9
    exact h9
  have hall : s.sameButNew ({ U with vm := s.vm } : State) locs mc ms := by
    subst hA
    obtain ⟨e1, e2⟩ := hsame
    rw [State.setFrames_setFrames] at e1
    have h2 : (T.setVm s.vm).sameButNew ({ U with vm := s.vm } : State) [] (0 + 1) (0 + 6) := ⟨e1, e2⟩
    have h3 := X.same.trans h2
    rw [List.append_nil] at h3
    exact h3.mono hc hs
  refine ⟨U, ?_, .threw T.heap.size, hrun, hend, Or.inr ⟨T.heap.size, rfl, cls, ce, locs, hx U hWs.alike f1 (fun q hq => f2 q hq (fun z hz => nomatch hz)), hce, hO.vm, hcl, hWs, hall, hf⟩⟩
  refine st1 _ ?_
  show Steps p.tables e below (T1.setTop { method := m, pc := pc + 3, locals := ls, stack := .ref T.heap.size :: rest, locked := none }) _
  jvm_step X₁.here [X₁.here.top, hexec, d3', Value.category]
  exact X₁.ldcString hexec (own := own) (text := text) (index := is) (a := sa) hown' hstr'.1 hstr'.2
    (g := { method := m, pc := pc + 4, locals := ls, stack := .ref T.heap.size :: .ref T.heap.size :: rest, locked := none }) rfl d4' _ hsteps
/-- 'throw new E("text")', the text by a wide index -/
theorem vx_throwSW {cc : ByteArray} {pc : Nat} (hexec : p.tables.exec = Jvm.exec) (hb : c.code = cc) (hl : l.stackTraces = false) {own cls text : String} {names : List String} {ik is ic mc ms sa : Nat} {A : Nat → Prop}
    (hown : s.vm.findClass own = some m.cls) (hcls : Bundle.fit cls = true) (hnames : ∀ n ∈ names, Bundle.fit n = true)
    (hk : (Cond.classLink own ik cls).before args s = true) (hini : (Cond.initialized cls).before args s = true) (hstr : vk_R own is text sa s) (hat : ∀ w ∈ vx_atS own ic cls names, w.before args s = true)
    (hgood : ∀ w ∈ Cond.classLink own ik cls :: Cond.initialized cls :: vx_atS own ic cls names, vx_ot w = true)
    (hU : vx_Zq Bundle.tN "UNASSIGNED_STACK" Bundle.steD A s s.heap) (hN : vx_Zq Bundle.tN "SUPPRESSED_SENTINEL" Bundle.listD A s s.heap) (hS : va_S A s.heap H locs) (hsize : ls.size = c.maxLocals)
    (d0 : decode cc pc = .ok (.new ik, 3)) (d3 : decode cc (pc + 3) = .ok (.dup, 1)) (d4 : decode cc (pc + 4) = .ok (.ldc_w is, 3)) (d7 : decode cc (pc + 7) = .ok (.invokespecial ic, 3)) (d10 : decode cc (pc + 10) = .ok (.athrow, 1))
    (hout : ∀ x ∈ c.exceptionTable.toList, covers x (pc + 10) = false)
    (hRframes : names.length + 3 < R.frames) (hRlocals : (rest.map fun v => v.category).sum + (13 * (names.length + 1) + 43) ≤ R.locals) (hRcells : cells + 1 ≤ R.cells) (hRslots : slots + 6 ≤ R.slots) (hlocks : meth.locks = false)
    (hx : ∀ t : State, s.vm.Alike t.vm → H.size ≤ t.heap.size → (∀ q : Nat, q < H.size → t.heap[q]? = H[q]?) → XC cls s t)
    (hf : ∀ z ∈ locs, free z.base) (hc : cells + 1 ≤ mc) (hs : slots + 6 ≤ ms) :
    W p l e R s m args below meth c H locs cells slots (vx_MQ below Qc XC args s mc ms free) (F0 m pc ls rest) := by
  intro T hT X
  have htr : e.platform.stackTraces = false := (show e.platform.stackTraces = l.stackTraces by rw [X.admits.platform]).trans hl
  have Y := vx_rebase X (R' := { frames := R.frames, locals := R.locals, cells := 1, slots := 6 }) (Nat.le_refl _) (Nat.le_refl _) hRcells hRslots
  obtain ⟨s', hA⟩ : ∃ z, z = (T.setVm s.vm).setFrames (.invoking m args :: below) := ⟨_, rfl⟩
  rw [← hA] at Y
  have hvm : s'.vm = s.vm := by rw [hA]; rfl
  have hhp : s'.heap = H := by rw [hA]; exact hT
  have hW0 : s.WarmedH s'.vm := by rw [hvm]; exact State.WarmedH.refl s
  have hat' : ∀ w ∈ vx_atS own ic cls names, w.before args s' = true := fun w hw => vx_ot_at hW0 hvm.symm (hgood w (List.mem_cons_of_mem _ (List.mem_cons_of_mem _ hw))) (hat w hw)
  have hk' : (Cond.classLink own ik cls).before args s' = true := vx_ot_at hW0 hvm.symm (hgood _ List.mem_cons_self) hk
  have hini' : (Cond.initialized cls).before args s' = true := vx_ot_at hW0 hvm.symm (hgood _ (List.mem_cons_of_mem _ List.mem_cons_self)) hini
  have hU' : vx_Zq Bundle.tN "UNASSIGNED_STACK" Bundle.steD A s' s'.heap := by rw [hhp]; exact vx_Zq.moved hW0.alike (hU.kept hS.2.1)
  have hN' : vx_Zq Bundle.tN "SUPPRESSED_SENTINEL" Bundle.listD A s' s'.heap := by rw [hhp]; exact vx_Zq.moved hW0.alike (hN.kept hS.2.1)
  have h : ∀ w ∈ Bundle.ownAtoms own ic cls names, w.before args s' = true := vx_own hat' (vx_isRefq hU'.1) (vx_isRefq hN'.1) hU'.2.word hN'.2.word
  have hown' : s'.vm.findClass own = some m.cls := by rw [hvm]; exact hown
  have hins : (Cond.instantiable cls 6).before args s' = true := h _ (by simp [Bundle.ownAtoms])
  obtain ⟨vm₁, cX, kX, hfX, hkX, -, -, X₁, st1⟩ := Y.newCold hexec (own := own) (C := cls) (index := ik) (n := 6) hown' hk' hins hini'
    (g := F0 m pc ls rest) rfl (by rw [hb]; exact d0) (Nat.le_refl _) (Nat.le_refl _)
  generalize hT1 : (T.setVm vm₁).pushCell { cls := cX, slots := kX.instanceTypes.map defaultValue, vm := .none } = T1 at X₁ st1
  have hcat : (Value.ref T.heap.size).category = 1 := rfl
  have hcellA : T1.heap[T.heap.size]? = some (freshCell cX kX) := by rw [← hT1]; exact State.heap_pushCell_size _ _
  have d3' : decode c.code (pc + 3) = .ok (.dup, 1) := by rw [hb]; exact d3
  have d4' : decode c.code (pc + 4) = .ok (.ldc_w is, 3) := by rw [hb]; exact d4
  have hstr' : vk_R own is text sa s' := vk_R.warm hW0 hstr
  obtain ⟨U, hsteps, hrun, hend, hW, hsame, ce, hce, hO⟩ := X₁.ctorThrowS hexec htr (own := own) (cls := cls) (names := names) (ic := ic) hown' hcls hnames h (fun x hx => nomatch hx) hfX hkX hcellA (by rw [hhp, hT]; exact Nat.le_refl _) (msg := .ref sa) rfl
    (g := { method := m, pc := pc + 7, locals := ls, stack := .ref sa :: .ref T.heap.size :: .ref T.heap.size :: rest, locked := none }) rfl hsize rfl rfl (rest := rest) rfl
    (by rw [hb]; exact d7) (by rw [hb]; exact d10) hout hRframes (by simp only [List.map_cons, List.sum_cons, hcat]; omega) hlocks
  obtain ⟨f1, f2⟩ := vx_frame hsame
  rw [hhp] at f1 f2
  have hWs : s.WarmedH U.vm := State.WarmedH.trans hW0 hW
  have hcl : s.vm.findClass cls = some ce.cls := by
    have h9 := hO.cls
    rw [hvm] at h9
    exact h9
  have hall : s.sameButNew ({ U with vm := s.vm } : State) locs mc ms := by
    subst hA
    obtain ⟨e1, e2⟩ := hsame
    rw [State.setFrames_setFrames] at e1
    have h2 : (T.setVm s.vm).sameButNew ({ U with vm := s.vm } : State) [] (0 + 1) (0 + 6) := ⟨e1, e2⟩
    have h3 := X.same.trans h2
    rw [List.append_nil] at h3
    exact h3.mono hc hs
  refine ⟨U, ?_, .threw T.heap.size, hrun, hend, Or.inr ⟨T.heap.size, rfl, cls, ce, locs, hx U hWs.alike f1 (fun q hq => f2 q hq (fun z hz => nomatch hz)), hce, hO.vm, hcl, hWs, hall, hf⟩⟩
  refine st1 _ ?_
  show Steps p.tables e below (T1.setTop { method := m, pc := pc + 3, locals := ls, stack := .ref T.heap.size :: rest, locked := none }) _
  jvm_step X₁.here [X₁.here.top, hexec, d3', Value.category]
  exact X₁.ldcStringW hexec (own := own) (text := text) (index := is) (a := sa) hown' hstr'.1 hstr'.2
    (g := { method := m, pc := pc + 4, locals := ls, stack := .ref T.heap.size :: .ref T.heap.size :: rest, locked := none }) rfl d4' _ hsteps
end Ends
section Bodies
variable {l : Launch}
theorem vx_ofW {y : MethodName} {ws ws' : List Cond} {rm : Room} {Pc : Array Value → State → Prop} {Qc : Array Value → State → Outcome → State → Prop} {XC : String → State → State → Prop} {mc ms : Nat} {free : Addr → Prop} {cc : ByteArray} {maxL : Nat} {ret : Option FieldType}
    (hy : plainName y.cls = true) (hw : ws = Cond.code y cc maxL ret :: ws')
    (body : ∀ p e s m args below meth c s₁, BodyLoose p l y (headSpec ws rm) cc maxL ret e s m args below meth c s₁ → c.maxLocals = maxL → (∀ x ∈ c.exceptionTable.toList, False) → Pc args s →
      W p l e (headSpec ws rm).room s m args below meth c s.heap [] 0 0 (vx_MQ below Qc XC args s mc ms free) (entryFrame m args maxL)) : vx_Met l y ws rm Pc Qc XC mc ms free := by
  refine MetFree.of_bodyS (code := cc) (maxLocals := maxL) (ret := ret) hy ?_ ?_
  · intro args s m h hn
    obtain ⟨meth, c, h1, h2, h3, h4, h5, h6, -, -⟩ := Cond.code_spec hn (atoms_spec (ws := ws) h _ (by rw [hw]; exact List.mem_cons_self))
    exact ⟨meth, c, h1, h2, h3, h4, h5, h6⟩
  · intro p e s m args below meth c s₁ B hml hP _
    have hh0 : s₁.heap = s.heap := by rw [B.state]; rfl
    have ht : ∀ x ∈ c.exceptionTable.toList, False := by
      obtain ⟨meth9, c9, h1, h2, -, -, -, -, h7, -⟩ := Cond.code_spec B.named (atoms_spec (ws := ws) B.pre _ (by rw [hw]; exact List.mem_cons_self))
      cases Option.some.inj (h1.symm.trans B.method)
      cases Option.some.inj (h2.symm.trans (Stand.of_body B).code)
      intro x hx
      rw [Array.isEmpty_iff.mp h7] at hx
      cases hx
    obtain ⟨t, a1, o, b1, b2, b3⟩ := body p e s m args below meth c s₁ B hml ht hP s₁ hh0 (Stand.of_body B)
    exact ⟨t, o, a1, b1, b2, b3⟩
/-- the table of a body with handlers -/
theorem vx_table {p : Program} {x y : MethodName} {S : Spec} {cc bytes : ByteArray} {maxL maxL' : Nat} {ret ret' : Option FieldType} {e : Env} {s s₁ : State} {m : MethodId} {args : Array Value} {below : List Frame} {meth : Method} {c : Code} {hh : List (Nat × Nat × Nat × Nat)}
    (B : BodyLoose p l y S cc maxL ret e s m args below meth c s₁) (h : (Cond.codeWith y bytes maxL' ret' hh).before args s = true) : c.exceptionTable.toList = tableOf hh := by
  obtain ⟨m9, meth9, c9, hn9, h1, h2, -, -, h6, -⟩ := Cond.codeWith_spec h
  cases Option.some.inj (hn9.symm.trans B.named)
  cases Option.some.inj (h1.symm.trans B.method)
  cases Option.some.inj (h2.symm.trans (Stand.of_body B).code)
  rw [← h6, table_eq]
end Bodies
end VXA
/-! ===== END ===== -/
/-! ===== BEGIN a static call of a method with an exception table ===== -/
section VXS
variable {p : Program} {l : Launch} {e : Env} {R : Room} {s : State} {m : MethodId} {args : Array Value} {below : List Frame} {meth : Method} {c : Code} {T : State} {H : Heap} {locs : List Loc} {cells slots : Nat}
abbrev vx_CSW (R : Room) (s : State) (args : Array Value) (own : String) (index : Nat) (y : MethodName) (bytes : ByteArray) (maxL : Nat) (ret : Option FieldType) (hh : List (Nat × Nat × Nat × Nat)) (ws : List Cond) (rm : Room) (mc ms n : Nat) : Prop :=
  (rm.cells = mc ∧ rm.slots = ms ∧ rm.frames + 1 ≤ R.frames ∧ 8 + (maxL + 11) + rm.locals ≤ R.locals ∧ (∀ w ∈ ws, ∀ (a' : Array Value) (U : State), s.WarmedH U.vm → w.before a' U = true) ∧ Cond.codeWith y bytes maxL ret hh ∈ ws) ∧
  (Cond.codeWith y bytes maxL ret hh).before args s = true ∧ (Cond.initialized y.cls).before args s = true ∧ (y.cls ≠ "java/lang/invoke/MethodHandle" ∧ y.cls ≠ "java/lang/invoke/VarHandle") ∧
  (∀ sig, parseMethodDescriptor y.desc = some sig → n = sig.parameters.length) ∧ (Cond.methodLink own index y).before args s = true ∧ (Cond.static y).before args s = true
theorem vx_cwSW {own : String} {index maxL mc ms : Nat} {y : MethodName} {bytes : ByteArray} {ret : Option FieldType} {hh : List (Nat × Nat × Nat × Nat)} {Ts ws ws' : List Cond} {rm : Room} (n : Nat) (ht : ∀ w ∈ Ts, w.before args s = true) (hT : GoodIn Ts (va_wsS own index y ws)) (hw : ws = Cond.codeWith y bytes maxL ret hh :: ws') (hrc : rm.cells = mc) (hrs : rm.slots = ms)
    (hd : y.cls ≠ "java/lang/invoke/MethodHandle" ∧ y.cls ≠ "java/lang/invoke/VarHandle" ∧ (parseMethodDescriptor y.desc).map (fun d => d.parameters.length) = some n) (hR : rm.frames + 1 ≤ R.frames ∧ 8 + (maxL + 11) + rm.locals ≤ R.locals) :
    vx_CSW R s args own index y bytes maxL ret hh ws rm mc ms n := by
  have ok : ∀ w ∈ va_wsS own index y ws, w.before args s = true := fun w h => ht w (hT w h).1
  have hG : GoodIn Ts ws := fun w h => hT w (by unfold va_wsS; exact List.mem_append_right _ h)
  have hc : Cond.codeWith y bytes maxL ret hh ∈ ws := by rw [hw]; exact List.mem_cons_self
  refine ⟨⟨hrc, hrs, hR.1, hR.2, pay_in ht hG, hc⟩, ht _ (hG _ hc).1, ok _ (by simp [va_wsS]), ⟨hd.1, hd.2.1⟩, fun sig h => ?_, ok _ (by simp [va_wsS]), ok _ (by simp [va_wsS])⟩
  have h2 := hd.2.2
  rw [h] at h2
  exact (Option.some.inj h2).symm
theorem vx_callSW (X : Stand p l e R s m args below meth c T locs cells slots) (hexec : p.tables.exec = Jvm.exec) {own : String} {index : Nat} {y : MethodName} {bytes : ByteArray} {maxL : Nat} {ret : Option FieldType} {hh : List (Nat × Nat × Nat × Nat)}
    (hown : s.vm.findClass own = some m.cls) (hlink : (Cond.methodLink own index y).before args s = true) (hstat : (Cond.static y).before args s = true) (hinit : (Cond.initialized y.cls).before args s = true)
    (hcode : (Cond.codeWith y bytes maxL ret hh).before args s = true) (hy : y.cls ≠ "java/lang/invoke/MethodHandle" ∧ y.cls ≠ "java/lang/invoke/VarHandle")
    {W9 : Nat} {Pre : Pt → Array Value → Prop} {Post : Pt → Array Value → Option Value → Pt → Prop} (hK : Back l R p e below s args y 3 W9 Pre Post)
    {g : JFrame} (hg : g.method = m) (hsize : g.locals.size = c.maxLocals) {argsL rest : List Value} (hlen : ∀ sig, parseMethodDescriptor y.desc = some sig → argsL.length = sig.parameters.length)
    (hstack : g.stack = argsL.reverse ++ rest) (hW : 2 * g.monitorRoom + (rest.map fun v => v.category).sum ≤ W9) (hdg : decode c.code g.pc = .ok (.invokestatic index, 3))
    (hpre : ∀ vm₁, s.WarmedH vm₁ → Pre ⟨T.setVm vm₁, locs, cells, slots⟩ argsL.toArray) :
    ∃ (v : Option Value) (vm₁ : Vm) (B : Pt), s.WarmedH vm₁ ∧ Stand p l e R s m args below meth c B.U B.locs B.cells B.slots ∧ Post ⟨T.setVm vm₁, locs, cells, slots⟩ argsL.toArray v B ∧
      ∀ target, Steps p.tables e below (B.U.setTop { g with pc := g.pc + 3, stack := v.toList ++ rest }) target → Steps p.tables e below (T.setTop g) target := by
  obtain ⟨mk, methM, cM, hnamed, hmethM, -, -, -, -, -, -, hsigM⟩ := Cond.codeWith_spec hcode
  have hstatic : methM.isStatic = true := Cond.static_spec hnamed hmethM hstat
  obtain ⟨kP, hkP, -⟩ := className_of_methodNamed hnamed
  have hinitP : kP.init = .initialized := Cond.initialized_spec (findClass_of_methodNamed hnamed) hkP hinit
  obtain ⟨vm₁, X₁, hstep₁⟩ := X.invokestatic hexec hown hlink hnamed hmethM hstatic hkP hinitP hy (g := g) hg (argsL := argsL) (rest := rest) (hlen _ hsigM) hstack hdg
  obtain ⟨v, B, X', hpost, hsteps⟩ := hK m meth c ⟨T.setVm vm₁, locs, cells, slots⟩ { g with stack := rest } (.invokestatic index) mk argsL.toArray X₁ hg hsize hdg hW (X₁.named hnamed) (hpre vm₁ X₁.warmed)
  exact ⟨v, vm₁, B, X₁.warmed, X', hpost, fun target h => hstep₁ _ fun acts => by rw [doInvoke_state]; exact hsteps.trans h⟩
theorem vx_runSW {y : MethodName} {bytes cc : ByteArray} {maxL nL mc ms n index : Nat} {ret : Option FieldType} {hh : List (Nat × Nat × Nat × Nat)} {ws : List Cond} {rm : Room} {Pc : Array Value → State → Prop} {Qc : Array Value → State → Outcome → State → Prop} {free : Addr → Prop} {Ts : List Cond} {own : String} {As rest : List Value} {g : JFrame}
    (S : CallFix p m c cc nL s args Ts own) (hM : Met l y ws rm Pc Qc mc ms free) (cw : vx_CSW R s args own index y bytes maxL ret hh ws rm mc ms n) (hp : PreS s H Pc As)
    (hg : g.method = m) (hn : As.length = n) (hsize : g.locals.size = nL) (hstack : g.stack = As.reverse ++ rest) (hW : 2 * g.monitorRoom + (rest.map fun v => v.category).sum ≤ 8) (hdg : decode cc g.pc = .ok (.invokestatic index, 3)) (hf : cells + mc ≤ R.cells ∧ slots + ms ≤ R.slots) :
    va_Run p l e R s m args below meth c H locs cells slots mc ms g rest (Qc As.toArray) (free) := by
  obtain ⟨⟨hrc, hrs, hfr, hlo, hws, hcw⟩, hcode, hini, hy, hlen, hl, hstt⟩ := cw
  have hK : Back l R p e below s args y 3 8 (PreOf R mc ms Pc) (PostOf Qc mc ms free) := va_backW (hh := hh) (bytes := bytes) (maxL := maxL) (ret := ret) hM hp.1 hrc hrs hfr hlo hws hcw (fun a' U hW => word_at hW (Or.inl (by first | rfl | simp [Cond.onTables, Cond.keeps, Cond.steady])) hini)
  obtain ⟨hx, hb, hml, ho, -⟩ := S
  intro T hT X
  obtain ⟨v, vm₁, ⟨U', l2, c2, s2⟩, hW₁, X', ⟨g', mk, t, L, e1, e2, hq, h1, hL, h2, h3⟩, st⟩ := vx_callSW X hx (hh := hh) (bytes := bytes) (maxL := maxL) (ret := ret) ho hl hstt hini hcode hy hK hg (hsize.trans hml.symm) (argsL := As) (rest := rest) (fun sig h => hn.trans (hlen sig h)) hstack hW (by rw [hb]; exact hdg)
    (fun vm₁ hW₁ => ⟨hf.1, hf.2, hp.2 (T.setVm vm₁) hT hW₁⟩)
  dsimp only [Pt.U, Pt.locs, Pt.cells, Pt.slots] at X' e1 e2 h1 h2 h3 st
  subst h1; subst h2; subst h3
  exact ⟨v, (T.setVm vm₁).calling g' mk As.toArray, t, U', L, hT, X', hL, e1, e2, hq, st⟩
/-- a thing of a world lies in the heap -/
theorem vx_lt {D : va_G} {cl : List vw_C} {ws : va_W} {H1 : Heap} (h : va_P D cl ws H1) {k : Nat} {q : Nat × va_E} (hk : ws[k]? = some q) : q.1 < H1.size := (h k q hk).lt
end VXS
/-! ===== END ===== -/
/-! ===== BEGIN methods with a table of their own: called by a name, returning or throwing ===== -/
section VXH
/-! vx_backW, vx_callVX, vx_callSX, vx_callVW, vx_runVW, vx_runVX, vx_runSX, vx_ofWH follow the same proofs as their sisters above (Free/Laws.lean, Shelf42/LK1.lean); vx_outP calls Shelf42/NT130.lean (outThrough). -/
section
variable {l : Launch} {R : Room} {p : Program} {e : Env} {below : List Frame} {s : State} {sargs : Array Value} {y : MethodName} {len W9 : Nat}
theorem vx_backW {ws : List Cond} {rm : Room} {Pc : Array Value → State → Prop} {Qc : Array Value → State → Outcome → State → Prop} {XC : String → State → State → Prop} {mc ms : Nat} {free : Addr → Prop} {bytes : ByteArray} {maxL : Nat} {ret : Option FieldType} {hh : List (Nat × Nat × Nat × Nat)}
    (hM : vx_Met l y ws rm Pc Qc XC mc ms free) (hblind : FrameBlind Pc) (hrc : rm.cells = mc) (hrs : rm.slots = ms)
    (hframes : rm.frames + 1 ≤ R.frames) (hlocals : W9 + (maxL + 11) + rm.locals ≤ R.locals)
    (hws : ∀ w ∈ ws, ∀ a' U, s.WarmedH U.vm → w.before a' U = true) (hcode : Cond.codeWith y bytes maxL ret hh ∈ ws) (hinit : ∀ a' U, s.WarmedH U.vm → (Cond.initialized y.cls).before a' U = true) :
    vx_Back l R p e below s sargs y len W9 (PreOf R mc ms Pc) (PostOf Qc mc ms free) (vx_Post XC mc ms free) := by
  intro m meth c A g ig mk a X hg hsize hdg hW hn hp
  have h1 : (headSpec ws rm).pre.before a A.U = true := atoms_intro fun w hw => hws w hw _ _ X.warmed
  have h2 : (Cond.codeWith y bytes maxL ret hh).before a A.U = true := hws _ hcode _ _ X.warmed
  have h3 : (Cond.initialized y.cls).before a A.U = true := hinit _ _ X.warmed
  have h4 : A.cells + (headSpec ws rm).room.cells ≤ R.cells := by rw [show (headSpec ws rm).room.cells = mc from hrc]; exact hp.1
  have h5 : A.slots + (headSpec ws rm).room.slots ≤ R.slots := by rw [show (headSpec ws rm).room.slots = ms from hrs]; exact hp.2.1
  have hPc : Pc a (A.U.calling g mk a) := hblind _ _ _ _ hp.2.2
  obtain ⟨U, Ls, c0, s0⟩ := A
  dsimp only [Pt.U, Pt.locs, Pt.cells, Pt.slots] at h1 h2 h3 h4 h5 X hn hPc ⊢
  obtain ⟨m9, methY, cY, hn9, hmY, hcY, -, hlY, -⟩ := Cond.codeWith_spec h2
  cases Option.some.inj (hn9.symm.trans hn)
  obtain ⟨kY, hkY, -⟩ := className_of_methodNamed hn
  have hinitY : kY.init = .initialized := Cond.initialized_spec (findClass_of_methodNamed hn) hkY h3
  have h : At U g.method c below := by rw [hg]; exact X.here
  have hlocals9 : W9 + (maxL + 11) + (headSpec ws rm).room.locals ≤ R.locals := hlocals
  have happ : (headSpec ws rm).appliesLoose y e.platform (U.calling g mk a) = true :=
    Spec.appliesLoose_calling (g := g) h hdg hn hkY hinitY
      (X.room_calling (g := g) (R' := (headSpec ws rm).room) hsize hmY hcY hframes (by rw [hlY]; omega) h4 h5) h1
  obtain ⟨mid, hmid⟩ := h.above
  have hfr : (U.setTop g).frames = (.java g :: mid) ++ below := by rw [State.frames_setTop' g h.top, hmid]; rfl
  obtain ⟨o, s₂, hsteps, -, hend, hq⟩ := Steps.callFree hM p X.admits X.cas X.clock (acts := []) hfr happ hPc trivial
  have hq' : vx_Q Qc XC mc ms free a (U.calling g mk a) o s₂ := hq
  rw [State.frames_setTop' g h.top] at hend
  obtain ⟨g₀, hg0⟩ := Option.isSome_iff_exists.mp h.top
  obtain ⟨r, hr⟩ := State.topJava?_eq_some.mp hg0
  have hr' : (({ U with heap := s₂.heap, slotsUsed := s₂.slotsUsed } : State).setVm s₂.vm).frames = .java g₀ :: r := hr
  rcases hq' with ⟨hqc, L, hfe, hL⟩ | ⟨q, rfl, E, ce, L, hx, hce, hcv, hcl, hW₂, hsm, hL⟩
  · obtain ⟨⟨v, rfl⟩, hW₂, e2, q2, q3, q4, q5, q6⟩ := id hfe
    have e3 : s₂ = ({ (U.calling g mk a).setFrames s₂.frames with heap := s₂.heap, slotsUsed := s₂.slotsUsed } : State).setVm s₂.vm := by
      have : s₂ = ({ s₂ with vm := (U.calling g mk a).vm } : State).setVm s₂.vm := rfl
      rw [e2] at this
      exact this
    obtain ⟨c₂, i₂, len₂, hc₂, hd₂, hf₂⟩ := hend
    have hW' : U.WarmedH s₂.vm := hW₂
    have hcc : c₂ = c := by
      have h1 : s₂.code? g.method = U.code? g.method := by
        rw [State.code?_eq, State.code?_eq, hW'.alike.method?]
      exact Option.some.inj (hc₂.symm.trans (h1.trans h.code))
    subst hcc
    have hlen : len₂ = len := by rw [hdg] at hd₂; cases hd₂; rfl
    subst hlen
    have hs₂ : s₂ = (({ U with heap := s₂.heap, slotsUsed := s₂.slotsUsed } : State).setVm s₂.vm).setTop { g with pc := g.pc + len₂, stack := v.toList ++ g.stack } := by
      refine e3.trans ?_
      rw [hf₂, State.calling_eq h.top, State.setFrames_setFrames, State.setTop_of_frames _ hr', hr]
      rfl
    have hsame : U.sameButNew ({ U with heap := s₂.heap, slotsUsed := s₂.slotsUsed } : State) L mc ms := by
      refine ⟨?_, q2, q3, q4, q5, q6⟩
      obtain ⟨t, ht, -⟩ := State.frames_cons hr
      show ({ U with heap := s₂.heap, slotsUsed := s₂.slotsUsed } : State) = { U.setFrames U.frames with heap := s₂.heap, slotsUsed := s₂.slotsUsed }
      rw [State.setFrames_self ht]
    subst hg
    refine Or.inl ⟨v, ⟨(({ U with heap := s₂.heap, slotsUsed := s₂.slotsUsed } : State).setVm s₂.vm), Ls ++ L, c0 + mc, s0 + ms⟩,
      ⟨X.admits, X.cas, X.clock, X.frames, X.room, X.hears, X.method, X.code, (X.here.setHeapUsed s₂.heap s₂.slotsUsed).setVm hW'.alike, X.tail, State.WarmedH.trans X.warmed hW', X.limits, X.bytes, X.same.trans (hsame.setVm s.vm)⟩,
      ⟨g, mk, s₂, L, rfl, rfl, hqc, rfl, hL, rfl, rfl⟩, ?_⟩
    show Steps p.tables e below _ ((({ U with heap := s₂.heap, slotsUsed := s₂.slotsUsed } : State).setVm s₂.vm).setTop { g with pc := g.pc + len₂, stack := v.toList ++ g.stack })
    rw [← hs₂]
    exact hsteps
  · obtain ⟨e2, q2, q3, q4, q5, q6⟩ := id hsm
    have e3 : s₂ = ({ (U.calling g mk a).setFrames s₂.frames with heap := s₂.heap, slotsUsed := s₂.slotsUsed } : State).setVm s₂.vm := by
      have : s₂ = ({ s₂ with vm := (U.calling g mk a).vm } : State).setVm s₂.vm := rfl
      rw [e2] at this
      exact this
    have hf₂ : s₂.frames = .throwing q :: .java g :: U.frames.tail := hend
    have hW' : U.WarmedH s₂.vm := hW₂
    have hs₂ : s₂ = ((({ U with heap := s₂.heap, slotsUsed := s₂.slotsUsed } : State).setVm s₂.vm).setTop g).pushFrame (.throwing q) := by
      refine e3.trans ?_
      rw [hf₂, State.calling_eq h.top, State.setFrames_setFrames, State.pushFrame, State.frames_setTop _ hr', State.setTop_of_frames _ hr', State.setFrames_setFrames, hr]
      rfl
    have hsame : U.sameButNew ({ U with heap := s₂.heap, slotsUsed := s₂.slotsUsed } : State) L mc ms := by
      refine ⟨?_, q2, q3, q4, q5, q6⟩
      obtain ⟨t, ht, -⟩ := State.frames_cons hr
      show ({ U with heap := s₂.heap, slotsUsed := s₂.slotsUsed } : State) = { U.setFrames U.frames with heap := s₂.heap, slotsUsed := s₂.slotsUsed }
      rw [State.setFrames_self ht]
    subst hg
    refine Or.inr ⟨q, ⟨(({ U with heap := s₂.heap, slotsUsed := s₂.slotsUsed } : State).setVm s₂.vm), Ls ++ L, c0 + mc, s0 + ms⟩,
      ⟨X.admits, X.cas, X.clock, X.frames, X.room, X.hears, X.method, X.code, (X.here.setHeapUsed s₂.heap s₂.slotsUsed).setVm hW'.alike, X.tail, State.WarmedH.trans X.warmed hW', X.limits, X.bytes, X.same.trans (hsame.setVm s.vm)⟩,
      ⟨g, mk, s₂, L, E, ce, rfl, rfl, hx, hce, hcv, hcl, rfl, hL, rfl, rfl⟩, ?_⟩
    show Steps p.tables e below _ (((({ U with heap := s₂.heap, slotsUsed := s₂.slotsUsed } : State).setVm s₂.vm).setTop g).pushFrame (.throwing q))
    rw [← hs₂]
    exact hsteps
end
variable {p : Program} {l : Launch} {e : Env} {R : Room} {s : State} {m : MethodId} {args : Array Value} {below : List Frame} {meth : Method} {c : Code} {T : State} {H : Heap} {locs : List Loc} {cells slots : Nat}
theorem vx_callVX (X : Stand p l e R s m args below meth c T locs cells slots) (hexec : p.tables.exec = Jvm.exec) {own C : String} {index : Nat} {y : MethodName} {bytes : ByteArray} {maxL : Nat} {ret : Option FieldType} {hh : List (Nat × Nat × Nat × Nat)}
    (hown : s.vm.findClass own = some m.cls) (hlink : (Cond.methodLink own index y).before args s = true) (hinst : (Cond.instanceMethod y).before args s = true) (hsel : (Cond.selects C y y).before args s = true)
    (hcode : (Cond.codeWith y bytes maxL ret hh).before args s = true) (hy : y.cls ≠ "java/lang/invoke/MethodHandle" ∧ y.cls ≠ "java/lang/invoke/VarHandle")
    {W9 : Nat} {Pre : Pt → Array Value → Prop} {Post : Pt → Array Value → Option Value → Pt → Prop} {PostX : Pt → Array Value → Addr → Pt → Prop} (hK : vx_Back l R p e below s args y 3 W9 Pre Post PostX)
    {b : Addr} {cellB : Cell} (hcell : T.heap[b]? = some cellB) (hobj : cellB.vm.isStatics = false) (hcls : s.vm.findClass C = some cellB.cls)
    {g : JFrame} (hg : g.method = m) (hsize : g.locals.size = c.maxLocals) {argsL rest : List Value} (hlen : ∀ sig, parseMethodDescriptor y.desc = some sig → argsL.length = sig.parameters.length)
    (hstack : g.stack = argsL.reverse ++ .ref b :: rest) (hW : 2 * g.monitorRoom + (rest.map fun v => v.category).sum ≤ W9) (hdg : decode c.code g.pc = .ok (.invokevirtual index, 3))
    (hpre : ∀ vm₁, s.WarmedH vm₁ → Pre ⟨T.setVm vm₁, locs, cells, slots⟩ (Value.ref b :: argsL).toArray) :
    (∃ (v : Option Value) (vm₁ : Vm) (B : Pt), s.WarmedH vm₁ ∧ Stand p l e R s m args below meth c B.U B.locs B.cells B.slots ∧ Post ⟨T.setVm vm₁, locs, cells, slots⟩ (Value.ref b :: argsL).toArray v B ∧
      ∀ target, Steps p.tables e below (B.U.setTop { g with pc := g.pc + 3, stack := v.toList ++ rest }) target → Steps p.tables e below (T.setTop g) target) ∨
    (∃ (q : Addr) (vm₁ : Vm) (B : Pt), s.WarmedH vm₁ ∧ Stand p l e R s m args below meth c B.U B.locs B.cells B.slots ∧ PostX ⟨T.setVm vm₁, locs, cells, slots⟩ (Value.ref b :: argsL).toArray q B ∧
      Steps p.tables e below (T.setTop g) ((B.U.setTop { g with stack := rest }).pushFrame (.throwing q))) := by
  obtain ⟨mk, methM, hnamed, hmethM, hstM, habM⟩ := Cond.instanceMethod_spec hinst
  obtain ⟨m8, methM', cM, hn8, hmethM', -, -, -, -, -, -, hsigM⟩ := Cond.codeWith_spec hcode
  cases Option.some.inj (hn8.symm.trans hnamed)
  cases hmethM.symm.trans hmethM'
  obtain ⟨c2, r2, m2, q1, q2, q3, q4, kP, hkP, hkPi⟩ := Cond.selects_spec hsel
  cases hcls.symm.trans q1
  cases (State.methodFound?_of_named hnamed hy).symm.trans q2
  cases hnamed.symm.trans q3
  have hselP : selectMethod e.platform s.vm cellB.cls mk = .method mk := by rw [Launch.admits_selectMethod X.admits]; exact q4
  obtain ⟨vm₁, X₁, hstep₁⟩ := X.invokevirtual hexec hown hlink hnamed hmethM hstM hkP hkPi hy (a := b) (cell := cellB) hcell
    (fun z h => by rw [h] at hobj; cases hobj) hselP hmethM habM hkP hkPi (g := g) hg (argsL := argsL) (rest := rest) (hlen _ hsigM) hstack hdg
  rcases hK m meth c ⟨T.setVm vm₁, locs, cells, slots⟩ { g with stack := rest } (.invokevirtual index) mk (Value.ref b :: argsL).toArray X₁ hg hsize hdg hW (X₁.named hnamed) (hpre vm₁ X₁.warmed) with ⟨v, B, X', hpost, hsteps⟩ | ⟨q, B, X', hpost, hsteps⟩
  · exact Or.inl ⟨v, vm₁, B, X₁.warmed, X', hpost, fun target h => hstep₁ _ fun acts => by rw [doInvoke_state]; exact hsteps.trans h⟩
  · exact Or.inr ⟨q, vm₁, B, X₁.warmed, X', hpost, hstep₁ _ fun acts => by rw [doInvoke_state]; exact hsteps⟩
theorem vx_callSX (X : Stand p l e R s m args below meth c T locs cells slots) (hexec : p.tables.exec = Jvm.exec) {own : String} {index : Nat} {y : MethodName} {bytes : ByteArray} {maxL : Nat} {ret : Option FieldType} {hh : List (Nat × Nat × Nat × Nat)}
    (hown : s.vm.findClass own = some m.cls) (hlink : (Cond.methodLink own index y).before args s = true) (hstat : (Cond.static y).before args s = true) (hinit : (Cond.initialized y.cls).before args s = true)
    (hcode : (Cond.codeWith y bytes maxL ret hh).before args s = true) (hy : y.cls ≠ "java/lang/invoke/MethodHandle" ∧ y.cls ≠ "java/lang/invoke/VarHandle")
    {W9 : Nat} {Pre : Pt → Array Value → Prop} {Post : Pt → Array Value → Option Value → Pt → Prop} {PostX : Pt → Array Value → Addr → Pt → Prop} (hK : vx_Back l R p e below s args y 3 W9 Pre Post PostX)
    {g : JFrame} (hg : g.method = m) (hsize : g.locals.size = c.maxLocals) {argsL rest : List Value} (hlen : ∀ sig, parseMethodDescriptor y.desc = some sig → argsL.length = sig.parameters.length)
    (hstack : g.stack = argsL.reverse ++ rest) (hW : 2 * g.monitorRoom + (rest.map fun v => v.category).sum ≤ W9) (hdg : decode c.code g.pc = .ok (.invokestatic index, 3))
    (hpre : ∀ vm₁, s.WarmedH vm₁ → Pre ⟨T.setVm vm₁, locs, cells, slots⟩ argsL.toArray) :
    (∃ (v : Option Value) (vm₁ : Vm) (B : Pt), s.WarmedH vm₁ ∧ Stand p l e R s m args below meth c B.U B.locs B.cells B.slots ∧ Post ⟨T.setVm vm₁, locs, cells, slots⟩ argsL.toArray v B ∧
      ∀ target, Steps p.tables e below (B.U.setTop { g with pc := g.pc + 3, stack := v.toList ++ rest }) target → Steps p.tables e below (T.setTop g) target) ∨
    (∃ (q : Addr) (vm₁ : Vm) (B : Pt), s.WarmedH vm₁ ∧ Stand p l e R s m args below meth c B.U B.locs B.cells B.slots ∧ PostX ⟨T.setVm vm₁, locs, cells, slots⟩ argsL.toArray q B ∧
      Steps p.tables e below (T.setTop g) ((B.U.setTop { g with stack := rest }).pushFrame (.throwing q))) := by
  obtain ⟨mk, methM, cM, hnamed, hmethM, -, -, -, -, -, -, hsigM⟩ := Cond.codeWith_spec hcode
  have hstatic : methM.isStatic = true := Cond.static_spec hnamed hmethM hstat
  obtain ⟨kP, hkP, -⟩ := className_of_methodNamed hnamed
  have hinitP : kP.init = .initialized := Cond.initialized_spec (findClass_of_methodNamed hnamed) hkP hinit
  obtain ⟨vm₁, X₁, hstep₁⟩ := X.invokestatic hexec hown hlink hnamed hmethM hstatic hkP hinitP hy (g := g) hg (argsL := argsL) (rest := rest) (hlen _ hsigM) hstack hdg
  rcases hK m meth c ⟨T.setVm vm₁, locs, cells, slots⟩ { g with stack := rest } (.invokestatic index) mk argsL.toArray X₁ hg hsize hdg hW (X₁.named hnamed) (hpre vm₁ X₁.warmed) with ⟨v, B, X', hpost, hsteps⟩ | ⟨q, B, X', hpost, hsteps⟩
  · exact Or.inl ⟨v, vm₁, B, X₁.warmed, X', hpost, fun target h => hstep₁ _ fun acts => by rw [doInvoke_state]; exact hsteps.trans h⟩
  · exact Or.inr ⟨q, vm₁, B, X₁.warmed, X', hpost, hstep₁ _ fun acts => by rw [doInvoke_state]; exact hsteps⟩
theorem vx_callVW (X : Stand p l e R s m args below meth c T locs cells slots) (hexec : p.tables.exec = Jvm.exec) {own C : String} {index : Nat} {y : MethodName} {bytes : ByteArray} {maxL : Nat} {ret : Option FieldType} {hh : List (Nat × Nat × Nat × Nat)}
    (hown : s.vm.findClass own = some m.cls) (hlink : (Cond.methodLink own index y).before args s = true) (hinst : (Cond.instanceMethod y).before args s = true) (hsel : (Cond.selects C y y).before args s = true)
    (hcode : (Cond.codeWith y bytes maxL ret hh).before args s = true) (hy : y.cls ≠ "java/lang/invoke/MethodHandle" ∧ y.cls ≠ "java/lang/invoke/VarHandle")
    {W9 : Nat} {Pre : Pt → Array Value → Prop} {Post : Pt → Array Value → Option Value → Pt → Prop} (hK : Back l R p e below s args y 3 W9 Pre Post)
    {b : Addr} {cellB : Cell} (hcell : T.heap[b]? = some cellB) (hobj : cellB.vm.isStatics = false) (hcls : s.vm.findClass C = some cellB.cls)
    {g : JFrame} (hg : g.method = m) (hsize : g.locals.size = c.maxLocals) {argsL rest : List Value} (hlen : ∀ sig, parseMethodDescriptor y.desc = some sig → argsL.length = sig.parameters.length)
    (hstack : g.stack = argsL.reverse ++ .ref b :: rest) (hW : 2 * g.monitorRoom + (rest.map fun v => v.category).sum ≤ W9) (hdg : decode c.code g.pc = .ok (.invokevirtual index, 3))
    (hpre : ∀ vm₁, s.WarmedH vm₁ → Pre ⟨T.setVm vm₁, locs, cells, slots⟩ (Value.ref b :: argsL).toArray) :
    ∃ (v : Option Value) (vm₁ : Vm) (B : Pt), s.WarmedH vm₁ ∧ Stand p l e R s m args below meth c B.U B.locs B.cells B.slots ∧ Post ⟨T.setVm vm₁, locs, cells, slots⟩ (Value.ref b :: argsL).toArray v B ∧
      ∀ target, Steps p.tables e below (B.U.setTop { g with pc := g.pc + 3, stack := v.toList ++ rest }) target → Steps p.tables e below (T.setTop g) target := by
  obtain ⟨mk, methM, hnamed, hmethM, hstM, habM⟩ := Cond.instanceMethod_spec hinst
  obtain ⟨m8, methM', cM, hn8, hmethM', -, -, -, -, -, -, hsigM⟩ := Cond.codeWith_spec hcode
  cases Option.some.inj (hn8.symm.trans hnamed)
  cases hmethM.symm.trans hmethM'
  obtain ⟨c2, r2, m2, q1, q2, q3, q4, kP, hkP, hkPi⟩ := Cond.selects_spec hsel
  cases hcls.symm.trans q1
  cases (State.methodFound?_of_named hnamed hy).symm.trans q2
  cases hnamed.symm.trans q3
  have hselP : selectMethod e.platform s.vm cellB.cls mk = .method mk := by rw [Launch.admits_selectMethod X.admits]; exact q4
  obtain ⟨vm₁, X₁, hstep₁⟩ := X.invokevirtual hexec hown hlink hnamed hmethM hstM hkP hkPi hy (a := b) (cell := cellB) hcell
    (fun z h => by rw [h] at hobj; cases hobj) hselP hmethM habM hkP hkPi (g := g) hg (argsL := argsL) (rest := rest) (hlen _ hsigM) hstack hdg
  obtain ⟨v, B, X', hpost, hsteps⟩ := hK m meth c ⟨T.setVm vm₁, locs, cells, slots⟩ { g with stack := rest } (.invokevirtual index) mk (Value.ref b :: argsL).toArray X₁ hg hsize hdg hW (X₁.named hnamed) (hpre vm₁ X₁.warmed)
  exact ⟨v, vm₁, B, X₁.warmed, X', hpost, fun target h => hstep₁ _ fun acts => by rw [doInvoke_state]; exact hsteps.trans h⟩
abbrev vx_CVW (R : Room) (s : State) (args : Array Value) (own C : String) (index : Nat) (y : MethodName) (bytes : ByteArray) (maxL : Nat) (ret : Option FieldType) (hh : List (Nat × Nat × Nat × Nat)) (ws : List Cond) (rm : Room) (mc ms n : Nat) : Prop :=
  (rm.cells = mc ∧ rm.slots = ms ∧ rm.frames + 1 ≤ R.frames ∧ 8 + (maxL + 11) + rm.locals ≤ R.locals ∧ (∀ w ∈ ws, ∀ (a' : Array Value) (U : State), s.WarmedH U.vm → w.before a' U = true) ∧ Cond.codeWith y bytes maxL ret hh ∈ ws) ∧
  (Cond.codeWith y bytes maxL ret hh).before args s = true ∧ (Cond.initialized y.cls).before args s = true ∧ (y.cls ≠ "java/lang/invoke/MethodHandle" ∧ y.cls ≠ "java/lang/invoke/VarHandle") ∧
  (∀ sig, parseMethodDescriptor y.desc = some sig → n = sig.parameters.length) ∧ (Cond.methodLink own index y).before args s = true ∧ (Cond.instanceMethod y).before args s = true ∧ (Cond.selects C y y).before args s = true
theorem vx_cwVW {own C : String} {index maxL mc ms : Nat} {y : MethodName} {bytes : ByteArray} {ret : Option FieldType} {hh : List (Nat × Nat × Nat × Nat)} {Ts ws ws' : List Cond} {rm : Room} (n : Nat) (ht : ∀ w ∈ Ts, w.before args s = true) (hT : GoodIn Ts (wsV own index C y ws)) (hw : ws = Cond.codeWith y bytes maxL ret hh :: ws') (hrc : rm.cells = mc) (hrs : rm.slots = ms)
    (hd : y.cls = C ∧ y.cls ≠ "java/lang/invoke/MethodHandle" ∧ y.cls ≠ "java/lang/invoke/VarHandle" ∧ (parseMethodDescriptor y.desc).map (fun d => d.parameters.length) = some n) (hR : rm.frames + 1 ≤ R.frames ∧ 8 + (maxL + 11) + rm.locals ≤ R.locals) :
    vx_CVW R s args own C index y bytes maxL ret hh ws rm mc ms n := by
  obtain ⟨hC, hd⟩ := hd
  subst hC
  have ok : ∀ w ∈ wsV own index y.cls y ws, w.before args s = true := fun w h => ht w (hT w h).1
  have hG : GoodIn Ts ws := fun w h => hT w (by unfold wsV; exact List.mem_append_right _ h)
  have hc : Cond.codeWith y bytes maxL ret hh ∈ ws := by rw [hw]; exact List.mem_cons_self
  refine ⟨⟨hrc, hrs, hR.1, hR.2, pay_in ht hG, hc⟩, ht _ (hG _ hc).1, ok _ (by simp [wsV]), ⟨hd.1, hd.2.1⟩, fun sig h => ?_, ok _ (by simp [wsV]), ok _ (by simp [wsV]), ok _ (by simp [wsV])⟩
  have h2 := hd.2.2
  rw [h] at h2
  exact (Option.some.inj h2).symm
theorem vx_runVW {y : MethodName} {bytes cc : ByteArray} {maxL nL mc ms n index : Nat} {ret : Option FieldType} {hh : List (Nat × Nat × Nat × Nat)} {ws : List Cond} {rm : Room} {Pc : Array Value → State → Prop} {Qc : Array Value → State → Outcome → State → Prop} {free : Addr → Prop} {Ts : List Cond} {own C : String} {b : Addr} {As rest : List Value} {g : JFrame}
    (S : CallFix p m c cc nL s args Ts own) (hM : Met l y ws rm Pc Qc mc ms free) (cw : vx_CVW R s args own C index y bytes maxL ret hh ws rm mc ms n) (hp : PreV s H C b Pc As)
    (hg : g.method = m) (hn : As.length = n) (hsize : g.locals.size = nL) (hstack : g.stack = As.reverse ++ .ref b :: rest) (hW : 2 * g.monitorRoom + (rest.map fun v => v.category).sum ≤ 8) (hdg : decode cc g.pc = .ok (.invokevirtual index, 3)) (hf : cells + mc ≤ R.cells ∧ slots + ms ≤ R.slots) :
    va_Run p l e R s m args below meth c H locs cells slots mc ms g rest (Qc (Value.ref b :: As).toArray) free := by
  obtain ⟨⟨hrc, hrs, hfr, hlo, hws, hcw⟩, hcode, hini, hy, hlen, hl, hin, hse⟩ := cw
  have hK : Back l R p e below s args y 3 8 (PreOf R mc ms Pc) (PostOf Qc mc ms free) := va_backW (hh := hh) (bytes := bytes) (maxL := maxL) (ret := ret) hM hp.1 hrc hrs hfr hlo hws hcw (fun a' U hW => word_at hW (Or.inl (by first | rfl | simp [Cond.onTables, Cond.keeps, Cond.steady])) hini)
  obtain ⟨hx, hb, hml, ho, -⟩ := S
  obtain ⟨-, ⟨cellB, hcB, hoB, hclB⟩, hPc⟩ := hp
  intro T hT X
  obtain ⟨v, vm₁, ⟨U', l2, c2, s2⟩, hW₁, X', ⟨g', mk, t, L, e1, e2, hq, h1, hL, h2, h3⟩, st⟩ := vx_callVW X hx (C := C) (hh := hh) (bytes := bytes) (maxL := maxL) (ret := ret) ho hl hin hse hcode hy hK (by rw [hT]; exact hcB) hoB hclB hg (hsize.trans hml.symm) (argsL := As) (rest := rest) (fun sig h => hn.trans (hlen sig h)) hstack hW (by rw [hb]; exact hdg)
    (fun vm₁ hW₁ => ⟨hf.1, hf.2, hPc (T.setVm vm₁) hT hW₁⟩)
  dsimp only [Pt.U, Pt.locs, Pt.cells, Pt.slots] at X' e1 e2 h1 h2 h3 st
  subst h1; subst h2; subst h3
  exact ⟨v, (T.setVm vm₁).calling g' mk (Value.ref b :: As).toArray, t, U', L, hT, X', hL, e1, e2, hq, st⟩
section
variable {y : MethodName} {bytes cc : ByteArray} {maxL nL mc ms n index : Nat} {ret : Option FieldType} {ws : List Cond} {rm : Room} {Pc : Array Value → State → Prop} {Qc : Array Value → State → Outcome → State → Prop} {XC : String → State → State → Prop} {free : Addr → Prop} {Ts : List Cond} {own C : String} {b : Addr} {As rest : List Value} {g : JFrame}
theorem vx_runVX {hh : List (Nat × Nat × Nat × Nat)} (S : CallFix p m c cc nL s args Ts own) (hM : vx_Met l y ws rm Pc Qc XC mc ms free) (cw : vx_CVW R s args own C index y bytes maxL ret hh ws rm mc ms n) (hp : PreV s H C b Pc As)
    (hg : g.method = m) (hn : As.length = n) (hsize : g.locals.size = nL) (hstack : g.stack = As.reverse ++ .ref b :: rest) (hW : 2 * g.monitorRoom + (rest.map fun v => v.category).sum ≤ 8) (hdg : decode cc g.pc = .ok (.invokevirtual index, 3)) (hf : cells + mc ≤ R.cells ∧ slots + ms ≤ R.slots) :
    vx_Run p l e R s m args below meth c H locs cells slots mc ms g rest (Qc (Value.ref b :: As).toArray) XC free := by
  obtain ⟨⟨hrc, hrs, hfr, hlo, hws, hcw⟩, hcode, hini, hy, hlen, hl, hin, hse⟩ := cw
  have hK : vx_Back l R p e below s args y 3 8 (PreOf R mc ms Pc) (PostOf Qc mc ms free) (vx_Post XC mc ms free) := vx_backW (hh := hh) (bytes := bytes) (maxL := maxL) (ret := ret) hM hp.1 hrc hrs hfr hlo hws hcw (fun a' U hW => word_at hW (Or.inl (by first | rfl | simp [Cond.onTables, Cond.keeps, Cond.steady])) hini)
  obtain ⟨hx, hb, hml, ho, -⟩ := S
  obtain ⟨-, ⟨cellB, hcB, hoB, hclB⟩, hPc⟩ := hp
  intro T hT X
  rcases vx_callVX X hx (C := C) (hh := hh) (bytes := bytes) (maxL := maxL) (ret := ret) ho hl hin hse hcode hy hK (by rw [hT]; exact hcB) hoB hclB hg (hsize.trans hml.symm) (argsL := As) (rest := rest) (fun sig h => hn.trans (hlen sig h)) hstack hW (by rw [hb]; exact hdg)
    (fun vm₁ hW₁ => ⟨hf.1, hf.2, hPc (T.setVm vm₁) hT hW₁⟩) with ⟨v, vm₁, ⟨U', l2, c2, s2⟩, hW₁, X', ⟨g', mk, t, L, e1, e2, hq, h1, hL, h2, h3⟩, st⟩ | ⟨q, vm₁, ⟨U', l2, c2, s2⟩, hW₁, X', ⟨g', mk, t, L, E, ce, e1, e2, hq, hce, hcv, hcl, h1, hL, h2, h3⟩, st⟩
  · dsimp only [Pt.U, Pt.locs, Pt.cells, Pt.slots] at X' e1 e2 h1 h2 h3 st
    subst h1; subst h2; subst h3
    exact Or.inl ⟨v, (T.setVm vm₁).calling g' mk (Value.ref b :: As).toArray, t, U', L, hT, X', hL, e1, e2, hq, st⟩
  · dsimp only [Pt.U, Pt.locs, Pt.cells, Pt.slots] at X' e1 e2 h1 h2 h3 st hcl
    subst h1; subst h2; subst h3
    exact Or.inr ⟨q, (T.setVm vm₁).calling g' mk (Value.ref b :: As).toArray, t, U', L, E, ce, hT, X', hL, e1, e2, hq, hce, hcv, vx_cls hW₁ hcl, st⟩
theorem vx_runSX {hh : List (Nat × Nat × Nat × Nat)} (S : CallFix p m c cc nL s args Ts own) (hM : vx_Met l y ws rm Pc Qc XC mc ms free) (cw : vx_CSW R s args own index y bytes maxL ret hh ws rm mc ms n) (hp : PreS s H Pc As)
    (hg : g.method = m) (hn : As.length = n) (hsize : g.locals.size = nL) (hstack : g.stack = As.reverse ++ rest) (hW : 2 * g.monitorRoom + (rest.map fun v => v.category).sum ≤ 8) (hdg : decode cc g.pc = .ok (.invokestatic index, 3)) (hf : cells + mc ≤ R.cells ∧ slots + ms ≤ R.slots) :
    vx_Run p l e R s m args below meth c H locs cells slots mc ms g rest (Qc As.toArray) XC free := by
  obtain ⟨⟨hrc, hrs, hfr, hlo, hws, hcw⟩, hcode, hini, hy, hlen, hl, hstt⟩ := cw
  have hK : vx_Back l R p e below s args y 3 8 (PreOf R mc ms Pc) (PostOf Qc mc ms free) (vx_Post XC mc ms free) := vx_backW (hh := hh) (bytes := bytes) (maxL := maxL) (ret := ret) hM hp.1 hrc hrs hfr hlo hws hcw (fun a' U hW => word_at hW (Or.inl (by first | rfl | simp [Cond.onTables, Cond.keeps, Cond.steady])) hini)
  obtain ⟨hx, hb, hml, ho, -⟩ := S
  intro T hT X
  rcases vx_callSX X hx (hh := hh) (bytes := bytes) (maxL := maxL) (ret := ret) ho hl hstt hini hcode hy hK hg (hsize.trans hml.symm) (argsL := As) (rest := rest) (fun sig h => hn.trans (hlen sig h)) hstack hW (by rw [hb]; exact hdg)
    (fun vm₁ hW₁ => ⟨hf.1, hf.2, hp.2 (T.setVm vm₁) hT hW₁⟩) with ⟨v, vm₁, ⟨U', l2, c2, s2⟩, hW₁, X', ⟨g', mk, t, L, e1, e2, hq, h1, hL, h2, h3⟩, st⟩ | ⟨q, vm₁, ⟨U', l2, c2, s2⟩, hW₁, X', ⟨g', mk, t, L, E, ce, e1, e2, hq, hce, hcv, hcl, h1, hL, h2, h3⟩, st⟩
  · dsimp only [Pt.U, Pt.locs, Pt.cells, Pt.slots] at X' e1 e2 h1 h2 h3 st
    subst h1; subst h2; subst h3
    exact Or.inl ⟨v, (T.setVm vm₁).calling g' mk As.toArray, t, U', L, hT, X', hL, e1, e2, hq, st⟩
  · dsimp only [Pt.U, Pt.locs, Pt.cells, Pt.slots] at X' e1 e2 h1 h2 h3 st hcl
    subst h1; subst h2; subst h3
    exact Or.inr ⟨q, (T.setVm vm₁).calling g' mk As.toArray, t, U', L, E, ce, hT, X', hL, e1, e2, hq, hce, hcv, vx_cls hW₁ hcl, st⟩
end
end VXH
theorem vx_ofWH {l : Launch} {y : MethodName} {ws ws' : List Cond} {rm : Room} {Pc : Array Value → State → Prop} {Qc : Array Value → State → Outcome → State → Prop} {XC : String → State → State → Prop} {mc ms : Nat} {free : Addr → Prop} {cc : ByteArray} {maxL : Nat} {ret : Option FieldType} {hh : List (Nat × Nat × Nat × Nat)}
    (hy : plainName y.cls = true) (hw : ws = Cond.codeWith y cc maxL ret hh :: ws')
    (body : ∀ p e s m args below meth c s₁, BodyLoose p l y (headSpec ws rm) cc maxL ret e s m args below meth c s₁ → c.maxLocals = maxL → Pc args s →
      W p l e (headSpec ws rm).room s m args below meth c s.heap [] 0 0 (vx_MQ below Qc XC args s mc ms free) (entryFrame m args maxL)) : vx_Met l y ws rm Pc Qc XC mc ms free := by
  refine MetFree.of_bodyS (code := cc) (maxLocals := maxL) (ret := ret) hy ?_ ?_
  · intro args s m h hn
    obtain ⟨m9, meth, c, hn9, h1, h2, h3, h4, -, h5, h6, -⟩ := Cond.codeWith_spec (atoms_spec (ws := ws) h _ (by rw [hw]; exact List.mem_cons_self))
    cases hn.symm.trans hn9
    exact ⟨meth, c, h1, h2, h3, h4, h5, h6⟩
  · intro p e s m args below meth c s₁ B hml hP _
    have hh0 : s₁.heap = s.heap := by rw [B.state]; rfl
    obtain ⟨t, a1, o, b1, b2, b3⟩ := body p e s m args below meth c s₁ B hml hP s₁ hh0 (Stand.of_body B)
    exact ⟨t, o, a1, b1, b2, b3⟩
/-! ===== END ===== -/
end
section
/-- the table of handlers, as the tables have it -/
def tw_tab (c : Code) (hs : List (Nat × Nat × Nat × Nat)) : Prop := c.exceptionTable.toList.map (fun h => (h.startPc, h.endPc, h.handlerPc, h.catchType)) = hs
/-! The search through a table whose catch types link (cold or warm). -/
section TW3
variable {e : Env} {s : State} {f : JFrame} {a : Addr}
/-- where the search ends, and the tables that it leaves -/
def tw_Finds (e : Env) (s : State) (f : JFrame) (a : Addr) (xs : List ExceptionTableEntry) (pc : Nat) (vm' : Vm) : Prop :=
  ∀ (Q : Handler → Pre) (E : CtlPost) (d : Bool) (acts : List Action), wp (findHandler.go f a xs) Q E e d acts s ↔ Q (.found pc) d acts (s.setVm vm')
theorem tw_find_yes {x : ExceptionTableEntry} {xs : List ExceptionTableEntry} {k : ClassId} {cell : Cell} (hx : covers x f.pc = true) (h0 : x.catchType ≠ 0)
    (hl : s.vm.ClassLinks e.platform f.method.cls x.catchType k) (hcell : s.heap[a]? = some cell) (hobj : ∀ j, cell.vm ≠ .statics j)
    (hk : ∃ j, s.vm.classes[cell.cls]? = some j) (hc : ∃ j, s.vm.classes[k]? = some j) (hfit : s.vm.assignable cell.cls k = true) :
    tw_Finds e s f a (x :: xs) x.handlerPc (s.vm.noted f.method.cls x.catchType (.cls k)) := by
  intro Q E d acts
  simp only [covers] at hx
  obtain ⟨ha, ht⟩ := (resolveClass_links e.toSetting hl).op (op := VmOp.resolveClass f.method.cls x.catchType) rfl
  have hal : s.vm.Alike (s.vm.noted f.method.cls x.catchType (.cls k)) := (Vm.Alike.refl s.vm).noted _ _ _
  obtain ⟨j1, hj1⟩ := hk
  obtain ⟨j2, hj2⟩ := hc
  obtain ⟨i1, hi1, -⟩ := hal.2.2 _ _ hj1
  obtain ⟨i2, hi2, -⟩ := hal.2.2 _ _ hj2
  have hfit' : (s.vm.noted f.method.cls x.catchType (.cls k)).assignable cell.cls k = true := by rw [hal.assignable]; exact hfit
  simp [findHandler.go, hx, h0, ha, ht, hcell, hobj, hi1, hi2, hfit', VmOp.dirties, VmOp.acts]
theorem tw_find_no {x : ExceptionTableEntry} {xs : List ExceptionTableEntry} {k : ClassId} {cell : Cell} {pc : Nat} {vm' : Vm} (hx : covers x f.pc = true) (h0 : x.catchType ≠ 0)
    (hl : s.vm.ClassLinks e.platform f.method.cls x.catchType k) (hcell : s.heap[a]? = some cell) (hobj : ∀ j, cell.vm ≠ .statics j)
    (hk : ∃ j, s.vm.classes[cell.cls]? = some j) (hc : ∃ j, s.vm.classes[k]? = some j) (hno : s.vm.assignable cell.cls k = false)
    (hr : tw_Finds e (s.setVm (s.vm.noted f.method.cls x.catchType (.cls k))) f a xs pc vm') :
    tw_Finds e s f a (x :: xs) pc vm' := by
  intro Q E d acts
  simp only [covers] at hx
  obtain ⟨ha, ht⟩ := (resolveClass_links e.toSetting hl).op (op := VmOp.resolveClass f.method.cls x.catchType) rfl
  have hal : s.vm.Alike (s.vm.noted f.method.cls x.catchType (.cls k)) := (Vm.Alike.refl s.vm).noted _ _ _
  obtain ⟨j1, hj1⟩ := hk
  obtain ⟨j2, hj2⟩ := hc
  obtain ⟨i1, hi1, -⟩ := hal.2.2 _ _ hj1
  obtain ⟨i2, hi2, -⟩ := hal.2.2 _ _ hj2
  have hno' : (s.vm.noted f.method.cls x.catchType (.cls k)).assignable cell.cls k = false := by rw [hal.assignable]; exact hno
  have h2 := hr Q E d acts
  rw [State.setVm_twice] at h2
  rw [← h2]
  simp [findHandler.go, hx, h0, ha, ht, hcell, hobj, hi1, hi2, hno', VmOp.dirties, VmOp.acts]
theorem tw_caught {tb : Tables} {T target : State} {g : JFrame} {c : Code} {meth : Method} {below : List Frame} (h : At T g.method c below) (hm : T.vm.method? g.method = some meth) (hc : meth.code = some c) {pc : Nat} {vm' : Vm}
    (hfind : tw_Finds e ((T.setTop g).pushFrame (.throwing a)) g a c.exceptionTable.toList pc vm') (hrest : Steps tb e below ((T.setVm vm').setTop { g with pc := pc, stack := [.ref a] }) target) :
    Steps tb e below ((T.setTop g).pushFrame (.throwing a)) target := by
  obtain ⟨hgo, hw⟩ := h.throwing a
  refine Steps.head hgo hw ?_
  have hstep : (stepThrowing e ((T.setTop g).pushFrame (.throwing a)) a (.java g :: T.frames.tail)).1 = ((((T.setTop g).pushFrame (.throwing a)).setVm vm').setFrames (.java { g with pc := pc, stack := [.ref a] } :: T.frames.tail)) := by
    have key : (stepThrowing e ((T.setTop g).pushFrame (.throwing a)) a (.java g :: T.frames.tail)).Is ((((T.setTop g).pushFrame (.throwing a)).setVm vm').setFrames (.java { g with pc := pc, stack := [.ref a] } :: T.frames.tail)) [] := by
      have hm' : ((T.setTop g).pushFrame (.throwing a)).vm.method? g.method = some meth := by rw [Stand.throwing_vm]; exact hm
      simp only [stepThrowing, searchFrame, vmDo]
      generalize hr : Sem.go _ e false [] ((T.setTop g).pushFrame (.throwing a)) = res
      obtain ⟨as, rfl, ha⟩ := Sem.eq_ok_of hr (a := Handler.found pc) (s' := ((T.setTop g).pushFrame (.throwing a)).setVm vm') (acts' := []) (by simp [Jvm.W.findHandler_eq hm' hc, hfind _ _ _ _])
      exact ⟨rfl, ha⟩
    exact key.1
  rw [stepThread_throwing (frames_entered h.top _), hstep]
  obtain ⟨g₀, hg⟩ := Option.isSome_iff_exists.mp h.top
  obtain ⟨r, hr⟩ := State.topJava?_eq_some.mp hg
  have hr' : (T.setVm vm').frames = .java g₀ :: r := hr
  rw [State.setTop_of_frames _ hr'] at hrest
  have hsf : ∀ (u : State) (F G : List Frame), ((u.setFrames F).setVm vm').setFrames G = (u.setVm vm').setFrames G := fun u F G => by
    have h1 : (u.setFrames F).setVm vm' = (u.setVm vm').setFrames F := rfl
    rw [h1, State.setFrames_setFrames]
  rw [hr, List.tail_cons, State.pushFrame, hsf, State.setTop_of_frames _ hr, hsf]
  exact hrest
end TW3
section TW4
variable {p : Program} {l : Launch} {e : Env} {R : Room} {s : State} {m : MethodId} {args : Array Value} {below : List Frame} {meth : Method} {c : Code} {H : Heap} {locs : List Loc} {cells slots : Nat} {Q : State → Prop}
variable {cc : ByteArray} {pc : Nat} {ls : Array Slot} {st rest : List Value} {free : Addr → Prop} {Qc : Array Value → State → Outcome → State → Prop}
/-- the first handler takes it -/
theorem vx_catch1 {own name C : String} {x lo hi h ct : Nat} {tl : List (Nat × Nat × Nat × Nat)} (htab : tw_tab c ((lo, hi, h, ct) :: tl)) (hown : s.vm.findClass own = some m.cls) (hcov : (decide (lo ≤ pc) && decide (pc < hi)) = true) (h0 : ct ≠ 0)
    (hlink : (Cond.classLink own ct name).before args s = true) (hcast : (Cond.castable C name).before args s = true) {cell : Cell} (hcell : H[x]? = some cell) (hvn : cell.vm = .none) (hfC : s.vm.findClass C = some cell.cls)
    (k : W p l e R s m args below meth c H locs cells slots Q (F0 m h ls [.ref x])) : vx_W p l e R s m args below meth c H locs cells slots Q (F0 m pc ls st) x := by
  intro T hT X
  have hpl : e.platform.magicAccessors = ({} : Platform).magicAccessors := by rw [X.admits.platform]
  have hobj : cell.vm.isStatics = false := by rw [hvn]; rfl
  obtain ⟨k1, hk1, hcl⟩ := Cond.classLink_spec hown hlink e.platform hpl
  obtain ⟨k3, kT, hk3, hkT, hasg⟩ := Cond.castable_spec hcast
  rw [show k1 = kT from Option.some.inj (hk1.symm.trans hkT)] at hcl
  have hck : k3 = cell.cls := Option.some.inj (hk3.symm.trans hfC)
  subst hck
  obtain ⟨x0, xs0, hsplit, hx0, -⟩ := List.map_eq_cons_iff.mp htab
  obtain ⟨g1, g2, g3, g4⟩ : x0.startPc = lo ∧ x0.endPc = hi ∧ x0.handlerPc = h ∧ x0.catchType = ct := by
    simpa [Prod.ext_iff] using hx0
  subst g1; subst g2; subst g3; subst g4
  obtain ⟨dk, _, _, kt, hd, _, _, _, _, hkt, _, hopen⟩ := hcl.here
  have hcl₀ := X.warmed.classLinks hcl
  have hW' : s.WarmedH (T.vm.noted m.cls x0.catchType (.cls kT)) := X.warmed.noted hd hopen (State.rightAt_cls hcl)
  obtain ⟨kt', hkt', -⟩ := X.warmed.alike.2.2 _ _ hkt
  have hfit' : T.vm.assignable cell.cls kT = true := by rw [X.warmed.alike.assignable]; exact hasg
  have hcellT : T.heap[x]? = some cell := by rw [hT]; exact hcell
  obtain ⟨t2, a1, b1⟩ := k (T.setVm (T.vm.noted m.cls x0.catchType (.cls kT))) hT (X.noted hW')
  refine ⟨t2, tw_caught (g := F0 m pc ls st) (c := c) (meth := meth) X.here X.method' X.code (pc := x0.handlerPc) (vm' := T.vm.noted m.cls x0.catchType (.cls kT)) ?_ a1, b1⟩
  rw [hsplit]
  exact tw_find_yes (s := (T.setTop (F0 m pc ls st)).pushFrame (.throwing x)) (f := F0 m pc ls st) hcov h0 hcl₀ hcellT (VmData.ne_statics_of hobj) (Vm.classAt_of_assignable hfit' ⟨kt', hkt'⟩) ⟨kt', hkt'⟩ hfit'
/-- the first handler passes it, the second takes it -/
theorem vx_catch2 {own name1 name C : String} {x lo1 hi1 h1 ct1 lo hi h ct : Nat} {tl : List (Nat × Nat × Nat × Nat)} (htab : tw_tab c ((lo1, hi1, h1, ct1) :: (lo, hi, h, ct) :: tl)) (hown : s.vm.findClass own = some m.cls)
    (hcov1 : (decide (lo1 ≤ pc) && decide (pc < hi1)) = true) (h01 : ct1 ≠ 0) (hlink1 : (Cond.classLink own ct1 name1).before args s = true) (hno : (Cond.not (.castable C name1)).before args s = true)
    (hcov : (decide (lo ≤ pc) && decide (pc < hi)) = true) (h0 : ct ≠ 0)
    (hlink : (Cond.classLink own ct name).before args s = true) (hcast : (Cond.castable C name).before args s = true) {cell : Cell} (hcell : H[x]? = some cell) (hvn : cell.vm = .none) (hfC : s.vm.findClass C = some cell.cls)
    (k : W p l e R s m args below meth c H locs cells slots Q (F0 m h ls [.ref x])) : vx_W p l e R s m args below meth c H locs cells slots Q (F0 m pc ls st) x := by
  intro T hT X
  have hpl : e.platform.magicAccessors = ({} : Platform).magicAccessors := by rw [X.admits.platform]
  have hobj : cell.vm.isStatics = false := by rw [hvn]; rfl
  obtain ⟨k1, hk1, hcl1⟩ := Cond.classLink_spec hown hlink1 e.platform hpl
  obtain ⟨k2, hk2, hcl⟩ := Cond.classLink_spec hown hlink e.platform hpl
  obtain ⟨k3, kT, hk3, hkT, hasg⟩ := Cond.castable_spec hcast
  rw [show k2 = kT from Option.some.inj (hk2.symm.trans hkT)] at hcl
  have hck : k3 = cell.cls := Option.some.inj (hk3.symm.trans hfC)
  subst hck
  have hnoa : s.vm.assignable cell.cls k1 = false := by
    have hv := Cond.holds_not_iff.mp hno
    simp only [Cond.value, hk3, hk1] at hv
    exact Option.some.inj hv
  obtain ⟨x0, xs0, hsplit, hx0, htab2⟩ := List.map_eq_cons_iff.mp htab
  obtain ⟨x1, xs1, hsplit1, hx1, -⟩ := List.map_eq_cons_iff.mp htab2
  obtain ⟨g1, g2, g3, g4⟩ : x0.startPc = lo1 ∧ x0.endPc = hi1 ∧ x0.handlerPc = h1 ∧ x0.catchType = ct1 := by
    simpa [Prod.ext_iff] using hx0
  obtain ⟨f1, f2, f3, f4⟩ : x1.startPc = lo ∧ x1.endPc = hi ∧ x1.handlerPc = h ∧ x1.catchType = ct := by
    simpa [Prod.ext_iff] using hx1
  subst g1; subst g2; subst g3; subst g4; subst f1; subst f2; subst f3; subst f4
  obtain ⟨dk1, _, _, kt1, hd1, _, _, _, _, hkt1, _, hopen1⟩ := hcl1.here
  obtain ⟨dk, _, _, kt, hd, _, _, _, _, hkt, _, hopen⟩ := hcl.here
  have hW1 : s.WarmedH (T.vm.noted m.cls x0.catchType (.cls k1)) := X.warmed.noted hd1 hopen1 (State.rightAt_cls hcl1)
  have X1 := X.noted hW1
  have hW2 : s.WarmedH ((T.vm.noted m.cls x0.catchType (.cls k1)).noted m.cls x1.catchType (.cls kT)) := hW1.noted hd hopen (State.rightAt_cls hcl)
  obtain ⟨kt1', hkt1', -⟩ := X.warmed.alike.2.2 _ _ hkt1
  obtain ⟨kt', hkt', -⟩ := hW1.alike.2.2 _ _ hkt
  have hfit' : (T.vm.noted m.cls x0.catchType (.cls k1)).assignable cell.cls kT = true := by rw [hW1.alike.assignable]; exact hasg
  have hno' : T.vm.assignable cell.cls k1 = false := by rw [X.warmed.alike.assignable]; exact hnoa
  have hfitT : T.vm.assignable cell.cls kT = true := by rw [X.warmed.alike.assignable]; exact hasg
  obtain ⟨ktT, hktT, -⟩ := X.warmed.alike.2.2 _ _ hkt
  have hcellT : T.heap[x]? = some cell := by rw [hT]; exact hcell
  obtain ⟨t2, a1, b1⟩ := k (T.setVm ((T.vm.noted m.cls x0.catchType (.cls k1)).noted m.cls x1.catchType (.cls kT))) hT (X.noted hW2)
  refine ⟨t2, tw_caught (g := F0 m pc ls st) (c := c) (meth := meth) X.here X.method' X.code (pc := x1.handlerPc) (vm' := (T.vm.noted m.cls x0.catchType (.cls k1)).noted m.cls x1.catchType (.cls kT)) ?_ a1, b1⟩
  rw [hsplit, hsplit1]
  refine tw_find_no (s := (T.setTop (F0 m pc ls st)).pushFrame (.throwing x)) (f := F0 m pc ls st) hcov1 h01 (X.warmed.classLinks hcl1) hcellT (VmData.ne_statics_of hobj) (Vm.classAt_of_assignable hfitT ⟨ktT, hktT⟩) ⟨kt1', hkt1'⟩ hno' ?_
  exact tw_find_yes (s := ((T.setTop (F0 m pc ls st)).pushFrame (.throwing x)).setVm (T.vm.noted m.cls x0.catchType (.cls k1))) (f := F0 m pc ls st) hcov h0 (hW1.classLinks hcl) hcellT (VmData.ne_statics_of hobj) (Vm.classAt_of_assignable hfit' ⟨kt', hkt'⟩) ⟨kt', hkt'⟩ hfit'
end TW4
end
section
def RX0 : String := "TongueHouse$Chart"
def TX0 : u_T := fun k => match k with
  | 0 => ("TongueHouse$Chart", "store", "LTongueHouse$Store;", true)
  | 1 => ("TongueHouse$Chart", "firstNode", "[I", true)
  | 2 => ("TongueHouse$Chart", "nodeCount", "[I", true)
  | 3 => ("TongueHouse$Chart", "nodes", "I", false)
  | 4 => ("TongueHouse$Chart", "nodeEnd", "[I", true)
  | 5 => ("TongueHouse$Chart", "nodeValues", "[I", true)
  | 6 => ("TongueHouse$Chart", "ways", "I", false)
  | 7 => ("TongueHouse$Chart", "wayNode", "[I", true)
  | 8 => ("TongueHouse$Chart", "wayRule", "[I", true)
  | 9 => ("TongueHouse$Chart", "wayArgs", "[I", true)
  | 10 => ("TongueHouse$Chart", "root", "I", false)
  | 11 => ("TongueHouse$Chart", "tries", "I", false)
  | 12 => ("TongueHouse$Chart", "over", "Z", false)
  | 13 => ("TongueHouse$Chart", "tongue", "LTongueHouse$Tongue;", false)
  | 14 => ("TongueHouse$Chart", "text", "LTongueHouse$Text;", false)
  | 15 => ("TongueHouse$Chart", "kindLins", "[I", true)
  | 16 => ("TongueHouse$Chart", "linOrder", "[I", true)
  | 17 => ("TongueHouse$Chart", "spanFirst", "I", false)
  | 18 => ("TongueHouse$Chart", "spanEnd", "I", false)
  | 19 => ("TongueHouse$Chart", "chosen", "[I", true)
  | 20 => ("TongueHouse$Chart", "chosenValues", "[I", true)
  | _ => ("TongueHouse$Chart", "work", "[I", true)
def tyX0 : Nat → FieldType := fun k => match k with
  | 0 => .object "TongueHouse$Store"
  | 1 => .array .int
  | 2 => .array .int
  | 3 => .int
  | 4 => .array .int
  | 5 => .array .int
  | 6 => .int
  | 7 => .array .int
  | 8 => .array .int
  | 9 => .array .int
  | 10 => .int
  | 11 => .int
  | 12 => .boolean
  | 13 => .object "TongueHouse$Tongue"
  | 14 => .object "TongueHouse$Text"
  | 15 => .array .int
  | 16 => .array .int
  | 17 => .int
  | 18 => .int
  | 19 => .array .int
  | 20 => .array .int
  | _ => .array .int
abbrev wsX00 : List Cond := u_ws RX0 TX0 22
theorem nmX0 : ∀ a, a < 22 → ∀ b, b < 22 → a ≠ b → (TX0 a).2.1 ≠ (TX0 b).2.1 := by decide +kernel
theorem tyX0_ok : ∀ k, k < 22 → parseFieldDescriptor (TX0 k).2.2.1 = some (tyX0 k) := by decide +kernel
abbrev cX0_init : ByteArray := prog_2_method_1_code
def yX0_init : MethodName := ⟨RX0, "<init>", "(LTongueHouse$Store;)V"⟩
abbrev cX0_forget : ByteArray := prog_2_method_2_code
def yX0_forget : MethodName := ⟨RX0, "forget", "()V"⟩
abbrev cX0_forgetTries : ByteArray := prog_2_method_3_code
def yX0_forgetTries : MethodName := ⟨RX0, "forgetTries", "()V"⟩
abbrev cX0_fill : ByteArray := prog_2_method_4_code
def yX0_fill : MethodName := ⟨RX0, "fill", "(LTongueHouse$Tongue;LTongueHouse$Text;I)I"⟩
abbrev cX0_spanAt : ByteArray := prog_2_method_5_code
def yX0_spanAt : MethodName := ⟨RX0, "spanAt", "(III)I"⟩
abbrev cX0_orderLins : ByteArray := prog_2_method_6_code
def yX0_orderLins : MethodName := ⟨RX0, "orderLins", "()V"⟩
abbrev cX0_fillSpan : ByteArray := prog_2_method_7_code
def yX0_fillSpan : MethodName := ⟨RX0, "fillSpan", "(IIII)V"⟩
abbrev cX0_layForms : ByteArray := prog_2_method_8_code
def yX0_layForms : MethodName := ⟨RX0, "layForms", "(II)V"⟩
abbrev cX0_lay : ByteArray := prog_2_method_9_code
def yX0_lay : MethodName := ⟨RX0, "lay", "(LTongueHouse$Lin;III)V"⟩
abbrev cX0_isAt : ByteArray := prog_2_method_10_code
def yX0_isAt : MethodName := ⟨RX0, "isAt", "(III)Z"⟩
abbrev cX0_putWay : ByteArray := prog_2_method_11_code
def yX0_putWay : MethodName := ⟨RX0, "putWay", "(III)V"⟩
def RX1 : String := "TongueHouse$Finder"
def TX1 : u_T := fun k => match k with
  | 0 => ("TongueHouse$Finder", "store", "LTongueHouse$Store;", true)
  | 1 => ("TongueHouse$Finder", "analysisTongue", "I", false)
  | 2 => ("TongueHouse$Finder", "analyses", "I", false)
  | 3 => ("TongueHouse$Finder", "analysed", "[I", true)
  | 4 => ("TongueHouse$Finder", "guesses", "I", false)
  | 5 => ("TongueHouse$Finder", "guessPattern", "[I", true)
  | 6 => ("TongueHouse$Finder", "guessForms", "[I", true)
  | 7 => ("TongueHouse$Finder", "guessTotal", "I", false)
  | 8 => ("TongueHouse$Finder", "guessEnding", "I", false)
  | 9 => ("TongueHouse$Finder", "collected", "I", false)
  | 10 => ("TongueHouse$Finder", "sentence", "[[B", true)
  | 11 => ("TongueHouse$Finder", "sentenceTongue", "[I", true)
  | 12 => ("TongueHouse$Finder", "words", "LTongueHouse$Text;", true)
  | 13 => ("TongueHouse$Finder", "wordKinds", "[I", true)
  | 14 => ("TongueHouse$Finder", "hits", "I", false)
  | 15 => ("TongueHouse$Finder", "hitSentence", "[I", true)
  | 16 => ("TongueHouse$Finder", "hitWord", "[I", true)
  | 17 => ("TongueHouse$Finder", "asked", "I", false)
  | _ => ("TongueHouse$Finder", "question", "[I", true)
def tyX1 : Nat → FieldType := fun k => match k with
  | 0 => .object "TongueHouse$Store"
  | 1 => .int
  | 2 => .int
  | 3 => .array .int
  | 4 => .int
  | 5 => .array .int
  | 6 => .array .int
  | 7 => .int
  | 8 => .int
  | 9 => .int
  | 10 => .array (.array .byte)
  | 11 => .array .int
  | 12 => .object "TongueHouse$Text"
  | 13 => .array .int
  | 14 => .int
  | 15 => .array .int
  | 16 => .array .int
  | 17 => .int
  | _ => .array .int
abbrev wsX10 : List Cond := u_ws RX1 TX1 19
theorem nmX1 : ∀ a, a < 19 → ∀ b, b < 19 → a ≠ b → (TX1 a).2.1 ≠ (TX1 b).2.1 := by decide +kernel
theorem tyX1_ok : ∀ k, k < 19 → parseFieldDescriptor (TX1 k).2.2.1 = some (tyX1 k) := by decide +kernel
abbrev cX1_init : ByteArray := prog_3_method_1_code
def yX1_init : MethodName := ⟨RX1, "<init>", "(LTongueHouse$Store;)V"⟩
abbrev cX1_noteAnalyses : ByteArray := prog_3_method_2_code
def yX1_noteAnalyses : MethodName := ⟨RX1, "noteAnalyses", "(ILTongueHouse$Tongue;LTongueHouse$Text;)I"⟩
abbrev cX1_tellAnalysis : ByteArray := prog_3_method_3_code
def yX1_tellAnalysis : MethodName := ⟨RX1, "tellAnalysis", "(II)I"⟩
abbrev cX1_noteGuesses : ByteArray := prog_3_method_4_code
def yX1_noteGuesses : MethodName := ⟨RX1, "noteGuesses", "(LTongueHouse$Tongue;LTongueHouse$Text;)I"⟩
abbrev cX1_countEndings : ByteArray := prog_3_method_5_code
def yX1_countEndings : MethodName := ⟨RX1, "countEndings", "(LTongueHouse$Tongue;LTongueHouse$Text;I)V"⟩
abbrev cX1_tellGuess : ByteArray := prog_3_method_6_code
def yX1_tellGuess : MethodName := ⟨RX1, "tellGuess", "(II)I"⟩
abbrev cX1_isFull : ByteArray := prog_3_method_7_code
def yX1_isFull : MethodName := ⟨RX1, "isFull", "()Z"⟩
abbrev cX1_collect : ByteArray := prog_3_method_8_code
def yX1_collect : MethodName := ⟨RX1, "collect", "(ILTongueHouse$Text;)I"⟩
abbrev cX1_search : ByteArray := prog_3_method_9_code
def yX1_search : MethodName := ⟨RX1, "search", "(ILTongueHouse$Tongue;LTongueHouse$Text;)I"⟩
abbrev cX1_readQuestion : ByteArray := prog_3_method_10_code
def yX1_readQuestion : MethodName := ⟨RX1, "readQuestion", "(LTongueHouse$Text;)Z"⟩
abbrev cX1_searchWords : ByteArray := prog_3_method_11_code
def yX1_searchWords : MethodName := ⟨RX1, "searchWords", "(ILTongueHouse$Tongue;LTongueHouse$Text;)V"⟩
abbrev cX1_kindsOf : ByteArray := prog_3_method_12_code
def yX1_kindsOf : MethodName := ⟨RX1, "kindsOf", "(LTongueHouse$Tongue;I)I"⟩
abbrev cX1_fitsAt : ByteArray := prog_3_method_13_code
def yX1_fitsAt : MethodName := ⟨RX1, "fitsAt", "(IILTongueHouse$Text;)Z"⟩
abbrev cX1_tellHit : ByteArray := prog_3_method_14_code
def yX1_tellHit : MethodName := ⟨RX1, "tellHit", "(II)I"⟩
def RX2 : String := "TongueHouse$Forms"
def TX2 : u_T := fun k => match k with
  | 0 => ("TongueHouse$Forms", "pool", "[B", true)
  | 1 => ("TongueHouse$Forms", "text", "[B", true)
  | 2 => ("TongueHouse$Forms", "size", "[I", true)
  | 3 => ("TongueHouse$Forms", "chain", "[I", true)
  | 4 => ("TongueHouse$Forms", "head", "[I", true)
  | 5 => ("TongueHouse$Forms", "found", "[I", true)
  | 6 => ("TongueHouse$Forms", "from", "[B", false)
  | 7 => ("TongueHouse$Forms", "to", "[B", false)
  | 8 => ("TongueHouse$Forms", "builtWords", "I", false)
  | _ => ("TongueHouse$Forms", "builtSounds", "I", false)
def tyX2 : Nat → FieldType := fun k => match k with
  | 0 => .array .byte
  | 1 => .array .byte
  | 2 => .array .int
  | 3 => .array .int
  | 4 => .array .int
  | 5 => .array .int
  | 6 => .array .byte
  | 7 => .array .byte
  | 8 => .int
  | _ => .int
abbrev wsX20 : List Cond := u_ws RX2 TX2 10
theorem nmX2 : ∀ a, a < 10 → ∀ b, b < 10 → a ≠ b → (TX2 a).2.1 ≠ (TX2 b).2.1 := by decide +kernel
theorem tyX2_ok : ∀ k, k < 10 → parseFieldDescriptor (TX2 k).2.2.1 = some (tyX2 k) := by decide +kernel
abbrev cX2_init : ByteArray := prog_4_method_1_code
def yX2_init : MethodName := ⟨RX2, "<init>", "([B)V"⟩
abbrev cX2_build : ByteArray := prog_4_method_2_code
def yX2_build : MethodName := ⟨RX2, "build", "(LTongueHouse$Tongue;)V"⟩
abbrev cX2_hash : ByteArray := prog_4_method_3_code
def yX2_hash : MethodName := ⟨RX2, "hash", "([BII)I"⟩
abbrev cX2_findSame : ByteArray := prog_4_method_4_code
def yX2_findSame : MethodName := ⟨RX2, "findSame", "([BII)I"⟩
abbrev cX2_isForm : ByteArray := prog_4_method_5_code
def yX2_isForm : MethodName := ⟨RX2, "isForm", "(I[BII)Z"⟩
abbrev cX2_endsWith : ByteArray := prog_4_method_6_code
def yX2_endsWith : MethodName := ⟨RX2, "endsWith", "(I[BII)Z"⟩
abbrev cX2_join : ByteArray := prog_4_method_7_code
def yX2_join : MethodName := ⟨RX2, "join", "(LTongueHouse$Tongue;II)I"⟩
abbrev cX2_soundWord : ByteArray := prog_4_method_8_code
def yX2_soundWord : MethodName := ⟨RX2, "soundWord", "(LTongueHouse$Tongue;LTongueHouse$Text;)I"⟩
abbrev cX2_soundAll : ByteArray := prog_4_method_9_code
def yX2_soundAll : MethodName := ⟨RX2, "soundAll", "(LTongueHouse$Tongue;I)I"⟩
abbrev cX2_soundOnce : ByteArray := prog_4_method_10_code
def yX2_soundOnce : MethodName := ⟨RX2, "soundOnce", "(LTongueHouse$Tongue;II)I"⟩
abbrev cX2_fitsAt : ByteArray := prog_4_method_11_code
def yX2_fitsAt : MethodName := ⟨RX2, "fitsAt", "(LTongueHouse$Tongue;I[BII)I"⟩
abbrev cX2_leftFits : ByteArray := prog_4_method_12_code
def yX2_leftFits : MethodName := ⟨RX2, "leftFits", "(LTongueHouse$Tongue;II)Z"⟩
abbrev cX2_rightFits : ByteArray := prog_4_method_13_code
def yX2_rightFits : MethodName := ⟨RX2, "rightFits", "(LTongueHouse$Tongue;III)Z"⟩
def RX3 : String := "TongueHouse$Lin"
def TX3 : u_T := fun k => match k with
  | 0 => ("TongueHouse$Lin", "number", "I", false)
  | 1 => ("TongueHouse$Lin", "fun", "I", false)
  | 2 => ("TongueHouse$Lin", "rank", "I", false)
  | 3 => ("TongueHouse$Lin", "cost", "I", false)
  | 4 => ("TongueHouse$Lin", "size", "I", false)
  | 5 => ("TongueHouse$Lin", "arg", "[I", true)
  | 6 => ("TongueHouse$Lin", "from", "[I", true)
  | 7 => ("TongueHouse$Lin", "length", "[I", true)
  | 8 => ("TongueHouse$Lin", "slots", "I", false)
  | 9 => ("TongueHouse$Lin", "slotArg", "[I", true)
  | 10 => ("TongueHouse$Lin", "slotNeed", "[I", true)
  | 11 => ("TongueHouse$Lin", "slotOf", "[I", true)
  | 12 => ("TongueHouse$Lin", "agrees", "I", false)
  | 13 => ("TongueHouse$Lin", "agree", "[I", true)
  | 14 => ("TongueHouse$Lin", "gives", "I", false)
  | _ => ("TongueHouse$Lin", "give", "[I", true)
def tyX3 : Nat → FieldType := fun k => match k with
  | 0 => .int
  | 1 => .int
  | 2 => .int
  | 3 => .int
  | 4 => .int
  | 5 => .array .int
  | 6 => .array .int
  | 7 => .array .int
  | 8 => .int
  | 9 => .array .int
  | 10 => .array .int
  | 11 => .array .int
  | 12 => .int
  | 13 => .array .int
  | 14 => .int
  | _ => .array .int
abbrev wsX30 : List Cond := u_ws RX3 TX3 16
theorem nmX3 : ∀ a, a < 16 → ∀ b, b < 16 → a ≠ b → (TX3 a).2.1 ≠ (TX3 b).2.1 := by decide +kernel
theorem tyX3_ok : ∀ k, k < 16 → parseFieldDescriptor (TX3 k).2.2.1 = some (tyX3 k) := by decide +kernel
abbrev cX3_init : ByteArray := prog_5_method_1_code
def yX3_init : MethodName := ⟨RX3, "<init>", "()V"⟩
abbrev cX3_fit : ByteArray := prog_5_method_2_code
def yX3_fit : MethodName := ⟨RX3, "fit", "(II)I"⟩
abbrev cX3_clashes : ByteArray := prog_5_method_3_code
def yX3_clashes : MethodName := ⟨RX3, "clashes", "([II)Z"⟩
abbrev cX3_unite : ByteArray := prog_5_method_4_code
def yX3_unite : MethodName := ⟨RX3, "unite", "([I[I)I"⟩
def RX4 : String := "TongueHouse$Names"
def TX4 : u_T := fun k => match k with
  | 0 => ("TongueHouse$Names", "name", "[J", true)
  | _ => ("TongueHouse$Names", "size", "I", false)
def tyX4 : Nat → FieldType := fun k => match k with
  | 0 => .array .long
  | _ => .int
abbrev wsX40 : List Cond := u_ws RX4 TX4 2
theorem nmX4 : ∀ a, a < 2 → ∀ b, b < 2 → a ≠ b → (TX4 a).2.1 ≠ (TX4 b).2.1 := by decide +kernel
theorem tyX4_ok : ∀ k, k < 2 → parseFieldDescriptor (TX4 k).2.2.1 = some (tyX4 k) := by decide +kernel
abbrev cX4_init : ByteArray := prog_6_method_1_code
def yX4_init : MethodName := ⟨RX4, "<init>", "(I)V"⟩
abbrev cX4_find : ByteArray := prog_6_method_2_code
def yX4_find : MethodName := ⟨RX4, "find", "(J)I"⟩
abbrev cX4_isFull : ByteArray := prog_6_method_3_code
def yX4_isFull : MethodName := ⟨RX4, "isFull", "()Z"⟩
abbrev cX4_put : ByteArray := prog_6_method_4_code
def yX4_put : MethodName := ⟨RX4, "put", "(J)V"⟩
def RX5 : String := "TongueHouse$Ranking"
def TX5 : u_T := fun k => match k with
  | 0 => ("TongueHouse$Ranking", "store", "LTongueHouse$Store;", true)
  | 1 => ("TongueHouse$Ranking", "chart", "LTongueHouse$Chart;", true)
  | 2 => ("TongueHouse$Ranking", "tongue", "LTongueHouse$Tongue;", false)
  | 3 => ("TongueHouse$Ranking", "isOpen", "Z", false)
  | 4 => ("TongueHouse$Ranking", "ranked", "Z", false)
  | 5 => ("TongueHouse$Ranking", "barred", "[Z", true)
  | 6 => ("TongueHouse$Ranking", "treeCount", "[J", true)
  | 7 => ("TongueHouse$Ranking", "reached", "[Z", true)
  | 8 => ("TongueHouse$Ranking", "orderSize", "I", false)
  | 9 => ("TongueHouse$Ranking", "order", "[I", false)
  | 10 => ("TongueHouse$Ranking", "spare", "[I", false)
  | 11 => ("TongueHouse$Ranking", "listSize", "[I", true)
  | 12 => ("TongueHouse$Ranking", "listPrice", "[I", true)
  | 13 => ("TongueHouse$Ranking", "listWay", "[I", true)
  | 14 => ("TongueHouse$Ranking", "listRanks", "[I", true)
  | 15 => ("TongueHouse$Ranking", "topSize", "I", false)
  | 16 => ("TongueHouse$Ranking", "topPrice", "[I", true)
  | 17 => ("TongueHouse$Ranking", "topEntry", "[I", true)
  | _ => ("TongueHouse$Ranking", "stack", "[I", true)
def tyX5 : Nat → FieldType := fun k => match k with
  | 0 => .object "TongueHouse$Store"
  | 1 => .object "TongueHouse$Chart"
  | 2 => .object "TongueHouse$Tongue"
  | 3 => .boolean
  | 4 => .boolean
  | 5 => .array .boolean
  | 6 => .array .long
  | 7 => .array .boolean
  | 8 => .int
  | 9 => .array .int
  | 10 => .array .int
  | 11 => .array .int
  | 12 => .array .int
  | 13 => .array .int
  | 14 => .array .int
  | 15 => .int
  | 16 => .array .int
  | 17 => .array .int
  | _ => .array .int
abbrev wsX50 : List Cond := u_ws RX5 TX5 19
theorem nmX5 : ∀ a, a < 19 → ∀ b, b < 19 → a ≠ b → (TX5 a).2.1 ≠ (TX5 b).2.1 := by decide +kernel
theorem tyX5_ok : ∀ k, k < 19 → parseFieldDescriptor (TX5 k).2.2.1 = some (tyX5 k) := by decide +kernel
abbrev cX5_init : ByteArray := prog_7_method_1_code
def yX5_init : MethodName := ⟨RX5, "<init>", "(LTongueHouse$Store;LTongueHouse$Chart;)V"⟩
abbrev cX5_close : ByteArray := prog_7_method_2_code
def yX5_close : MethodName := ⟨RX5, "close", "()V"⟩
abbrev cX5_open : ByteArray := prog_7_method_3_code
def yX5_open : MethodName := ⟨RX5, "open", "(LTongueHouse$Tongue;)V"⟩
abbrev cX5_setBarred : ByteArray := prog_7_method_4_code
def yX5_setBarred : MethodName := ⟨RX5, "setBarred", "(IZ)V"⟩
abbrev cX5_funOf : ByteArray := prog_7_method_5_code
def yX5_funOf : MethodName := ⟨RX5, "funOf", "(I)I"⟩
abbrev cX5_slotsOf : ByteArray := prog_7_method_6_code
def yX5_slotsOf : MethodName := ⟨RX5, "slotsOf", "(I)I"⟩
abbrev cX5_ownPrice : ByteArray := prog_7_method_7_code
def yX5_ownPrice : MethodName := ⟨RX5, "ownPrice", "(I)I"⟩
abbrev cX5_total : ByteArray := prog_7_method_8_code
def yX5_total : MethodName := ⟨RX5, "total", "()J"⟩
abbrev cX5_times : ByteArray := prog_7_method_9_code
def yX5_times : MethodName := ⟨RX5, "times", "(JJ)J"⟩
abbrev cX5_priceOf : ByteArray := prog_7_method_10_code
def yX5_priceOf : MethodName := ⟨RX5, "priceOf", "(I)I"⟩
abbrev cX5_spell : ByteArray := prog_7_method_11_code
def yX5_spell : MethodName := ⟨RX5, "spell", "(I[I)I"⟩
abbrev cX5_rank : ByteArray := prog_7_method_12_code
def yX5_rank : MethodName := ⟨RX5, "rank", "()V"⟩
abbrev cX5_reach : ByteArray := prog_7_method_13_code
def yX5_reach : MethodName := ⟨RX5, "reach", "()V"⟩
abbrev cX5_sortWays : ByteArray := prog_7_method_14_code
def yX5_sortWays : MethodName := ⟨RX5, "sortWays", "()V"⟩
abbrev cX5_merge : ByteArray := prog_7_method_15_code
def yX5_merge : MethodName := ⟨RX5, "merge", "(III)V"⟩
abbrev cX5_compare : ByteArray := prog_7_method_16_code
def yX5_compare : MethodName := ⟨RX5, "compare", "(II)I"⟩
abbrev cX5_compareArguments : ByteArray := prog_7_method_17_code
def yX5_compareArguments : MethodName := ⟨RX5, "compareArguments", "(III)I"⟩
abbrev cX5_choose : ByteArray := prog_7_method_18_code
def yX5_choose : MethodName := ⟨RX5, "choose", "(IIIII)V"⟩
abbrev cX5_putList : ByteArray := prog_7_method_19_code
def yX5_putList : MethodName := ⟨RX5, "putList", "(III)V"⟩
abbrev cX5_putTop : ByteArray := prog_7_method_20_code
def yX5_putTop : MethodName := ⟨RX5, "putTop", "(I)V"⟩
abbrev cX5_comesBefore : ByteArray := prog_7_method_21_code
def yX5_comesBefore : MethodName := ⟨RX5, "comesBefore", "(II)Z"⟩
def RX6 : String := "TongueHouse$Reader"
def TX6 : u_T := fun k => match k with
  | 0 => ("TongueHouse$Reader", "store", "LTongueHouse$Store;", true)
  | 1 => ("TongueHouse$Reader", "tape", "LTongueHouse$Text;", true)
  | 2 => ("TongueHouse$Reader", "tongue", "LTongueHouse$Tongue;", false)
  | 3 => ("TongueHouse$Reader", "rule", "I", false)
  | 4 => ("TongueHouse$Reader", "where", "I", false)
  | 5 => ("TongueHouse$Reader", "first", "I", false)
  | 6 => ("TongueHouse$Reader", "values", "I", false)
  | 7 => ("TongueHouse$Reader", "cost", "I", false)
  | 8 => ("TongueHouse$Reader", "cells", "I", false)
  | 9 => ("TongueHouse$Reader", "cell", "[I", true)
  | 10 => ("TongueHouse$Reader", "row", "[I", true)
  | 11 => ("TongueHouse$Reader", "names", "[J", true)
  | 12 => ("TongueHouse$Reader", "termSize", "I", false)
  | 13 => ("TongueHouse$Reader", "termOp", "[I", true)
  | 14 => ("TongueHouse$Reader", "termName", "[J", true)
  | 15 => ("TongueHouse$Reader", "binders", "I", false)
  | 16 => ("TongueHouse$Reader", "binder", "[J", true)
  | 17 => ("TongueHouse$Reader", "opened", "[I", true)
  | _ => ("TongueHouse$Reader", "seen", "[I", true)
def tyX6 : Nat → FieldType := fun k => match k with
  | 0 => .object "TongueHouse$Store"
  | 1 => .object "TongueHouse$Text"
  | 2 => .object "TongueHouse$Tongue"
  | 3 => .int
  | 4 => .int
  | 5 => .int
  | 6 => .int
  | 7 => .int
  | 8 => .int
  | 9 => .array .int
  | 10 => .array .int
  | 11 => .array .long
  | 12 => .int
  | 13 => .array .int
  | 14 => .array .long
  | 15 => .int
  | 16 => .array .long
  | 17 => .array .int
  | _ => .array .int
abbrev wsX60 : List Cond := u_ws RX6 TX6 19
theorem nmX6 : ∀ a, a < 19 → ∀ b, b < 19 → a ≠ b → (TX6 a).2.1 ≠ (TX6 b).2.1 := by decide +kernel
theorem tyX6_ok : ∀ k, k < 19 → parseFieldDescriptor (TX6 k).2.2.1 = some (tyX6 k) := by decide +kernel
abbrev cX6_init : ByteArray := prog_8_method_1_code
def yX6_init : MethodName := ⟨RX6, "<init>", "(LTongueHouse$Store;LTongueHouse$Text;)V"⟩
abbrev cX6_begin : ByteArray := prog_8_method_2_code
def yX6_begin : MethodName := ⟨RX6, "begin", "()V"⟩
abbrev cX6_readStatement : ByteArray := prog_8_method_3_code
def yX6_readStatement : MethodName := ⟨RX6, "readStatement", "()Z"⟩
abbrev cX6_wrong : ByteArray := prog_8_method_4_code
def yX6_wrong : MethodName := ⟨RX6, "wrong", "(II)Z"⟩
abbrev cX6_take : ByteArray := prog_8_method_5_code
def yX6_take : MethodName := ⟨RX6, "take", "(I)Z"⟩
abbrev cX6_need : ByteArray := prog_8_method_6_code
def yX6_need : MethodName := ⟨RX6, "need", "(I)Z"⟩
abbrev cX6_isWord : ByteArray := prog_8_method_7_code
def yX6_isWord : MethodName := ⟨RX6, "isWord", "(J)Z"⟩
abbrev cX6_needNew : ByteArray := prog_8_method_8_code
def yX6_needNew : MethodName := ⟨RX6, "needNew", "(LTongueHouse$Names;)Z"⟩
abbrev cX6_needKnown : ByteArray := prog_8_method_9_code
def yX6_needKnown : MethodName := ⟨RX6, "needKnown", "(LTongueHouse$Names;)Z"⟩
abbrev cX6_closes : ByteArray := prog_8_method_10_code
def yX6_closes : MethodName := ⟨RX6, "closes", "(Z)Z"⟩
abbrev cX6_readCost : ByteArray := prog_8_method_11_code
def yX6_readCost : MethodName := ⟨RX6, "readCost", "()Z"⟩
abbrev cX6_readValues : ByteArray := prog_8_method_12_code
def yX6_readValues : MethodName := ⟨RX6, "readValues", "(Z)Z"⟩
abbrev cX6_keepLetters : ByteArray := prog_8_method_13_code
def yX6_keepLetters : MethodName := ⟨RX6, "keepLetters", "()I"⟩
abbrev cX6_readTongue : ByteArray := prog_8_method_14_code
def yX6_readTongue : MethodName := ⟨RX6, "readTongue", "()Z"⟩
abbrev cX6_readNewName : ByteArray := prog_8_method_15_code
def yX6_readNewName : MethodName := ⟨RX6, "readNewName", "(LTongueHouse$Names;)Z"⟩
abbrev cX6_readFun : ByteArray := prog_8_method_16_code
def yX6_readFun : MethodName := ⟨RX6, "readFun", "()Z"⟩
abbrev cX6_readFact : ByteArray := prog_8_method_17_code
def yX6_readFact : MethodName := ⟨RX6, "readFact", "()Z"⟩
abbrev cX6_readFeature : ByteArray := prog_8_method_18_code
def yX6_readFeature : MethodName := ⟨RX6, "readFeature", "()Z"⟩
abbrev cX6_readClass : ByteArray := prog_8_method_19_code
def yX6_readClass : MethodName := ⟨RX6, "readClass", "()Z"⟩
abbrev cX6_readSound : ByteArray := prog_8_method_20_code
def yX6_readSound : MethodName := ⟨RX6, "readSound", "()Z"⟩
abbrev cX6_readSide : ByteArray := prog_8_method_21_code
def yX6_readSide : MethodName := ⟨RX6, "readSide", "(II)Z"⟩
abbrev cX6_readContext : ByteArray := prog_8_method_22_code
def yX6_readContext : MethodName := ⟨RX6, "readContext", "(I)Z"⟩
abbrev cX6_readPattern : ByteArray := prog_8_method_23_code
def yX6_readPattern : MethodName := ⟨RX6, "readPattern", "()Z"⟩
abbrev cX6_readParent : ByteArray := prog_8_method_24_code
def yX6_readParent : MethodName := ⟨RX6, "readParent", "()Z"⟩
abbrev cX6_readCell : ByteArray := prog_8_method_25_code
def yX6_readCell : MethodName := ⟨RX6, "readCell", "()Z"⟩
abbrev cX6_readPart : ByteArray := prog_8_method_26_code
def yX6_readPart : MethodName := ⟨RX6, "readPart", "()Z"⟩
abbrev cX6_placeCell : ByteArray := prog_8_method_27_code
def yX6_placeCell : MethodName := ⟨RX6, "placeCell", "()Z"⟩
abbrev cX6_readWord : ByteArray := prog_8_method_28_code
def yX6_readWord : MethodName := ⟨RX6, "readWord", "()Z"⟩
abbrev cX6_readStems : ByteArray := prog_8_method_29_code
def yX6_readStems : MethodName := ⟨RX6, "readStems", "()Z"⟩
abbrev cX6_readHas : ByteArray := prog_8_method_30_code
def yX6_readHas : MethodName := ⟨RX6, "readHas", "()Z"⟩
abbrev cX6_readLin : ByteArray := prog_8_method_31_code
def yX6_readLin : MethodName := ⟨RX6, "readLin", "()Z"⟩
abbrev cX6_readItems : ByteArray := prog_8_method_32_code
def yX6_readItems : MethodName := ⟨RX6, "readItems", "(LTongueHouse$Lin;)Z"⟩
abbrev cX6_readArgument : ByteArray := prog_8_method_33_code
def yX6_readArgument : MethodName := ⟨RX6, "readArgument", "(LTongueHouse$Lin;)Z"⟩
abbrev cX6_readSaids : ByteArray := prog_8_method_34_code
def yX6_readSaids : MethodName := ⟨RX6, "readSaids", "(LTongueHouse$Lin;)Z"⟩
abbrev cX6_readAgree : ByteArray := prog_8_method_35_code
def yX6_readAgree : MethodName := ⟨RX6, "readAgree", "(LTongueHouse$Lin;)Z"⟩
abbrev cX6_readGive : ByteArray := prog_8_method_36_code
def yX6_readGive : MethodName := ⟨RX6, "readGive", "(LTongueHouse$Lin;)Z"⟩
abbrev cX6_needArgument : ByteArray := prog_8_method_37_code
def yX6_needArgument : MethodName := ⟨RX6, "needArgument", "(LTongueHouse$Lin;)Z"⟩
abbrev cX6_readMean : ByteArray := prog_8_method_38_code
def yX6_readMean : MethodName := ⟨RX6, "readMean", "()Z"⟩
abbrev cX6_readTerm : ByteArray := prog_8_method_39_code
def yX6_readTerm : MethodName := ⟨RX6, "readTerm", "(II)Z"⟩
abbrev cX6_readBinder : ByteArray := prog_8_method_40_code
def yX6_readBinder : MethodName := ⟨RX6, "readBinder", "(II)Z"⟩
abbrev cX6_readAtom : ByteArray := prog_8_method_41_code
def yX6_readAtom : MethodName := ⟨RX6, "readAtom", "(II)Z"⟩
abbrev cX6_putNode : ByteArray := prog_8_method_42_code
def yX6_putNode : MethodName := ⟨RX6, "putNode", "(IIJ)V"⟩
abbrev cX6_readTree : ByteArray := prog_8_method_43_code
def yX6_readTree : MethodName := ⟨RX6, "readTree", "([I)I"⟩
abbrev cX6_kindWanted : ByteArray := prog_8_method_44_code
def yX6_kindWanted : MethodName := ⟨RX6, "kindWanted", "(I)I"⟩
abbrev cX6_closeArguments : ByteArray := prog_8_method_45_code
def yX6_closeArguments : MethodName := ⟨RX6, "closeArguments", "(I)I"⟩
def RX7 : String := "TongueHouse$Sayer"
def TX7 : u_T := fun k => match k with
  | 0 => ("TongueHouse$Sayer", "store", "LTongueHouse$Store;", true)
  | 1 => ("TongueHouse$Sayer", "tongue", "LTongueHouse$Tongue;", false)
  | 2 => ("TongueHouse$Sayer", "child", "[I", true)
  | 3 => ("TongueHouse$Sayer", "options", "[I", true)
  | 4 => ("TongueHouse$Sayer", "cost", "[I", true)
  | 5 => ("TongueHouse$Sayer", "values", "[I", true)
  | 6 => ("TongueHouse$Sayer", "length", "[I", true)
  | 7 => ("TongueHouse$Sayer", "rule", "[I", true)
  | 8 => ("TongueHouse$Sayer", "picks", "[I", true)
  | 9 => ("TongueHouse$Sayer", "at", "I", false)
  | 10 => ("TongueHouse$Sayer", "picked", "[I", true)
  | 11 => ("TongueHouse$Sayer", "work", "[I", true)
  | 12 => ("TongueHouse$Sayer", "openEntry", "[I", true)
  | _ => ("TongueHouse$Sayer", "openItem", "[I", true)
def tyX7 : Nat → FieldType := fun k => match k with
  | 0 => .object "TongueHouse$Store"
  | 1 => .object "TongueHouse$Tongue"
  | 2 => .array .int
  | 3 => .array .int
  | 4 => .array .int
  | 5 => .array .int
  | 6 => .array .int
  | 7 => .array .int
  | 8 => .array .int
  | 9 => .int
  | 10 => .array .int
  | 11 => .array .int
  | 12 => .array .int
  | _ => .array .int
abbrev wsX70 : List Cond := u_ws RX7 TX7 14
theorem nmX7 : ∀ a, a < 14 → ∀ b, b < 14 → a ≠ b → (TX7 a).2.1 ≠ (TX7 b).2.1 := by decide +kernel
theorem tyX7_ok : ∀ k, k < 14 → parseFieldDescriptor (TX7 k).2.2.1 = some (tyX7 k) := by decide +kernel
abbrev cX7_init : ByteArray := prog_9_method_1_code
def yX7_init : MethodName := ⟨RX7, "<init>", "(LTongueHouse$Store;)V"⟩
abbrev cX7_findOptions : ByteArray := prog_9_method_2_code
def yX7_findOptions : MethodName := ⟨RX7, "findOptions", "(LTongueHouse$Tongue;[II)I"⟩
abbrev cX7_pickWords : ByteArray := prog_9_method_3_code
def yX7_pickWords : MethodName := ⟨RX7, "pickWords", "(I)V"⟩
abbrev cX7_pickLins : ByteArray := prog_9_method_4_code
def yX7_pickLins : MethodName := ⟨RX7, "pickLins", "(I)V"⟩
abbrev cX7_pick : ByteArray := prog_9_method_5_code
def yX7_pick : MethodName := ⟨RX7, "pick", "(LTongueHouse$Lin;IIII)V"⟩
abbrev cX7_putOption : ByteArray := prog_9_method_6_code
def yX7_putOption : MethodName := ⟨RX7, "putOption", "(IIIII)V"⟩
abbrev cX7_write : ByteArray := prog_9_method_7_code
def yX7_write : MethodName := ⟨RX7, "write", "(ILTongueHouse$Text;)V"⟩
def RX8 : String := "TongueHouse$Store"
def TX8 : u_T := fun k => match k with
  | 0 => ("TongueHouse$Store", "kinds", "LTongueHouse$Names;", true)
  | 1 => ("TongueHouse$Store", "funs", "LTongueHouse$Names;", true)
  | 2 => ("TongueHouse$Store", "things", "LTongueHouse$Names;", true)
  | 3 => ("TongueHouse$Store", "tongueNames", "LTongueHouse$Names;", true)
  | 4 => ("TongueHouse$Store", "tongues", "[LTongueHouse$Tongue;", true)
  | 5 => ("TongueHouse$Store", "current", "I", false)
  | 6 => ("TongueHouse$Store", "funKind", "[I", true)
  | 7 => ("TongueHouse$Store", "funArity", "[I", true)
  | 8 => ("TongueHouse$Store", "funArgs", "[I", true)
  | 9 => ("TongueHouse$Store", "funCost", "[I", true)
  | 10 => ("TongueHouse$Store", "meanSize", "[I", true)
  | 11 => ("TongueHouse$Store", "meanOp", "[I", true)
  | 12 => ("TongueHouse$Store", "meanName", "[J", true)
  | 13 => ("TongueHouse$Store", "factCount", "I", false)
  | 14 => ("TongueHouse$Store", "factName", "[J", true)
  | 15 => ("TongueHouse$Store", "factThings", "[I", true)
  | 16 => ("TongueHouse$Store", "pool", "[B", true)
  | 17 => ("TongueHouse$Store", "poolSize", "I", false)
  | 18 => ("TongueHouse$Store", "isFull", "Z", false)
  | 19 => ("TongueHouse$Store", "marks", "[I", true)
  | _ => ("TongueHouse$Store", "stack", "[I", true)
def tyX8 : Nat → FieldType := fun k => match k with
  | 0 => .object "TongueHouse$Names"
  | 1 => .object "TongueHouse$Names"
  | 2 => .object "TongueHouse$Names"
  | 3 => .object "TongueHouse$Names"
  | 4 => .array (.object "TongueHouse$Tongue")
  | 5 => .int
  | 6 => .array .int
  | 7 => .array .int
  | 8 => .array .int
  | 9 => .array .int
  | 10 => .array .int
  | 11 => .array .int
  | 12 => .array .long
  | 13 => .int
  | 14 => .array .long
  | 15 => .array .int
  | 16 => .array .byte
  | 17 => .int
  | 18 => .boolean
  | 19 => .array .int
  | _ => .array .int
abbrev wsX80 : List Cond := u_ws RX8 TX8 21
theorem nmX8 : ∀ a, a < 21 → ∀ b, b < 21 → a ≠ b → (TX8 a).2.1 ≠ (TX8 b).2.1 := by decide +kernel
theorem tyX8_ok : ∀ k, k < 21 → parseFieldDescriptor (TX8 k).2.2.1 = some (tyX8 k) := by decide +kernel
abbrev cX8_init : ByteArray := prog_10_method_1_code
def yX8_init : MethodName := ⟨RX8, "<init>", "()V"⟩
abbrev cX8_mark : ByteArray := prog_10_method_2_code
def yX8_mark : MethodName := ⟨RX8, "mark", "()V"⟩
abbrev cX8_restore : ByteArray := prog_10_method_3_code
def yX8_restore : MethodName := ⟨RX8, "restore", "()V"⟩
abbrev cX8_keepByte : ByteArray := prog_10_method_4_code
def yX8_keepByte : MethodName := ⟨RX8, "keepByte", "(I)V"⟩
abbrev cX8_makeTongue : ByteArray := prog_10_method_5_code
def yX8_makeTongue : MethodName := ⟨RX8, "makeTongue", "(J)V"⟩
abbrev cX8_findFact : ByteArray := prog_10_method_6_code
def yX8_findFact : MethodName := ⟨RX8, "findFact", "(JII)I"⟩
abbrev cX8_sizeOf : ByteArray := prog_10_method_7_code
def yX8_sizeOf : MethodName := ⟨RX8, "sizeOf", "(I)I"⟩
abbrev cX8_findChildren : ByteArray := prog_10_method_8_code
def yX8_findChildren : MethodName := ⟨RX8, "findChildren", "([II[I)V"⟩
abbrev cX8_writeTree : ByteArray := prog_10_method_9_code
def yX8_writeTree : MethodName := ⟨RX8, "writeTree", "([IILTongueHouse$Text;)V"⟩
def RX9 : String := "TongueHouse$Text"
def TX9 : u_T := fun k => match k with
  | 0 => ("TongueHouse$Text", "bytes", "[B", true)
  | 1 => ("TongueHouse$Text", "size", "I", false)
  | 2 => ("TongueHouse$Text", "start", "[I", true)
  | 3 => ("TongueHouse$Text", "len", "[I", true)
  | 4 => ("TongueHouse$Text", "words", "I", false)
  | 5 => ("TongueHouse$Text", "at", "I", false)
  | 6 => ("TongueHouse$Text", "next", "I", false)
  | 7 => ("TongueHouse$Text", "type", "I", false)
  | 8 => ("TongueHouse$Text", "value", "I", false)
  | _ => ("TongueHouse$Text", "name", "J", false)
def tyX9 : Nat → FieldType := fun k => match k with
  | 0 => .array .byte
  | 1 => .int
  | 2 => .array .int
  | 3 => .array .int
  | 4 => .int
  | 5 => .int
  | 6 => .int
  | 7 => .int
  | 8 => .int
  | _ => .long
abbrev wsX90 : List Cond := u_ws RX9 TX9 10
theorem nmX9 : ∀ a, a < 10 → ∀ b, b < 10 → a ≠ b → (TX9 a).2.1 ≠ (TX9 b).2.1 := by decide +kernel
theorem tyX9_ok : ∀ k, k < 10 → parseFieldDescriptor (TX9 k).2.2.1 = some (tyX9 k) := by decide +kernel
abbrev cX9_init : ByteArray := prog_11_method_1_code
def yX9_init : MethodName := ⟨RX9, "<init>", "()V"⟩
abbrev cX9_put : ByteArray := prog_11_method_2_code
def yX9_put : MethodName := ⟨RX9, "put", "(I)V"⟩
abbrev cX9_putFour : ByteArray := prog_11_method_3_code
def yX9_putFour : MethodName := ⟨RX9, "putFour", "(I)V"⟩
abbrev cX9_putBytes : ByteArray := prog_11_method_4_code
def yX9_putBytes : MethodName := ⟨RX9, "putBytes", "([BII)V"⟩
abbrev cX9_putSpaced : ByteArray := prog_11_method_5_code
def yX9_putSpaced : MethodName := ⟨RX9, "putSpaced", "([BII)V"⟩
abbrev cX9_putWordsBetween : ByteArray := prog_11_method_6_code
def yX9_putWordsBetween : MethodName := ⟨RX9, "putWordsBetween", "(LTongueHouse$Text;II)V"⟩
abbrev cX9_putWords : ByteArray := prog_11_method_7_code
def yX9_putWords : MethodName := ⟨RX9, "putWords", "(LTongueHouse$Text;)V"⟩
abbrev cX9_putName : ByteArray := prog_11_method_8_code
def yX9_putName : MethodName := ⟨RX9, "putName", "(J)V"⟩
abbrev cX9_putNumber : ByteArray := prog_11_method_9_code
def yX9_putNumber : MethodName := ⟨RX9, "putNumber", "(I)V"⟩
abbrev cX9_equalsBytes : ByteArray := prog_11_method_10_code
def yX9_equalsBytes : MethodName := ⟨RX9, "equalsBytes", "([BI)Z"⟩
abbrev cX9_isLetter : ByteArray := prog_11_method_11_code
def yX9_isLetter : MethodName := ⟨RX9, "isLetter", "(I)Z"⟩
abbrev cX9_isSign : ByteArray := prog_11_method_12_code
def yX9_isSign : MethodName := ⟨RX9, "isSign", "(I)Z"⟩
abbrev cX9_isWord : ByteArray := prog_11_method_13_code
def yX9_isWord : MethodName := ⟨RX9, "isWord", "()Z"⟩
abbrev cX9_split : ByteArray := prog_11_method_14_code
def yX9_split : MethodName := ⟨RX9, "split", "()Z"⟩
abbrev cX9_rewind : ByteArray := prog_11_method_15_code
def yX9_rewind : MethodName := ⟨RX9, "rewind", "()V"⟩
abbrev cX9_advance : ByteArray := prog_11_method_16_code
def yX9_advance : MethodName := ⟨RX9, "advance", "()V"⟩
abbrev cX9_takeName : ByteArray := prog_11_method_17_code
def yX9_takeName : MethodName := ⟨RX9, "takeName", "()V"⟩
abbrev cX9_takeNumber : ByteArray := prog_11_method_18_code
def yX9_takeNumber : MethodName := ⟨RX9, "takeNumber", "()V"⟩
abbrev cX9_takeLetters : ByteArray := prog_11_method_19_code
def yX9_takeLetters : MethodName := ⟨RX9, "takeLetters", "()V"⟩
abbrev cX9_lettersSize : ByteArray := prog_11_method_20_code
def yX9_lettersSize : MethodName := ⟨RX9, "lettersSize", "()I"⟩
abbrev cX9_onlyName : ByteArray := prog_11_method_21_code
def yX9_onlyName : MethodName := ⟨RX9, "onlyName", "()J"⟩
def RX10 : String := "TongueHouse$Thought"
def TX10 : u_T := fun k => match k with
  | 0 => ("TongueHouse$Thought", "store", "LTongueHouse$Store;", true)
  | 1 => ("TongueHouse$Thought", "size", "I", false)
  | 2 => ("TongueHouse$Thought", "op", "[I", false)
  | 3 => ("TongueHouse$Thought", "name", "[J", false)
  | 4 => ("TongueHouse$Thought", "nextOp", "[I", false)
  | 5 => ("TongueHouse$Thought", "nextName", "[J", false)
  | 6 => ("TongueHouse$Thought", "child", "[I", true)
  | 7 => ("TongueHouse$Thought", "stack", "[I", true)
  | 8 => ("TongueHouse$Thought", "inner", "[I", true)
  | 9 => ("TongueHouse$Thought", "open", "I", false)
  | 10 => ("TongueHouse$Thought", "openName", "[J", true)
  | 11 => ("TongueHouse$Thought", "openPart", "[I", true)
  | 12 => ("TongueHouse$Thought", "openSeen", "[I", true)
  | 13 => ("TongueHouse$Thought", "openValue", "[I", true)
  | 14 => ("TongueHouse$Thought", "openLevel", "[I", true)
  | 15 => ("TongueHouse$Thought", "thing", "[I", true)
  | 16 => ("TongueHouse$Thought", "at", "I", false)
  | 17 => ("TongueHouse$Thought", "level", "I", false)
  | _ => ("TongueHouse$Thought", "astray", "Z", false)
def tyX10 : Nat → FieldType := fun k => match k with
  | 0 => .object "TongueHouse$Store"
  | 1 => .int
  | 2 => .array .int
  | 3 => .array .long
  | 4 => .array .int
  | 5 => .array .long
  | 6 => .array .int
  | 7 => .array .int
  | 8 => .array .int
  | 9 => .int
  | 10 => .array .long
  | 11 => .array .int
  | 12 => .array .int
  | 13 => .array .int
  | 14 => .array .int
  | 15 => .array .int
  | 16 => .int
  | 17 => .int
  | _ => .boolean
abbrev wsX100 : List Cond := u_ws RX10 TX10 19
theorem nmX10 : ∀ a, a < 19 → ∀ b, b < 19 → a ≠ b → (TX10 a).2.1 ≠ (TX10 b).2.1 := by decide +kernel
theorem tyX10_ok : ∀ k, k < 19 → parseFieldDescriptor (TX10 k).2.2.1 = some (tyX10 k) := by decide +kernel
abbrev cX10_init : ByteArray := prog_12_method_1_code
def yX10_init : MethodName := ⟨RX10, "<init>", "(LTongueHouse$Store;)V"⟩
abbrev cX10_ponder : ByteArray := prog_12_method_2_code
def yX10_ponder : MethodName := ⟨RX10, "ponder", "([II)I"⟩
abbrev cX10_putTogether : ByteArray := prog_12_method_3_code
def yX10_putTogether : MethodName := ⟨RX10, "putTogether", "([II)Z"⟩
abbrev cX10_reduce : ByteArray := prog_12_method_4_code
def yX10_reduce : MethodName := ⟨RX10, "reduce", "()Z"⟩
abbrev cX10_endOf : ByteArray := prog_12_method_5_code
def yX10_endOf : MethodName := ⟨RX10, "endOf", "(I)I"⟩
abbrev cX10_contract : ByteArray := prog_12_method_6_code
def yX10_contract : MethodName := ⟨RX10, "contract", "(I)Z"⟩
abbrev cX10_takeRest : ByteArray := prog_12_method_7_code
def yX10_takeRest : MethodName := ⟨RX10, "takeRest", "(II)Z"⟩
abbrev cX10_paste : ByteArray := prog_12_method_8_code
def yX10_paste : MethodName := ⟨RX10, "paste", "(IIII)I"⟩
abbrev cX10_tell : ByteArray := prog_12_method_9_code
def yX10_tell : MethodName := ⟨RX10, "tell", "(LTongueHouse$Text;)V"⟩
abbrev cX10_tellLeaf : ByteArray := prog_12_method_10_code
def yX10_tellLeaf : MethodName := ⟨RX10, "tellLeaf", "(IILTongueHouse$Text;)V"⟩
abbrev cX10_judge : ByteArray := prog_12_method_11_code
def yX10_judge : MethodName := ⟨RX10, "judge", "()I"⟩
abbrev cX10_lookAt : ByteArray := prog_12_method_12_code
def yX10_lookAt : MethodName := ⟨RX10, "lookAt", "()I"⟩
abbrev cX10_stray : ByteArray := prog_12_method_13_code
def yX10_stray : MethodName := ⟨RX10, "stray", "()I"⟩
abbrev cX10_thingAt : ByteArray := prog_12_method_14_code
def yX10_thingAt : MethodName := ⟨RX10, "thingAt", "(I)I"⟩
abbrev cX10_openUp : ByteArray := prog_12_method_15_code
def yX10_openUp : MethodName := ⟨RX10, "openUp", "(JII)I"⟩
abbrev cX10_openAll : ByteArray := prog_12_method_16_code
def yX10_openAll : MethodName := ⟨RX10, "openAll", "(JI)I"⟩
abbrev cX10_goOn : ByteArray := prog_12_method_17_code
def yX10_goOn : MethodName := ⟨RX10, "goOn", "(I)I"⟩
def RX11 : String := "TongueHouse$Tongue"
def TX11 : u_T := fun k => match k with
  | 0 => ("TongueHouse$Tongue", "features", "LTongueHouse$Names;", true)
  | 1 => ("TongueHouse$Tongue", "values", "LTongueHouse$Names;", true)
  | 2 => ("TongueHouse$Tongue", "valueFeature", "[I", true)
  | 3 => ("TongueHouse$Tongue", "valueRank", "[I", true)
  | 4 => ("TongueHouse$Tongue", "classes", "LTongueHouse$Names;", true)
  | 5 => ("TongueHouse$Tongue", "classMask", "[I", true)
  | 6 => ("TongueHouse$Tongue", "soundCount", "I", false)
  | 7 => ("TongueHouse$Tongue", "sound", "[I", true)
  | 8 => ("TongueHouse$Tongue", "patterns", "LTongueHouse$Names;", true)
  | 9 => ("TongueHouse$Tongue", "cellCount", "[I", true)
  | 10 => ("TongueHouse$Tongue", "cell", "[I", true)
  | 11 => ("TongueHouse$Tongue", "wordCount", "I", false)
  | 12 => ("TongueHouse$Tongue", "word", "[I", true)
  | 13 => ("TongueHouse$Tongue", "linCount", "I", false)
  | 14 => ("TongueHouse$Tongue", "lins", "[LTongueHouse$Lin;", true)
  | _ => ("TongueHouse$Tongue", "forms", "LTongueHouse$Forms;", true)
def tyX11 : Nat → FieldType := fun k => match k with
  | 0 => .object "TongueHouse$Names"
  | 1 => .object "TongueHouse$Names"
  | 2 => .array .int
  | 3 => .array .int
  | 4 => .object "TongueHouse$Names"
  | 5 => .array .int
  | 6 => .int
  | 7 => .array .int
  | 8 => .object "TongueHouse$Names"
  | 9 => .array .int
  | 10 => .array .int
  | 11 => .int
  | 12 => .array .int
  | 13 => .int
  | 14 => .array (.object "TongueHouse$Lin")
  | _ => .object "TongueHouse$Forms"
abbrev wsX110 : List Cond := u_ws RX11 TX11 16
theorem nmX11 : ∀ a, a < 16 → ∀ b, b < 16 → a ≠ b → (TX11 a).2.1 ≠ (TX11 b).2.1 := by decide +kernel
theorem tyX11_ok : ∀ k, k < 16 → parseFieldDescriptor (TX11 k).2.2.1 = some (tyX11 k) := by decide +kernel
abbrev cX11_init : ByteArray := prog_13_method_1_code
def yX11_init : MethodName := ⟨RX11, "<init>", "([B)V"⟩
abbrev cX11_forgetAll : ByteArray := prog_13_method_2_code
def yX11_forgetAll : MethodName := ⟨RX11, "forgetAll", "()V"⟩
abbrev cX11_saveSizes : ByteArray := prog_13_method_3_code
def yX11_saveSizes : MethodName := ⟨RX11, "saveSizes", "([II)V"⟩
abbrev cX11_loadSizes : ByteArray := prog_13_method_4_code
def yX11_loadSizes : MethodName := ⟨RX11, "loadSizes", "([II)V"⟩
abbrev cX11_sizeOf : ByteArray := prog_13_method_5_code
def yX11_sizeOf : MethodName := ⟨RX11, "sizeOf", "(I)I"⟩
abbrev cX11_namesOf : ByteArray := prog_13_method_6_code
def yX11_namesOf : MethodName := ⟨RX11, "namesOf", "(I)LTongueHouse$Names;"⟩
abbrev cX11_shiftOf : ByteArray := prog_13_method_7_code
def yX11_shiftOf : MethodName := ⟨RX11, "shiftOf", "(I)I"⟩
abbrev cX11_wordFun : ByteArray := prog_13_method_8_code
def yX11_wordFun : MethodName := ⟨RX11, "wordFun", "(I)I"⟩
abbrev cX11_wordPattern : ByteArray := prog_13_method_9_code
def yX11_wordPattern : MethodName := ⟨RX11, "wordPattern", "(I)I"⟩
abbrev cX11_wordCost : ByteArray := prog_13_method_10_code
def yX11_wordCost : MethodName := ⟨RX11, "wordCost", "(I)I"⟩
abbrev cX11_cellsOf : ByteArray := prog_13_method_11_code
def yX11_cellsOf : MethodName := ⟨RX11, "cellsOf", "(I)I"⟩
abbrev cX11_formValues : ByteArray := prog_13_method_12_code
def yX11_formValues : MethodName := ⟨RX11, "formValues", "(I)I"⟩
abbrev cX11_linsOf : ByteArray := prog_13_method_13_code
def yX11_linsOf : MethodName := ⟨RX11, "linsOf", "(I)I"⟩
def RX12 : String := "TongueHouse"
def TX12 : u_T := fun k => match k with
  | 0 => ("TongueHouse", "store", "LTongueHouse$Store;", true)
  | 1 => ("TongueHouse", "tape", "LTongueHouse$Text;", true)
  | 2 => ("TongueHouse", "out", "LTongueHouse$Text;", true)
  | 3 => ("TongueHouse", "base", "LTongueHouse$Text;", true)
  | 4 => ("TongueHouse", "draft", "LTongueHouse$Text;", true)
  | 5 => ("TongueHouse", "reader", "LTongueHouse$Reader;", true)
  | 6 => ("TongueHouse", "chart", "LTongueHouse$Chart;", true)
  | 7 => ("TongueHouse", "ranking", "LTongueHouse$Ranking;", true)
  | 8 => ("TongueHouse", "sayer", "LTongueHouse$Sayer;", true)
  | 9 => ("TongueHouse", "thought", "LTongueHouse$Thought;", true)
  | 10 => ("TongueHouse", "finder", "LTongueHouse$Finder;", true)
  | 11 => ("TongueHouse", "planted", "[[I", true)
  | 12 => ("TongueHouse", "plantedSize", "[I", true)
  | 13 => ("TongueHouse", "candidates", "[[B", true)
  | 14 => ("TongueHouse", "candidateSize", "[I", true)
  | 15 => ("TongueHouse", "candidateCount", "I", false)
  | _ => ("TongueHouse", "changes", "[I", true)
def tyX12 : Nat → FieldType := fun k => match k with
  | 0 => .object "TongueHouse$Store"
  | 1 => .object "TongueHouse$Text"
  | 2 => .object "TongueHouse$Text"
  | 3 => .object "TongueHouse$Text"
  | 4 => .object "TongueHouse$Text"
  | 5 => .object "TongueHouse$Reader"
  | 6 => .object "TongueHouse$Chart"
  | 7 => .object "TongueHouse$Ranking"
  | 8 => .object "TongueHouse$Sayer"
  | 9 => .object "TongueHouse$Thought"
  | 10 => .object "TongueHouse$Finder"
  | 11 => .array (.array .int)
  | 12 => .array .int
  | 13 => .array (.array .byte)
  | 14 => .array .int
  | 15 => .int
  | _ => .array .int
abbrev wsX120 : List Cond := u_ws RX12 TX12 17
theorem nmX12 : ∀ a, a < 17 → ∀ b, b < 17 → a ≠ b → (TX12 a).2.1 ≠ (TX12 b).2.1 := by decide +kernel
theorem tyX12_ok : ∀ k, k < 17 → parseFieldDescriptor (TX12 k).2.2.1 = some (tyX12 k) := by decide +kernel
abbrev cX12_init : ByteArray := prog_1_method_1_code
def yX12_init : MethodName := ⟨RX12, "<init>", "()V"⟩
abbrev cX12_feed : ByteArray := prog_1_method_2_code
def yX12_feed : MethodName := ⟨RX12, "feed", "(IIIII)I"⟩
abbrev cX12_end : ByteArray := prog_1_method_3_code
def yX12_end : MethodName := ⟨RX12, "end", "(I)I"⟩
abbrev cX12_module : ByteArray := prog_1_method_4_code
def yX12_module : MethodName := ⟨RX12, "module", "()I"⟩
abbrev cX12_rule : ByteArray := prog_1_method_5_code
def yX12_rule : MethodName := ⟨RX12, "rule", "()I"⟩
abbrev cX12_out : ByteArray := prog_1_method_6_code
def yX12_out : MethodName := ⟨RX12, "out", "(I)I"⟩
abbrev cX12_number : ByteArray := prog_1_method_7_code
def yX12_number : MethodName := ⟨RX12, "number", "(II)I"⟩
abbrev cX12_sounds : ByteArray := prog_1_method_8_code
def yX12_sounds : MethodName := ⟨RX12, "sounds", "(I)I"⟩
abbrev cX12_analyse : ByteArray := prog_1_method_9_code
def yX12_analyse : MethodName := ⟨RX12, "analyse", "(I)I"⟩
abbrev cX12_analysis : ByteArray := prog_1_method_10_code
def yX12_analysis : MethodName := ⟨RX12, "analysis", "(II)I"⟩
abbrev cX12_cell : ByteArray := prog_1_method_11_code
def yX12_cell : MethodName := ⟨RX12, "cell", "(III)I"⟩
abbrev cX12_guess : ByteArray := prog_1_method_12_code
def yX12_guess : MethodName := ⟨RX12, "guess", "(I)I"⟩
abbrev cX12_guessed : ByteArray := prog_1_method_13_code
def yX12_guessed : MethodName := ⟨RX12, "guessed", "(II)I"⟩
abbrev cX12_parse : ByteArray := prog_1_method_14_code
def yX12_parse : MethodName := ⟨RX12, "parse", "(II)I"⟩
abbrev cX12_trees : ByteArray := prog_1_method_15_code
def yX12_trees : MethodName := ⟨RX12, "trees", "()J"⟩
abbrev cX12_bar : ByteArray := prog_1_method_16_code
def yX12_bar : MethodName := ⟨RX12, "bar", "(IZ)J"⟩
abbrev cX12_price : ByteArray := prog_1_method_17_code
def yX12_price : MethodName := ⟨RX12, "price", "(I)I"⟩
abbrev cX12_reading : ByteArray := prog_1_method_18_code
def yX12_reading : MethodName := ⟨RX12, "reading", "(II)I"⟩
abbrev cX12_tree : ByteArray := prog_1_method_19_code
def yX12_tree : MethodName := ⟨RX12, "tree", "(I)I"⟩
abbrev cX12_show : ByteArray := prog_1_method_20_code
def yX12_show : MethodName := ⟨RX12, "show", "(I)I"⟩
abbrev cX12_same : ByteArray := prog_1_method_21_code
def yX12_same : MethodName := ⟨RX12, "same", "(II)Z"⟩
abbrev cX12_say : ByteArray := prog_1_method_22_code
def yX12_say : MethodName := ⟨RX12, "say", "(III)I"⟩
abbrev cX12_mean : ByteArray := prog_1_method_23_code
def yX12_mean : MethodName := ⟨RX12, "mean", "(I)I"⟩
abbrev cX12_truth : ByteArray := prog_1_method_24_code
def yX12_truth : MethodName := ⟨RX12, "truth", "(I)I"⟩
abbrev cX12_swap : ByteArray := prog_1_method_25_code
def yX12_swap : MethodName := ⟨RX12, "swap", "(III)I"⟩
abbrev cX12_candidate : ByteArray := prog_1_method_26_code
def yX12_candidate : MethodName := ⟨RX12, "candidate", "(I)I"⟩
abbrev cX12_add : ByteArray := prog_1_method_27_code
def yX12_add : MethodName := ⟨RX12, "add", "(I)I"⟩
abbrev cX12_ask : ByteArray := prog_1_method_28_code
def yX12_ask : MethodName := ⟨RX12, "ask", "(I)I"⟩
abbrev cX12_hit : ByteArray := prog_1_method_29_code
def yX12_hit : MethodName := ⟨RX12, "hit", "(II)I"⟩
abbrev cX12_mend : ByteArray := prog_1_method_30_code
def yX12_mend : MethodName := ⟨RX12, "mend", "(II)I"⟩
abbrev cX12_count : ByteArray := prog_1_method_31_code
def yX12_count : MethodName := ⟨RX12, "count", "(II)I"⟩
abbrev cX12_tongueAt : ByteArray := prog_1_method_32_code
def yX12_tongueAt : MethodName := ⟨RX12, "tongueAt", "(I)LTongueHouse$Tongue;"⟩
abbrev cX12_checkKind : ByteArray := prog_1_method_33_code
def yX12_checkKind : MethodName := ⟨RX12, "checkKind", "(I)V"⟩
abbrev cX12_checkPlace : ByteArray := prog_1_method_34_code
def yX12_checkPlace : MethodName := ⟨RX12, "checkPlace", "(I)V"⟩
abbrev cX12_parseTape : ByteArray := prog_1_method_35_code
def yX12_parseTape : MethodName := ⟨RX12, "parseTape", "(LTongueHouse$Tongue;I)I"⟩
abbrev cX12_meaningOf : ByteArray := prog_1_method_36_code
def yX12_meaningOf : MethodName := ⟨RX12, "meaningOf", "(I)I"⟩
abbrev cX12_noteCandidate : ByteArray := prog_1_method_37_code
def yX12_noteCandidate : MethodName := ⟨RX12, "noteCandidate", "()V"⟩
abbrev cX12_listChanges : ByteArray := prog_1_method_38_code
def yX12_listChanges : MethodName := ⟨RX12, "listChanges", "(LTongueHouse$Tongue;)I"⟩
abbrev cX12_writeChange : ByteArray := prog_1_method_39_code
def yX12_writeChange : MethodName := ⟨RX12, "writeChange", "(LTongueHouse$Tongue;I)V"⟩
def RX13 : String := "TongueHouseModel"
def TX13 : u_T := fun k => match k with
  | 0 => ("TongueHouseModel", "thrown", "I", false)
  | 1 => ("TongueHouseModel", "tongues", "I", false)
  | 2 => ("TongueHouseModel", "kinds", "I", false)
  | 3 => ("TongueHouseModel", "funs", "I", false)
  | 4 => ("TongueHouseModel", "things", "I", false)
  | 5 => ("TongueHouseModel", "facts", "I", false)
  | 6 => ("TongueHouseModel", "current", "I", false)
  | 7 => ("TongueHouseModel", "tongueName", "[J", true)
  | 8 => ("TongueHouseModel", "kindName", "[J", true)
  | 9 => ("TongueHouseModel", "funName", "[J", true)
  | 10 => ("TongueHouseModel", "thingName", "[J", true)
  | 11 => ("TongueHouseModel", "factName", "[J", true)
  | 12 => ("TongueHouseModel", "funArgs", "[I", true)
  | 13 => ("TongueHouseModel", "funArg", "[I", true)
  | 14 => ("TongueHouseModel", "funKind", "[I", true)
  | 15 => ("TongueHouseModel", "funPrice", "[I", true)
  | 16 => ("TongueHouseModel", "funMean", "[I", true)
  | 17 => ("TongueHouseModel", "factA", "[I", true)
  | 18 => ("TongueHouseModel", "factB", "[I", true)
  | 19 => ("TongueHouseModel", "features", "[I", true)
  | 20 => ("TongueHouseModel", "values", "[I", true)
  | 21 => ("TongueHouseModel", "classes", "[I", true)
  | 22 => ("TongueHouseModel", "sounds", "[I", true)
  | 23 => ("TongueHouseModel", "patterns", "[I", true)
  | 24 => ("TongueHouseModel", "words", "[I", true)
  | 25 => ("TongueHouseModel", "lins", "[I", true)
  | 26 => ("TongueHouseModel", "featureName", "[J", true)
  | 27 => ("TongueHouseModel", "valueName", "[J", true)
  | 28 => ("TongueHouseModel", "className", "[J", true)
  | 29 => ("TongueHouseModel", "patternName", "[J", true)
  | 30 => ("TongueHouseModel", "valueFeature", "[I", true)
  | 31 => ("TongueHouseModel", "valueNumber", "[I", true)
  | 32 => ("TongueHouseModel", "classLetters", "[I", true)
  | 33 => ("TongueHouseModel", "soundFrom", "[I", true)
  | 34 => ("TongueHouseModel", "soundTo", "[I", true)
  | 35 => ("TongueHouseModel", "soundLeft", "[I", true)
  | 36 => ("TongueHouseModel", "soundRight", "[I", true)
  | 37 => ("TongueHouseModel", "cells", "[I", true)
  | 38 => ("TongueHouseModel", "cellValues", "[I", true)
  | 39 => ("TongueHouseModel", "cellParts", "[I", true)
  | 40 => ("TongueHouseModel", "cellMany", "[I", true)
  | 41 => ("TongueHouseModel", "part", "[I", true)
  | 42 => ("TongueHouseModel", "parts", "I", false)
  | 43 => ("TongueHouseModel", "wordFun", "[I", true)
  | 44 => ("TongueHouseModel", "wordPattern", "[I", true)
  | 45 => ("TongueHouseModel", "wordStem", "[I", true)
  | 46 => ("TongueHouseModel", "wordValues", "[I", true)
  | 47 => ("TongueHouseModel", "wordPrice", "[I", true)
  | 48 => ("TongueHouseModel", "linFun", "[I", true)
  | 49 => ("TongueHouseModel", "linItems", "[I", true)
  | 50 => ("TongueHouseModel", "linItem", "[I", true)
  | 51 => ("TongueHouseModel", "linAsked", "[I", true)
  | 52 => ("TongueHouseModel", "linSaid", "[I", true)
  | 53 => ("TongueHouseModel", "linHow", "[I", true)
  | 54 => ("TongueHouseModel", "linA", "[I", true)
  | 55 => ("TongueHouseModel", "linB", "[I", true)
  | 56 => ("TongueHouseModel", "linF", "[I", true)
  | 57 => ("TongueHouseModel", "linPrice", "[I", true)
  | 58 => ("TongueHouseModel", "letter", "[B", true)
  | 59 => ("TongueHouseModel", "letters", "I", false)
  | 60 => ("TongueHouseModel", "termKind", "[I", true)
  | 61 => ("TongueHouseModel", "termA", "[I", true)
  | 62 => ("TongueHouseModel", "termB", "[I", true)
  | 63 => ("TongueHouseModel", "termName", "[J", true)
  | 64 => ("TongueHouseModel", "terms", "I", false)
  | 65 => ("TongueHouseModel", "tape", "[B", true)
  | 66 => ("TongueHouseModel", "text", "[B", true)
  | 67 => ("TongueHouseModel", "out", "[B", true)
  | 68 => ("TongueHouseModel", "taped", "I", false)
  | 69 => ("TongueHouseModel", "textN", "I", false)
  | 70 => ("TongueHouseModel", "outN", "I", false)
  | 71 => ("TongueHouseModel", "tk", "I", false)
  | 72 => ("TongueHouseModel", "tkAt", "I", false)
  | 73 => ("TongueHouseModel", "tkEnd", "I", false)
  | 74 => ("TongueHouseModel", "tkNumber", "I", false)
  | 75 => ("TongueHouseModel", "tkName", "J", false)
  | 76 => ("TongueHouseModel", "wrong", "I", false)
  | 77 => ("TongueHouseModel", "wrongAt", "I", false)
  | 78 => ("TongueHouseModel", "firstAt", "I", false)
  | 79 => ("TongueHouseModel", "lastRule", "I", false)
  | 80 => ("TongueHouseModel", "W_TONGUE", "J", true)
  | 81 => ("TongueHouseModel", "W_KIND", "J", true)
  | 82 => ("TongueHouseModel", "W_FUN", "J", true)
  | 83 => ("TongueHouseModel", "W_FEATURE", "J", true)
  | 84 => ("TongueHouseModel", "W_LETTERS", "J", true)
  | 85 => ("TongueHouseModel", "W_SOUND", "J", true)
  | 86 => ("TongueHouseModel", "W_PATTERN", "J", true)
  | 87 => ("TongueHouseModel", "W_WORD", "J", true)
  | 88 => ("TongueHouseModel", "W_LIN", "J", true)
  | 89 => ("TongueHouseModel", "W_MEAN", "J", true)
  | 90 => ("TongueHouseModel", "W_THING", "J", true)
  | 91 => ("TongueHouseModel", "W_FACT", "J", true)
  | 92 => ("TongueHouseModel", "W_COST", "J", true)
  | 93 => ("TongueHouseModel", "W_HAS", "J", true)
  | 94 => ("TongueHouseModel", "W_OF", "J", true)
  | 95 => ("TongueHouseModel", "W_AGREE", "J", true)
  | 96 => ("TongueHouseModel", "W_GIVE", "J", true)
  | 97 => ("TongueHouseModel", "had", "[I", true)
  | 98 => ("TongueHouseModel", "meant", "[I", true)
  | 99 => ("TongueHouseModel", "meants", "I", false)
  | 100 => ("TongueHouseModel", "version", "I", false)
  | 101 => ("TongueHouseModel", "price", "I", false)
  | 102 => ("TongueHouseModel", "four", "[I", true)
  | 103 => ("TongueHouseModel", "six", "[J", true)
  | 104 => ("TongueHouseModel", "what", "I", false)
  | 105 => ("TongueHouseModel", "sides", "[I", true)
  | 106 => ("TongueHouseModel", "packed", "I", false)
  | 107 => ("TongueHouseModel", "newValues", "[I", true)
  | 108 => ("TongueHouseModel", "newParts", "[I", true)
  | 109 => ("TongueHouseModel", "newMany", "[I", true)
  | 110 => ("TongueHouseModel", "stems", "[I", true)
  | 111 => ("TongueHouseModel", "itemIs", "[I", true)
  | 112 => ("TongueHouseModel", "itemAsks", "[I", true)
  | 113 => ("TongueHouseModel", "saidHow", "[I", true)
  | 114 => ("TongueHouseModel", "saidA", "[I", true)
  | 115 => ("TongueHouseModel", "saidB", "[I", true)
  | 116 => ("TongueHouseModel", "saidF", "[I", true)
  | 117 => ("TongueHouseModel", "argAt", "[I", true)
  | 118 => ("TongueHouseModel", "nItems", "I", false)
  | 119 => ("TongueHouseModel", "nSaid", "I", false)
  | 120 => ("TongueHouseModel", "argument", "I", false)
  | 121 => ("TongueHouseModel", "binder", "[J", true)
  | 122 => ("TongueHouseModel", "binders", "I", false)
  | 123 => ("TongueHouseModel", "termFun", "I", false)
  | 124 => ("TongueHouseModel", "buf", "[B", true)
  | 125 => ("TongueHouseModel", "made", "[B", true)
  | 126 => ("TongueHouseModel", "bufN", "I", false)
  | 127 => ("TongueHouseModel", "formsOf", "I", false)
  | 128 => ("TongueHouseModel", "formsAt", "I", false)
  | 129 => ("TongueHouseModel", "formLetter", "[B", true)
  | 130 => ("TongueHouseModel", "formSize", "[I", true)
  | 131 => ("TongueHouseModel", "found", "[I", true)
  | 132 => ("TongueHouseModel", "foundN", "I", false)
  | 133 => ("TongueHouseModel", "foundT", "I", false)
  | 134 => ("TongueHouseModel", "guessP", "[I", true)
  | 135 => ("TongueHouseModel", "guessN", "[I", true)
  | 136 => ("TongueHouseModel", "guesses", "I", false)
  | 137 => ("TongueHouseModel", "guessAll", "I", false)
  | 138 => ("TongueHouseModel", "guessLong", "I", false)
  | 139 => ("TongueHouseModel", "said", "[B", true)
  | 140 => ("TongueHouseModel", "other", "[B", true)
  | 141 => ("TongueHouseModel", "saidN", "[I", true)
  | 142 => ("TongueHouseModel", "otherN", "[I", true)
  | 143 => ("TongueHouseModel", "n", "I", false)
  | 144 => ("TongueHouseModel", "nKind", "[I", true)
  | 145 => ("TongueHouseModel", "nTo", "[I", true)
  | 146 => ("TongueHouseModel", "nValues", "[I", true)
  | 147 => ("TongueHouseModel", "nNext", "[I", true)
  | 148 => ("TongueHouseModel", "nAt", "[I", true)
  | 149 => ("TongueHouseModel", "nMany", "[I", true)
  | 150 => ("TongueHouseModel", "span", "[I", true)
  | 151 => ("TongueHouseModel", "yNode", "[I", true)
  | 152 => ("TongueHouseModel", "yA", "[I", true)
  | 153 => ("TongueHouseModel", "yB", "[I", true)
  | 154 => ("TongueHouseModel", "yLin", "[I", true)
  | 155 => ("TongueHouseModel", "yArg", "[I", true)
  | 156 => ("TongueHouseModel", "yOrder", "[I", true)
  | 157 => ("TongueHouseModel", "nodes", "I", false)
  | 158 => ("TongueHouseModel", "ways", "I", false)
  | 159 => ("TongueHouseModel", "forestTongue", "I", false)
  | 160 => ("TongueHouseModel", "tooMany", "Z", false)
  | 161 => ("TongueHouseModel", "tries", "I", false)
  | 162 => ("TongueHouseModel", "eff", "[I", true)
  | 163 => ("TongueHouseModel", "fin", "[I", true)
  | 164 => ("TongueHouseModel", "argNode", "[I", true)
  | 165 => ("TongueHouseModel", "itemNode", "[I", true)
  | 166 => ("TongueHouseModel", "pt", "I", false)
  | 167 => ("TongueHouseModel", "pLin", "I", false)
  | 168 => ("TongueHouseModel", "pFrom", "I", false)
  | 169 => ("TongueHouseModel", "pTo", "I", false)
  | 170 => ("TongueHouseModel", "pNumber", "I", false)
  | 171 => ("TongueHouseModel", "nTrees", "[J", true)
  | 172 => ("TongueHouseModel", "topN", "[I", true)
  | 173 => ("TongueHouseModel", "topPrice", "[I", true)
  | 174 => ("TongueHouseModel", "topWay", "[I", true)
  | 175 => ("TongueHouseModel", "topRanks", "[I", true)
  | 176 => ("TongueHouseModel", "barred", "[Z", true)
  | 177 => ("TongueHouseModel", "forest", "I", false)
  | 178 => ("TongueHouseModel", "forestN", "I", false)
  | 179 => ("TongueHouseModel", "noted", "I", false)
  | 180 => ("TongueHouseModel", "notedWays", "I", false)
  | 181 => ("TongueHouseModel", "all", "J", false)
  | 182 => ("TongueHouseModel", "left", "J", false)
  | 183 => ("TongueHouseModel", "readNode", "[I", true)
  | 184 => ("TongueHouseModel", "readRank", "[I", true)
  | 185 => ("TongueHouseModel", "readPrice", "[I", true)
  | 186 => ("TongueHouseModel", "readings", "I", false)
  | 187 => ("TongueHouseModel", "tree", "[I", true)
  | 188 => ("TongueHouseModel", "treeN", "I", false)
  | 189 => ("TongueHouseModel", "placeFun", "[I", true)
  | 190 => ("TongueHouseModel", "placeN", "[I", true)
  | 191 => ("TongueHouseModel", "optText", "[B", true)
  | 192 => ("TongueHouseModel", "optSize", "[I", true)
  | 193 => ("TongueHouseModel", "optValues", "[I", true)
  | 194 => ("TongueHouseModel", "optPrice", "[I", true)
  | 195 => ("TongueHouseModel", "optOrder", "[I", true)
  | 196 => ("TongueHouseModel", "optN", "[I", true)
  | 197 => ("TongueHouseModel", "argTree", "[I", true)
  | 198 => ("TongueHouseModel", "picked", "[I", true)
  | 199 => ("TongueHouseModel", "candidate", "[B", true)
  | 200 => ("TongueHouseModel", "candidateN", "[I", true)
  | 201 => ("TongueHouseModel", "candidates", "I", false)
  | 202 => ("TongueHouseModel", "kept", "[B", true)
  | 203 => ("TongueHouseModel", "keptN", "[I", true)
  | 204 => ("TongueHouseModel", "keptTongue", "[I", true)
  | 205 => ("TongueHouseModel", "keptSize", "[I", true)
  | 206 => ("TongueHouseModel", "collected", "I", false)
  | 207 => ("TongueHouseModel", "asked", "[I", true)
  | 208 => ("TongueHouseModel", "askedN", "[I", true)
  | 209 => ("TongueHouseModel", "hitAt", "[I", true)
  | 210 => ("TongueHouseModel", "hitWord", "[I", true)
  | 211 => ("TongueHouseModel", "hits", "I", false)
  | 212 => ("TongueHouseModel", "hKind", "[I", true)
  | 213 => ("TongueHouseModel", "hA", "[I", true)
  | 214 => ("TongueHouseModel", "hB", "[I", true)
  | 215 => ("TongueHouseModel", "hName", "[J", true)
  | 216 => ("TongueHouseModel", "hp", "I", false)
  | 217 => ("TongueHouseModel", "hEnd", "I", false)
  | 218 => ("TongueHouseModel", "large", "Z", false)
  | 219 => ("TongueHouseModel", "bound", "[I", true)
  | 220 => ("TongueHouseModel", "bounds", "I", false)
  | 221 => ("TongueHouseModel", "looks", "I", false)
  | 222 => ("TongueHouseModel", "W_AND", "J", true)
  | 223 => ("TongueHouseModel", "W_OR", "J", true)
  | 224 => ("TongueHouseModel", "W_IF", "J", true)
  | 225 => ("TongueHouseModel", "W_NOT", "J", true)
  | 226 => ("TongueHouseModel", "W_ALL", "J", true)
  | 227 => ("TongueHouseModel", "W_SOME", "J", true)
  | _ => ("TongueHouseModel", "W_IS", "J", true)
def tyX13 : Nat → FieldType := fun k => match k with
  | 0 => .int
  | 1 => .int
  | 2 => .int
  | 3 => .int
  | 4 => .int
  | 5 => .int
  | 6 => .int
  | 7 => .array .long
  | 8 => .array .long
  | 9 => .array .long
  | 10 => .array .long
  | 11 => .array .long
  | 12 => .array .int
  | 13 => .array .int
  | 14 => .array .int
  | 15 => .array .int
  | 16 => .array .int
  | 17 => .array .int
  | 18 => .array .int
  | 19 => .array .int
  | 20 => .array .int
  | 21 => .array .int
  | 22 => .array .int
  | 23 => .array .int
  | 24 => .array .int
  | 25 => .array .int
  | 26 => .array .long
  | 27 => .array .long
  | 28 => .array .long
  | 29 => .array .long
  | 30 => .array .int
  | 31 => .array .int
  | 32 => .array .int
  | 33 => .array .int
  | 34 => .array .int
  | 35 => .array .int
  | 36 => .array .int
  | 37 => .array .int
  | 38 => .array .int
  | 39 => .array .int
  | 40 => .array .int
  | 41 => .array .int
  | 42 => .int
  | 43 => .array .int
  | 44 => .array .int
  | 45 => .array .int
  | 46 => .array .int
  | 47 => .array .int
  | 48 => .array .int
  | 49 => .array .int
  | 50 => .array .int
  | 51 => .array .int
  | 52 => .array .int
  | 53 => .array .int
  | 54 => .array .int
  | 55 => .array .int
  | 56 => .array .int
  | 57 => .array .int
  | 58 => .array .byte
  | 59 => .int
  | 60 => .array .int
  | 61 => .array .int
  | 62 => .array .int
  | 63 => .array .long
  | 64 => .int
  | 65 => .array .byte
  | 66 => .array .byte
  | 67 => .array .byte
  | 68 => .int
  | 69 => .int
  | 70 => .int
  | 71 => .int
  | 72 => .int
  | 73 => .int
  | 74 => .int
  | 75 => .long
  | 76 => .int
  | 77 => .int
  | 78 => .int
  | 79 => .int
  | 80 => .long
  | 81 => .long
  | 82 => .long
  | 83 => .long
  | 84 => .long
  | 85 => .long
  | 86 => .long
  | 87 => .long
  | 88 => .long
  | 89 => .long
  | 90 => .long
  | 91 => .long
  | 92 => .long
  | 93 => .long
  | 94 => .long
  | 95 => .long
  | 96 => .long
  | 97 => .array .int
  | 98 => .array .int
  | 99 => .int
  | 100 => .int
  | 101 => .int
  | 102 => .array .int
  | 103 => .array .long
  | 104 => .int
  | 105 => .array .int
  | 106 => .int
  | 107 => .array .int
  | 108 => .array .int
  | 109 => .array .int
  | 110 => .array .int
  | 111 => .array .int
  | 112 => .array .int
  | 113 => .array .int
  | 114 => .array .int
  | 115 => .array .int
  | 116 => .array .int
  | 117 => .array .int
  | 118 => .int
  | 119 => .int
  | 120 => .int
  | 121 => .array .long
  | 122 => .int
  | 123 => .int
  | 124 => .array .byte
  | 125 => .array .byte
  | 126 => .int
  | 127 => .int
  | 128 => .int
  | 129 => .array .byte
  | 130 => .array .int
  | 131 => .array .int
  | 132 => .int
  | 133 => .int
  | 134 => .array .int
  | 135 => .array .int
  | 136 => .int
  | 137 => .int
  | 138 => .int
  | 139 => .array .byte
  | 140 => .array .byte
  | 141 => .array .int
  | 142 => .array .int
  | 143 => .int
  | 144 => .array .int
  | 145 => .array .int
  | 146 => .array .int
  | 147 => .array .int
  | 148 => .array .int
  | 149 => .array .int
  | 150 => .array .int
  | 151 => .array .int
  | 152 => .array .int
  | 153 => .array .int
  | 154 => .array .int
  | 155 => .array .int
  | 156 => .array .int
  | 157 => .int
  | 158 => .int
  | 159 => .int
  | 160 => .boolean
  | 161 => .int
  | 162 => .array .int
  | 163 => .array .int
  | 164 => .array .int
  | 165 => .array .int
  | 166 => .int
  | 167 => .int
  | 168 => .int
  | 169 => .int
  | 170 => .int
  | 171 => .array .long
  | 172 => .array .int
  | 173 => .array .int
  | 174 => .array .int
  | 175 => .array .int
  | 176 => .array .boolean
  | 177 => .int
  | 178 => .int
  | 179 => .int
  | 180 => .int
  | 181 => .long
  | 182 => .long
  | 183 => .array .int
  | 184 => .array .int
  | 185 => .array .int
  | 186 => .int
  | 187 => .array .int
  | 188 => .int
  | 189 => .array .int
  | 190 => .array .int
  | 191 => .array .byte
  | 192 => .array .int
  | 193 => .array .int
  | 194 => .array .int
  | 195 => .array .int
  | 196 => .array .int
  | 197 => .array .int
  | 198 => .array .int
  | 199 => .array .byte
  | 200 => .array .int
  | 201 => .int
  | 202 => .array .byte
  | 203 => .array .int
  | 204 => .array .int
  | 205 => .array .int
  | 206 => .int
  | 207 => .array .int
  | 208 => .array .int
  | 209 => .array .int
  | 210 => .array .int
  | 211 => .int
  | 212 => .array .int
  | 213 => .array .int
  | 214 => .array .int
  | 215 => .array .long
  | 216 => .int
  | 217 => .int
  | 218 => .boolean
  | 219 => .array .int
  | 220 => .int
  | 221 => .int
  | 222 => .long
  | 223 => .long
  | 224 => .long
  | 225 => .long
  | 226 => .long
  | 227 => .long
  | _ => .long
abbrev wsX130 : List Cond := u_ws RX13 TX13 229
theorem nmX13 : ∀ a, a < 229 → ∀ b, b < 229 → a ≠ b → (TX13 a).2.1 ≠ (TX13 b).2.1 := by decide +kernel
theorem tyX13_ok : ∀ k, k < 229 → parseFieldDescriptor (TX13 k).2.2.1 = some (tyX13 k) := by decide +kernel
abbrev cX13_thrown : ByteArray := prog_15_method_1_code
def yX13_thrown : MethodName := ⟨RX13, "thrown", "()I"⟩
abbrev cX13_init : ByteArray := prog_15_method_2_code
def yX13_init : MethodName := ⟨RX13, "<init>", "()V"⟩
abbrev cX13_bad : ByteArray := prog_15_method_3_code
def yX13_bad : MethodName := ⟨RX13, "bad", "()I"⟩
abbrev cX13_feed : ByteArray := prog_15_method_4_code
def yX13_feed : MethodName := ⟨RX13, "feed", "(IIIII)I"⟩
abbrev cX13_four : ByteArray := prog_15_method_5_code
def yX13_four : MethodName := ⟨RX13, "four", "(I)V"⟩
abbrev cX13_end : ByteArray := prog_15_method_6_code
def yX13_end : MethodName := ⟨RX13, "end", "(I)I"⟩
abbrev cX13_reads : ByteArray := prog_15_method_7_code
def yX13_reads : MethodName := ⟨RX13, "reads", "()V"⟩
abbrev cX13_out : ByteArray := prog_15_method_8_code
def yX13_out : MethodName := ⟨RX13, "out", "(I)I"⟩
abbrev cX13_outs : ByteArray := prog_15_method_9_code
def yX13_outs : MethodName := ⟨RX13, "outs", "(I)V"⟩
abbrev cX13_outName : ByteArray := prog_15_method_10_code
def yX13_outName : MethodName := ⟨RX13, "outName", "(J)V"⟩
abbrev cX13_low : ByteArray := prog_15_method_11_code
def yX13_low : MethodName := ⟨RX13, "low", "(I)Z"⟩
abbrev cX13_dig : ByteArray := prog_15_method_12_code
def yX13_dig : MethodName := ⟨RX13, "dig", "(I)Z"⟩
abbrev cX13_next : ByteArray := prog_15_method_13_code
def yX13_next : MethodName := ⟨RX13, "next", "()V"⟩
abbrev cX13_sign : ByteArray := prog_15_method_14_code
def yX13_sign : MethodName := ⟨RX13, "sign", "(C)Z"⟩
abbrev cX13_word : ByteArray := prog_15_method_15_code
def yX13_word : MethodName := ⟨RX13, "word", "(Ljava/lang/String;)J"⟩
abbrev cX13_is : ByteArray := prog_15_method_16_code
def yX13_is : MethodName := ⟨RX13, "is", "(J)Z"⟩
abbrev cX13_size : ByteArray := prog_15_method_17_code
def yX13_size : MethodName := ⟨RX13, "size", "()I"⟩
abbrev cX13_keeps : ByteArray := prog_15_method_18_code
def yX13_keeps : MethodName := ⟨RX13, "keeps", "()I"⟩
abbrev cX13_find : ByteArray := prog_15_method_19_code
def yX13_find : MethodName := ⟨RX13, "find", "([JIIJ)I"⟩
abbrev cX13_no : ByteArray := prog_15_method_20_code
def yX13_no : MethodName := ⟨RX13, "no", "(II)Z"⟩
abbrev cX13_no_ : ByteArray := prog_15_method_21_code
def yX13_no_ : MethodName := ⟨RX13, "no", "(I)Z"⟩
abbrev cX13_need : ByteArray := prog_15_method_22_code
def yX13_need : MethodName := ⟨RX13, "need", "(C)Z"⟩
abbrev cX13_remember : ByteArray := prog_15_method_23_code
def yX13_remember : MethodName := ⟨RX13, "remember", "()V"⟩
abbrev cX13_forget : ByteArray := prog_15_method_24_code
def yX13_forget : MethodName := ⟨RX13, "forget", "()V"⟩
abbrev cX13_module : ByteArray := prog_15_method_25_code
def yX13_module : MethodName := ⟨RX13, "module", "()I"⟩
abbrev cX13_rule : ByteArray := prog_15_method_26_code
def yX13_rule : MethodName := ⟨RX13, "rule", "()I"⟩
abbrev cX13_statement : ByteArray := prog_15_method_27_code
def yX13_statement : MethodName := ⟨RX13, "statement", "()Z"⟩
abbrev cX13_name : ByteArray := prog_15_method_28_code
def yX13_name : MethodName := ⟨RX13, "name", "()Z"⟩
abbrev cX13_done : ByteArray := prog_15_method_29_code
def yX13_done : MethodName := ⟨RX13, "done", "(Z)Z"⟩
abbrev cX13_cost : ByteArray := prog_15_method_30_code
def yX13_cost : MethodName := ⟨RX13, "cost", "()Z"⟩
abbrev cX13_tongue : ByteArray := prog_15_method_31_code
def yX13_tongue : MethodName := ⟨RX13, "tongue", "()Z"⟩
abbrev cX13_kind : ByteArray := prog_15_method_32_code
def yX13_kind : MethodName := ⟨RX13, "kind", "()Z"⟩
abbrev cX13_fun : ByteArray := prog_15_method_33_code
def yX13_fun : MethodName := ⟨RX13, "fun", "()Z"⟩
abbrev cX13_feature : ByteArray := prog_15_method_34_code
def yX13_feature : MethodName := ⟨RX13, "feature", "()Z"⟩
abbrev cX13_lettersOf : ByteArray := prog_15_method_35_code
def yX13_lettersOf : MethodName := ⟨RX13, "lettersOf", "()Z"⟩
abbrev cX13_context : ByteArray := prog_15_method_36_code
def yX13_context : MethodName := ⟨RX13, "context", "(Z)Z"⟩
abbrev cX13_side : ByteArray := prog_15_method_37_code
def yX13_side : MethodName := ⟨RX13, "side", "(I)Z"⟩
abbrev cX13_sound : ByteArray := prog_15_method_38_code
def yX13_sound : MethodName := ⟨RX13, "sound", "()Z"⟩
abbrev cX13_oneValue : ByteArray := prog_15_method_39_code
def yX13_oneValue : MethodName := ⟨RX13, "oneValue", "()Z"⟩
abbrev cX13_pattern : ByteArray := prog_15_method_40_code
def yX13_pattern : MethodName := ⟨RX13, "pattern", "()Z"⟩
abbrev cX13_form : ByteArray := prog_15_method_41_code
def yX13_form : MethodName := ⟨RX13, "form", "()Z"⟩
abbrev cX13_wordOf : ByteArray := prog_15_method_42_code
def yX13_wordOf : MethodName := ⟨RX13, "wordOf", "()Z"⟩
abbrev cX13_lin : ByteArray := prog_15_method_43_code
def yX13_lin : MethodName := ⟨RX13, "lin", "()Z"⟩
abbrev cX13_item : ByteArray := prog_15_method_44_code
def yX13_item : MethodName := ⟨RX13, "item", "(I)Z"⟩
abbrev cX13_argumentOf : ByteArray := prog_15_method_45_code
def yX13_argumentOf : MethodName := ⟨RX13, "argumentOf", "(I)Z"⟩
abbrev cX13_featureOf : ByteArray := prog_15_method_46_code
def yX13_featureOf : MethodName := ⟨RX13, "featureOf", "()Z"⟩
abbrev cX13_said : ByteArray := prog_15_method_47_code
def yX13_said : MethodName := ⟨RX13, "said", "(I)Z"⟩
abbrev cX13_mean : ByteArray := prog_15_method_48_code
def yX13_mean : MethodName := ⟨RX13, "mean", "()Z"⟩
abbrev cX13_node : ByteArray := prog_15_method_49_code
def yX13_node : MethodName := ⟨RX13, "node", "(IIIJ)I"⟩
abbrev cX13_none : ByteArray := prog_15_method_50_code
def yX13_none : MethodName := ⟨RX13, "none", "(I)I"⟩
abbrev cX13_term : ByteArray := prog_15_method_51_code
def yX13_term : MethodName := ⟨RX13, "term", "(I)I"⟩
abbrev cX13_atom : ByteArray := prog_15_method_52_code
def yX13_atom : MethodName := ⟨RX13, "atom", "(I)I"⟩
abbrev cX13_thing : ByteArray := prog_15_method_53_code
def yX13_thing : MethodName := ⟨RX13, "thing", "()Z"⟩
abbrev cX13_fact : ByteArray := prog_15_method_54_code
def yX13_fact : MethodName := ⟨RX13, "fact", "()Z"⟩
abbrev cX13_isFact : ByteArray := prog_15_method_55_code
def yX13_isFact : MethodName := ⟨RX13, "isFact", "(JII)Z"⟩
abbrev cX13_sounded : ByteArray := prog_15_method_56_code
def yX13_sounded : MethodName := ⟨RX13, "sounded", "(I)I"⟩
abbrev cX13_isIn : ByteArray := prog_15_method_57_code
def yX13_isIn : MethodName := ⟨RX13, "isIn", "(III)Z"⟩
abbrev cX13_stands : ByteArray := prog_15_method_58_code
def yX13_stands : MethodName := ⟨RX13, "stands", "(III)I"⟩
abbrev cX13_right : ByteArray := prog_15_method_59_code
def yX13_right : MethodName := ⟨RX13, "right", "(III)Z"⟩
abbrev cX13_left : ByteArray := prog_15_method_60_code
def yX13_left : MethodName := ⟨RX13, "left", "(III)Z"⟩
abbrev cX13_joined : ByteArray := prog_15_method_61_code
def yX13_joined : MethodName := ⟨RX13, "joined", "(III)I"⟩
abbrev cX13_forms : ByteArray := prog_15_method_62_code
def yX13_forms : MethodName := ⟨RX13, "forms", "(I)V"⟩
abbrev cX13_cellsOf : ByteArray := prog_15_method_63_code
def yX13_cellsOf : MethodName := ⟨RX13, "cellsOf", "(II)I"⟩
abbrev cX13_valuesOf : ByteArray := prog_15_method_64_code
def yX13_valuesOf : MethodName := ⟨RX13, "valuesOf", "(III)I"⟩
abbrev cX13_noTongue : ByteArray := prog_15_method_65_code
def yX13_noTongue : MethodName := ⟨RX13, "noTongue", "(I)Z"⟩
abbrev cX13_oneWord : ByteArray := prog_15_method_66_code
def yX13_oneWord : MethodName := ⟨RX13, "oneWord", "()Z"⟩
abbrev cX13_sounds : ByteArray := prog_15_method_67_code
def yX13_sounds : MethodName := ⟨RX13, "sounds", "(I)I"⟩
abbrev cX13_outBuf : ByteArray := prog_15_method_68_code
def yX13_outBuf : MethodName := ⟨RX13, "outBuf", "()V"⟩
abbrev cX13_isForm : ByteArray := prog_15_method_69_code
def yX13_isForm : MethodName := ⟨RX13, "isForm", "(I[BII)Z"⟩
abbrev cX13_analyse : ByteArray := prog_15_method_70_code
def yX13_analyse : MethodName := ⟨RX13, "analyse", "(I)I"⟩
abbrev cX13_analysis : ByteArray := prog_15_method_71_code
def yX13_analysis : MethodName := ⟨RX13, "analysis", "(II)I"⟩
abbrev cX13_cell : ByteArray := prog_15_method_72_code
def yX13_cell : MethodName := ⟨RX13, "cell", "(III)I"⟩
abbrev cX13_guess : ByteArray := prog_15_method_73_code
def yX13_guess : MethodName := ⟨RX13, "guess", "(I)I"⟩
abbrev cX13_endsSo : ByteArray := prog_15_method_74_code
def yX13_endsSo : MethodName := ⟨RX13, "endsSo", "(III)Z"⟩
abbrev cX13_guessed : ByteArray := prog_15_method_75_code
def yX13_guessed : MethodName := ⟨RX13, "guessed", "(II)I"⟩
abbrev cX13_number : ByteArray := prog_15_method_76_code
def yX13_number : MethodName := ⟨RX13, "number", "(II)I"⟩
abbrev cX13_sentence : ByteArray := prog_15_method_77_code
def yX13_sentence : MethodName := ⟨RX13, "sentence", "()Z"⟩
abbrev cX13_isWord : ByteArray := prog_15_method_78_code
def yX13_isWord : MethodName := ⟨RX13, "isWord", "(II)Z"⟩
abbrev cX13_compare : ByteArray := prog_15_method_79_code
def yX13_compare : MethodName := ⟨RX13, "compare", "(II)I"⟩
abbrev cX13_nodeOf : ByteArray := prog_15_method_80_code
def yX13_nodeOf : MethodName := ⟨RX13, "nodeOf", "(IIII)I"⟩
abbrev cX13_wayOf : ByteArray := prog_15_method_81_code
def yX13_wayOf : MethodName := ⟨RX13, "wayOf", "(IIII)I"⟩
abbrev cX13_chart : ByteArray := prog_15_method_82_code
def yX13_chart : MethodName := ⟨RX13, "chart", "(I)Z"⟩
abbrev cX13_leaves : ByteArray := prog_15_method_83_code
def yX13_leaves : MethodName := ⟨RX13, "leaves", "(III)V"⟩
abbrev cX13_match : ByteArray := prog_15_method_84_code
def yX13_match : MethodName := ⟨RX13, "match", "(II)V"⟩
abbrev cX13_fitted : ByteArray := prog_15_method_85_code
def yX13_fitted : MethodName := ⟨RX13, "fitted", "(II)I"⟩
abbrev cX13_saidOf : ByteArray := prog_15_method_86_code
def yX13_saidOf : MethodName := ⟨RX13, "saidOf", "(I)I"⟩
abbrev cX13_finish : ByteArray := prog_15_method_87_code
def yX13_finish : MethodName := ⟨RX13, "finish", "()V"⟩
abbrev cX13_wayOrder : ByteArray := prog_15_method_88_code
def yX13_wayOrder : MethodName := ⟨RX13, "wayOrder", "(II)I"⟩
abbrev cX13_orderWays : ByteArray := prog_15_method_89_code
def yX13_orderWays : MethodName := ⟨RX13, "orderWays", "()V"⟩
abbrev cX13_plus : ByteArray := prog_15_method_90_code
def yX13_plus : MethodName := ⟨RX13, "plus", "(JJ)J"⟩
abbrev cX13_times : ByteArray := prog_15_method_91_code
def yX13_times : MethodName := ⟨RX13, "times", "(JJ)J"⟩
abbrev cX13_counted : ByteArray := prog_15_method_92_code
def yX13_counted : MethodName := ⟨RX13, "counted", "()J"⟩
abbrev cX13_combine : ByteArray := prog_15_method_93_code
def yX13_combine : MethodName := ⟨RX13, "combine", "(IIIIIIII)V"⟩
abbrev cX13_tops : ByteArray := prog_15_method_94_code
def yX13_tops : MethodName := ⟨RX13, "tops", "(IIII)V"⟩
abbrev cX13_ahead : ByteArray := prog_15_method_95_code
def yX13_ahead : MethodName := ⟨RX13, "ahead", "(IIII)Z"⟩
abbrev cX13_parsed : ByteArray := prog_15_method_96_code
def yX13_parsed : MethodName := ⟨RX13, "parsed", "(II)I"⟩
abbrev cX13_noKind : ByteArray := prog_15_method_97_code
def yX13_noKind : MethodName := ⟨RX13, "noKind", "(I)Z"⟩
abbrev cX13_noForest : ByteArray := prog_15_method_98_code
def yX13_noForest : MethodName := ⟨RX13, "noForest", "()V"⟩
abbrev cX13_parse : ByteArray := prog_15_method_99_code
def yX13_parse : MethodName := ⟨RX13, "parse", "(II)I"⟩
abbrev cX13_trees : ByteArray := prog_15_method_100_code
def yX13_trees : MethodName := ⟨RX13, "trees", "()J"⟩
abbrev cX13_bar : ByteArray := prog_15_method_101_code
def yX13_bar : MethodName := ⟨RX13, "bar", "(IZ)J"⟩
abbrev cX13_price : ByteArray := prog_15_method_102_code
def yX13_price : MethodName := ⟨RX13, "price", "(I)I"⟩
abbrev cX13_noPlace : ByteArray := prog_15_method_103_code
def yX13_noPlace : MethodName := ⟨RX13, "noPlace", "(I)Z"⟩
abbrev cX13_read : ByteArray := prog_15_method_104_code
def yX13_read : MethodName := ⟨RX13, "read", "(II)V"⟩
abbrev cX13_reading : ByteArray := prog_15_method_105_code
def yX13_reading : MethodName := ⟨RX13, "reading", "(II)I"⟩
abbrev cX13_noTree : ByteArray := prog_15_method_106_code
def yX13_noTree : MethodName := ⟨RX13, "noTree", "(I)Z"⟩
abbrev cX13_tree : ByteArray := prog_15_method_107_code
def yX13_tree : MethodName := ⟨RX13, "tree", "(I)I"⟩
abbrev cX13_takes : ByteArray := prog_15_method_108_code
def yX13_takes : MethodName := ⟨RX13, "takes", "(I)I"⟩
abbrev cX13_shown : ByteArray := prog_15_method_109_code
def yX13_shown : MethodName := ⟨RX13, "shown", "(I)I"⟩
abbrev cX13_show : ByteArray := prog_15_method_110_code
def yX13_show : MethodName := ⟨RX13, "show", "(I)I"⟩
abbrev cX13_same : ByteArray := prog_15_method_111_code
def yX13_same : MethodName := ⟨RX13, "same", "(II)Z"⟩
abbrev cX13_options : ByteArray := prog_15_method_112_code
def yX13_options : MethodName := ⟨RX13, "options", "(II)I"⟩
abbrev cX13_slot : ByteArray := prog_15_method_113_code
def yX13_slot : MethodName := ⟨RX13, "slot", "(III)I"⟩
abbrev cX13_puts : ByteArray := prog_15_method_114_code
def yX13_puts : MethodName := ⟨RX13, "puts", "(IIIII)V"⟩
abbrev cX13_ready : ByteArray := prog_15_method_115_code
def yX13_ready : MethodName := ⟨RX13, "ready", "(IIII)V"⟩
abbrev cX13_say : ByteArray := prog_15_method_116_code
def yX13_say : MethodName := ⟨RX13, "say", "(III)I"⟩
abbrev cX13_swap : ByteArray := prog_15_method_117_code
def yX13_swap : MethodName := ⟨RX13, "swap", "(III)I"⟩
abbrev cX13_candidate : ByteArray := prog_15_method_118_code
def yX13_candidate : MethodName := ⟨RX13, "candidate", "(I)I"⟩
abbrev cX13_add : ByteArray := prog_15_method_119_code
def yX13_add : MethodName := ⟨RX13, "add", "(I)I"⟩
abbrev cX13_ask : ByteArray := prog_15_method_120_code
def yX13_ask : MethodName := ⟨RX13, "ask", "(I)I"⟩
abbrev cX13_hitsWord : ByteArray := prog_15_method_121_code
def yX13_hitsWord : MethodName := ⟨RX13, "hitsWord", "(III)Z"⟩
abbrev cX13_hit : ByteArray := prog_15_method_122_code
def yX13_hit : MethodName := ⟨RX13, "hit", "(II)I"⟩
abbrev cX13_outSentence : ByteArray := prog_15_method_123_code
def yX13_outSentence : MethodName := ⟨RX13, "outSentence", "()V"⟩
abbrev cX13_back : ByteArray := prog_15_method_124_code
def yX13_back : MethodName := ⟨RX13, "back", "(II)V"⟩
abbrev cX13_word_ : ByteArray := prog_15_method_125_code
def yX13_word_ : MethodName := ⟨RX13, "word", "(I[BII)V"⟩
abbrev cX13_mend : ByteArray := prog_15_method_126_code
def yX13_mend : MethodName := ⟨RX13, "mend", "(II)I"⟩
abbrev cX13_mended : ByteArray := prog_15_method_127_code
def yX13_mended : MethodName := ⟨RX13, "mended", "(II)I"⟩
abbrev cX13_heap : ByteArray := prog_15_method_128_code
def yX13_heap : MethodName := ⟨RX13, "heap", "(IIIJ)I"⟩
abbrev cX13_composed : ByteArray := prog_15_method_129_code
def yX13_composed : MethodName := ⟨RX13, "composed", "(II)I"⟩
abbrev cX13_raised : ByteArray := prog_15_method_130_code
def yX13_raised : MethodName := ⟨RX13, "raised", "(III)I"⟩
abbrev cX13_redex : ByteArray := prog_15_method_131_code
def yX13_redex : MethodName := ⟨RX13, "redex", "(I)I"⟩
abbrev cX13_stepped : ByteArray := prog_15_method_132_code
def yX13_stepped : MethodName := ⟨RX13, "stepped", "(II)I"⟩
abbrev cX13_put : ByteArray := prog_15_method_133_code
def yX13_put : MethodName := ⟨RX13, "put", "(III)I"⟩
abbrev cX13_argumentsOf : ByteArray := prog_15_method_134_code
def yX13_argumentsOf : MethodName := ⟨RX13, "argumentsOf", "(I)I"⟩
abbrev cX13_means : ByteArray := prog_15_method_135_code
def yX13_means : MethodName := ⟨RX13, "means", "()I"⟩
abbrev cX13_outNumber : ByteArray := prog_15_method_136_code
def yX13_outNumber : MethodName := ⟨RX13, "outNumber", "(I)V"⟩
abbrev cX13_outTerm : ByteArray := prog_15_method_137_code
def yX13_outTerm : MethodName := ⟨RX13, "outTerm", "(II)V"⟩
abbrev cX13_outApplied : ByteArray := prog_15_method_138_code
def yX13_outApplied : MethodName := ⟨RX13, "outApplied", "(II)V"⟩
abbrev cX13_mean_ : ByteArray := prog_15_method_139_code
def yX13_mean_ : MethodName := ⟨RX13, "mean", "(I)I"⟩
abbrev cX13_thingOf : ByteArray := prog_15_method_140_code
def yX13_thingOf : MethodName := ⟨RX13, "thingOf", "(I)I"⟩
abbrev cX13_holds : ByteArray := prog_15_method_141_code
def yX13_holds : MethodName := ⟨RX13, "holds", "(I)I"⟩
abbrev cX13_truth : ByteArray := prog_15_method_142_code
def yX13_truth : MethodName := ⟨RX13, "truth", "(I)I"⟩
abbrev cX13_count : ByteArray := prog_15_method_143_code
def yX13_count : MethodName := ⟨RX13, "count", "(II)I"⟩
def RJ11 : String := "java/lang/Character"
def TJ11 : u_T := fun k => match k with
  | _ => ("", "", "", false)
def tyJ11 : Nat → FieldType := fun k => match k with
  | _ => .int
theorem nmJ11 : ∀ a, a < 0 → ∀ b, b < 0 → a ≠ b → (TJ11 a).2.1 ≠ (TJ11 b).2.1 := by decide +kernel
theorem tyJ11_ok : ∀ k, k < 0 → parseFieldDescriptor (TJ11 k).2.2.1 = some (tyJ11 k) := by decide +kernel
abbrev cJ11_isValidCodePoint_9a6ad : ByteArray := prog_16_method_11_code
def yJ11_isValidCodePoint_9a6ad : MethodName := ⟨RJ11, "isValidCodePoint", "(I)Z"⟩
abbrev cJ11_highSurrogate_5068e : ByteArray := prog_16_method_28_code
def yJ11_highSurrogate_5068e : MethodName := ⟨RJ11, "highSurrogate", "(I)C"⟩
abbrev cJ11_lowSurrogate_5068e : ByteArray := prog_16_method_29_code
def yJ11_lowSurrogate_5068e : MethodName := ⟨RJ11, "lowSurrogate", "(I)C"⟩
def RJx8e188 : String := "java/lang/Cloneable"
def TJx8e188 : u_T := fun k => match k with
  | _ => ("", "", "", false)
def tyJx8e188 : Nat → FieldType := fun k => match k with
  | _ => .int
theorem nmJx8e188 : ∀ a, a < 0 → ∀ b, b < 0 → a ≠ b → (TJx8e188 a).2.1 ≠ (TJx8e188 b).2.1 := by decide +kernel
theorem tyJx8e188_ok : ∀ k, k < 0 → parseFieldDescriptor (TJx8e188 k).2.2.1 = some (tyJx8e188 k) := by decide +kernel
def RJ9 : String := "java/lang/Math"
def TJ9 : u_T := fun k => match k with
  | _ => ("", "", "", false)
def tyJ9 : Nat → FieldType := fun k => match k with
  | _ => .int
theorem nmJ9 : ∀ a, a < 0 → ∀ b, b < 0 → a ≠ b → (TJ9 a).2.1 ≠ (TJ9 b).2.1 := by decide +kernel
theorem tyJ9_ok : ∀ k, k < 0 → parseFieldDescriptor (TJ9 k).2.2.1 = some (tyJ9 k) := by decide +kernel
abbrev cJ9_max_7cf53 : ByteArray := prog_21_method_65_code
def yJ9_max_7cf53 : MethodName := ⟨RJ9, "max", "(II)I"⟩
abbrev cJ9_min_7cf53 : ByteArray := prog_21_method_69_code
def yJ9_min_7cf53 : MethodName := ⟨RJ9, "min", "(II)I"⟩
abbrev cJ9_min_f86c9 : ByteArray := prog_21_method_70_code
def yJ9_min_f86c9 : MethodName := ⟨RJ9, "min", "(JJ)J"⟩
def RJ0 : String := "java/lang/String"
def TJ0 : u_T := fun k => match k with
  | _ => ("", "", "", false)
def tyJ0 : Nat → FieldType := fun k => match k with
  | _ => .int
theorem nmJ0 : ∀ a, a < 0 → ∀ b, b < 0 → a ≠ b → (TJ0 a).2.1 ≠ (TJ0 b).2.1 := by decide +kernel
theorem tyJ0_ok : ∀ k, k < 0 → parseFieldDescriptor (TJ0 k).2.2.1 = some (tyJ0 k) := by decide +kernel
abbrev cJ0_length_8abf5 : ByteArray := prog_23_method_54_code
def yJ0_length_8abf5 : MethodName := ⟨RJ0, "length", "()I"⟩
abbrev cJ0_charAt_5068e : ByteArray := prog_23_method_56_code
def yJ0_charAt_5068e : MethodName := ⟨RJ0, "charAt", "(I)C"⟩
abbrev cJ0_indexOf_0f7a4 : ByteArray := prog_23_method_79_code
def yJ0_indexOf_0f7a4 : MethodName := ⟨RJ0, "indexOf", "(I)I"⟩
abbrev cJ0_indexOf_7cf53 : ByteArray := prog_23_method_80_code
def yJ0_indexOf_7cf53 : MethodName := ⟨RJ0, "indexOf", "(II)I"⟩
abbrev cJ0_coder_7d493 : ByteArray := prog_23_method_152_code
def yJ0_coder_7d493 : MethodName := ⟨RJ0, "coder", "()B"⟩
abbrev cJ0_isLatin1_aae02 : ByteArray := prog_23_method_154_code
def yJ0_isLatin1_aae02 : MethodName := ⟨RJ0, "isLatin1", "()Z"⟩
abbrev cJ0_checkIndex_df160 : ByteArray := prog_23_method_155_code
def yJ0_checkIndex_df160 : MethodName := ⟨RJ0, "checkIndex", "(II)V"⟩
abbrev cJ0_checkBoundsBeginEnd_23922 : ByteArray := prog_23_method_158_code
def yJ0_checkBoundsBeginEnd_23922 : MethodName := ⟨RJ0, "checkBoundsBeginEnd", "(III)V"⟩
def RJ1 : String := "java/lang/StringLatin1"
def TJ1 : u_T := fun k => match k with
  | _ => ("", "", "", false)
def tyJ1 : Nat → FieldType := fun k => match k with
  | _ => .int
theorem nmJ1 : ∀ a, a < 0 → ∀ b, b < 0 → a ≠ b → (TJ1 a).2.1 ≠ (TJ1 b).2.1 := by decide +kernel
theorem tyJ1_ok : ∀ k, k < 0 → parseFieldDescriptor (TJ1 k).2.2.1 = some (tyJ1 k) := by decide +kernel
abbrev cJ1_charAt_3b067 : ByteArray := prog_24_method_2_code
def yJ1_charAt_3b067 : MethodName := ⟨RJ1, "charAt", "([BI)C"⟩
abbrev cJ1_canEncode_9a6ad : ByteArray := prog_24_method_4_code
def yJ1_canEncode_9a6ad : MethodName := ⟨RJ1, "canEncode", "(I)Z"⟩
abbrev cJ1_indexOf_4cfef : ByteArray := prog_24_method_22_code
def yJ1_indexOf_4cfef : MethodName := ⟨RJ1, "indexOf", "([BIII)I"⟩
abbrev cJ1_indexOfChar_4cfef : ByteArray := prog_24_method_23_code
def yJ1_indexOfChar_4cfef : MethodName := ⟨RJ1, "indexOfChar", "([BIII)I"⟩
def RJ2 : String := "java/lang/StringUTF16"
def TJ2 : u_T := fun k => match k with
  | _ => ("", "", "", false)
def tyJ2 : Nat → FieldType := fun k => match k with
  | _ => .int
theorem nmJ2 : ∀ a, a < 0 → ∀ b, b < 0 → a ≠ b → (TJ2 a).2.1 ≠ (TJ2 b).2.1 := by decide +kernel
theorem tyJ2_ok : ∀ k, k < 0 → parseFieldDescriptor (TJ2 k).2.2.1 = some (tyJ2 k) := by decide +kernel
abbrev cJ2_getChar_3b067 : ByteArray := prog_25_method_5_code
def yJ2_getChar_3b067 : MethodName := ⟨RJ2, "getChar", "([BI)C"⟩
abbrev cJ2_length_9d52b : ByteArray := prog_25_method_6_code
def yJ2_length_9d52b : MethodName := ⟨RJ2, "length", "([B)I"⟩
abbrev cJ2_indexOf_4cfef : ByteArray := prog_25_method_40_code
def yJ2_indexOf_4cfef : MethodName := ⟨RJ2, "indexOf", "([BIII)I"⟩
abbrev cJ2_indexOfChar_4cfef : ByteArray := prog_25_method_47_code
def yJ2_indexOfChar_4cfef : MethodName := ⟨RJ2, "indexOfChar", "([BIII)I"⟩
abbrev cJ2_indexOfCharUnsafe_4cfef : ByteArray := prog_25_method_48_code
def yJ2_indexOfCharUnsafe_4cfef : MethodName := ⟨RJ2, "indexOfCharUnsafe", "([BIII)I"⟩
abbrev cJ2_indexOfSupplementary_4cfef : ByteArray := prog_25_method_49_code
def yJ2_indexOfSupplementary_4cfef : MethodName := ⟨RJ2, "indexOfSupplementary", "([BIII)I"⟩
abbrev cJ2_charAt_3b067 : ByteArray := prog_25_method_83_code
def yJ2_charAt_3b067 : MethodName := ⟨RJ2, "charAt", "([BI)C"⟩
abbrev cJ2_checkIndex_2214a : ByteArray := prog_25_method_91_code
def yJ2_checkIndex_2214a : MethodName := ⟨RJ2, "checkIndex", "(I[B)V"⟩
abbrev cJ2_checkBoundsBeginEnd_d044e : ByteArray := prog_25_method_93_code
def yJ2_checkBoundsBeginEnd_d044e : MethodName := ⟨RJ2, "checkBoundsBeginEnd", "(II[B)V"⟩
def RJ10 : String := "java/lang/System"
def TJ10 : u_T := fun k => match k with
  | _ => ("", "", "", false)
def tyJ10 : Nat → FieldType := fun k => match k with
  | _ => .int
theorem nmJ10 : ∀ a, a < 0 → ∀ b, b < 0 → a ≠ b → (TJ10 a).2.1 ≠ (TJ10 b).2.1 := by decide +kernel
theorem tyJ10_ok : ∀ k, k < 0 → parseFieldDescriptor (TJ10 k).2.2.1 = some (tyJ10 k) := by decide +kernel
def RJ7 : String := "java/util/Arrays"
def TJ7 : u_T := fun k => match k with
  | _ => ("", "", "", false)
def tyJ7 : Nat → FieldType := fun k => match k with
  | _ => .int
theorem nmJ7 : ∀ a, a < 0 → ∀ b, b < 0 → a ≠ b → (TJ7 a).2.1 ≠ (TJ7 b).2.1 := by decide +kernel
theorem tyJ7_ok : ∀ k, k < 0 → parseFieldDescriptor (TJ7 k).2.2.1 = some (tyJ7 k) := by decide +kernel
abbrev cJ7_fill_53178 : ByteArray := prog_28_method_103_code
def yJ7_fill_53178 : MethodName := ⟨RJ7, "fill", "([II)V"⟩
abbrev cJ7_copyOf_9075b : ByteArray := prog_28_method_121_code
def yJ7_copyOf_9075b : MethodName := ⟨RJ7, "copyOf", "([BI)[B"⟩
def RJ3 : String := "jdk/internal/util/Preconditions"
def TJ3 : u_T := fun k => match k with
  | _ => ("", "", "", false)
def tyJ3 : Nat → FieldType := fun k => match k with
  | _ => .int
theorem nmJ3 : ∀ a, a < 0 → ∀ b, b < 0 → a ≠ b → (TJ3 a).2.1 ≠ (TJ3 b).2.1 := by decide +kernel
theorem tyJ3_ok : ∀ k, k < 0 → parseFieldDescriptor (TJ3 k).2.2.1 = some (tyJ3 k) := by decide +kernel
abbrev cJ3_checkIndex_8e157 : ByteArray := prog_29_method_11_code
def yJ3_checkIndex_8e157 : MethodName := ⟨RJ3, "checkIndex", "(IILjava/util/function/BiFunction;)I"⟩
abbrev cJ3_checkFromToIndex_8c36e : ByteArray := prog_29_method_12_code
def yJ3_checkFromToIndex_8c36e : MethodName := ⟨RJ3, "checkFromToIndex", "(IIILjava/util/function/BiFunction;)I"⟩
def RL : String := "TongueHouseLaw"
abbrev cL_feed : ByteArray := method_3_code
def yL_feed : MethodName := ⟨RL, "feed", "(LTongueHouse;IIIII[J)I"⟩
abbrev cL_end : ByteArray := method_4_code
def yL_end : MethodName := ⟨RL, "end", "(LTongueHouse;I[J)I"⟩
abbrev cL_number : ByteArray := method_5_code
def yL_number : MethodName := ⟨RL, "number", "(LTongueHouse;II[J)I"⟩
abbrev cL_sounds : ByteArray := method_6_code
def yL_sounds : MethodName := ⟨RL, "sounds", "(LTongueHouse;I[J)I"⟩
abbrev cL_analyse : ByteArray := method_7_code
def yL_analyse : MethodName := ⟨RL, "analyse", "(LTongueHouse;I[J)I"⟩
abbrev cL_analysis : ByteArray := method_8_code
def yL_analysis : MethodName := ⟨RL, "analysis", "(LTongueHouse;II[J)I"⟩
abbrev cL_cell : ByteArray := method_9_code
def yL_cell : MethodName := ⟨RL, "cell", "(LTongueHouse;III[J)I"⟩
abbrev cL_guess : ByteArray := method_10_code
def yL_guess : MethodName := ⟨RL, "guess", "(LTongueHouse;I[J)I"⟩
abbrev cL_guessed : ByteArray := method_11_code
def yL_guessed : MethodName := ⟨RL, "guessed", "(LTongueHouse;II[J)I"⟩
abbrev cL_parse : ByteArray := method_12_code
def yL_parse : MethodName := ⟨RL, "parse", "(LTongueHouse;II[J)I"⟩
abbrev cL_bar : ByteArray := method_13_code
def yL_bar : MethodName := ⟨RL, "bar", "(LTongueHouse;IZ[J)I"⟩
abbrev cL_reading : ByteArray := method_14_code
def yL_reading : MethodName := ⟨RL, "reading", "(LTongueHouse;II[J)I"⟩
abbrev cL_tree : ByteArray := method_15_code
def yL_tree : MethodName := ⟨RL, "tree", "(LTongueHouse;I[J)I"⟩
abbrev cL_show : ByteArray := method_16_code
def yL_show : MethodName := ⟨RL, "show", "(LTongueHouse;I[J)I"⟩
abbrev cL_same : ByteArray := method_17_code
def yL_same : MethodName := ⟨RL, "same", "(LTongueHouse;II[J)I"⟩
abbrev cL_say : ByteArray := method_18_code
def yL_say : MethodName := ⟨RL, "say", "(LTongueHouse;III[J)I"⟩
abbrev cL_mean : ByteArray := method_19_code
def yL_mean : MethodName := ⟨RL, "mean", "(LTongueHouse;I[J)I"⟩
abbrev cL_truth : ByteArray := method_20_code
def yL_truth : MethodName := ⟨RL, "truth", "(LTongueHouse;I[J)I"⟩
abbrev cL_swap : ByteArray := method_21_code
def yL_swap : MethodName := ⟨RL, "swap", "(LTongueHouse;III[J)I"⟩
abbrev cL_add : ByteArray := method_22_code
def yL_add : MethodName := ⟨RL, "add", "(LTongueHouse;I[J)I"⟩
abbrev cL_ask : ByteArray := method_23_code
def yL_ask : MethodName := ⟨RL, "ask", "(LTongueHouse;I[J)I"⟩
abbrev cL_hit : ByteArray := method_24_code
def yL_hit : MethodName := ⟨RL, "hit", "(LTongueHouse;II[J)I"⟩
abbrev cL_mend : ByteArray := method_25_code
def yL_mend : MethodName := ⟨RL, "mend", "(LTongueHouse;II[J)I"⟩
abbrev cL_count : ByteArray := method_26_code
def yL_count : MethodName := ⟨RL, "count", "(LTongueHouse;II[J)I"⟩
abbrev cL_law : ByteArray := code
def yL_law : MethodName := ⟨RL, "law", "([I)Z"⟩
def wsX0_init : List Cond := .code yX0_init cX0_init 2 none :: ([.methodLink RX0 3 objectInit, .instanceMethod objectInit, .code objectInit ⟨#[0xb1]⟩ 1 none, .arrayClass .int, .fieldLink RX0 9 "TongueHouse$Chart" "firstNode" "[I", .fieldLink RX0 15 "TongueHouse$Chart" "nodeCount" "[I", .fieldLink RX0 18 "TongueHouse$Chart" "nodeEnd" "[I", .fieldLink RX0 21 "TongueHouse$Chart" "nodeValues" "[I", .fieldLink RX0 24 "TongueHouse$Chart" "wayNode" "[I", .fieldLink RX0 27 "TongueHouse$Chart" "wayRule" "[I", .constant RX0 30 (36000), .fieldLink RX0 31 "TongueHouse$Chart" "wayArgs" "[I", .fieldLink RX0 34 "TongueHouse$Chart" "kindLins" "[I", .fieldLink RX0 37 "TongueHouse$Chart" "linOrder" "[I", .fieldLink RX0 40 "TongueHouse$Chart" "chosen" "[I", .fieldLink RX0 43 "TongueHouse$Chart" "chosenValues" "[I", .fieldLink RX0 46 "TongueHouse$Chart" "work" "[I", .fieldLink RX0 49 "TongueHouse$Chart" "store" "LTongueHouse$Store;"] ++ wsX00)
def wsX9_init : List Cond := .code yX9_init cX9_init 1 none :: ([.methodLink RX9 3 objectInit, .instanceMethod objectInit, .code objectInit ⟨#[0xb1]⟩ 1 none, .arrayClass .byte, .fieldLink RX9 11 "TongueHouse$Text" "bytes" "[B", .arrayClass .int, .fieldLink RX9 15 "TongueHouse$Text" "start" "[I", .fieldLink RX9 19 "TongueHouse$Text" "len" "[I"] ++ wsX90)
def wsX1_init_r1 : List Cond := [Cond.methodLink RX1 3 objectInit, Cond.instanceMethod objectInit, Cond.code objectInit ⟨#[0xb1]⟩ 1 none, Cond.arrayClass .int, Cond.fieldLink RX1 9 "TongueHouse$Finder" "analysed" "[I", Cond.fieldLink RX1 15 "TongueHouse$Finder" "guessPattern" "[I", Cond.fieldLink RX1 18 "TongueHouse$Finder" "guessForms" "[I", Cond.classLink RX1 21 "[B", Cond.fieldLink RX1 23 "TongueHouse$Finder" "sentence" "[[B", Cond.fieldLink RX1 27 "TongueHouse$Finder" "sentenceTongue" "[I", Cond.classLink RX1 30 RX9, Cond.instantiable RX9 10, Cond.initialized RX9, Cond.fieldLink RX1 33 "TongueHouse$Finder" "words" "LTongueHouse$Text;", Cond.fieldLink RX1 37 "TongueHouse$Finder" "wordKinds" "[I", Cond.fieldLink RX1 40 "TongueHouse$Finder" "hitSentence" "[I", Cond.fieldLink RX1 43 "TongueHouse$Finder" "hitWord" "[I", Cond.fieldLink RX1 46 "TongueHouse$Finder" "question" "[I", Cond.fieldLink RX1 49 "TongueHouse$Finder" "store" "LTongueHouse$Store;", Cond.instanceMethod yX9_init, Cond.code yX9_init cX9_init 1 none, Cond.methodLink RX9 3 objectInit, Cond.arrayClass .byte, Cond.fieldLink RX9 11 "TongueHouse$Text" "bytes" "[B"]
def wsX1_init_r2 : List Cond := [Cond.fieldLink RX9 15 "TongueHouse$Text" "start" "[I", Cond.fieldLink RX9 19 "TongueHouse$Text" "len" "[I"]
def wsX1_init : List Cond := .code yX1_init cX1_init 2 none :: ((wsX1_init_r1 ++ wsX1_init_r2) ++ wsX10 ++ wsX90)
def wsX2_init : List Cond := .code yX2_init cX2_init 2 none :: ([.methodLink RX2 3 objectInit, .instanceMethod objectInit, .code objectInit ⟨#[0xb1]⟩ 1 none, .constant RX2 9 (36864), .arrayClass .byte, .fieldLink RX2 10 "TongueHouse$Forms" "text" "[B", .arrayClass .int, .fieldLink RX2 16 "TongueHouse$Forms" "size" "[I", .fieldLink RX2 20 "TongueHouse$Forms" "chain" "[I", .fieldLink RX2 23 "TongueHouse$Forms" "head" "[I", .fieldLink RX2 26 "TongueHouse$Forms" "found" "[I", .fieldLink RX2 29 "TongueHouse$Forms" "from" "[B", .fieldLink RX2 32 "TongueHouse$Forms" "to" "[B", .fieldLink RX2 35 "TongueHouse$Forms" "pool" "[B", .methodLink RX2 38 yJ7_fill_53178, .static yJ7_fill_53178, .initialized RJ7, .code yJ7_fill_53178 cJ7_fill_53178 4 none] ++ wsX20)
def wsX3_init : List Cond := .code yX3_init cX3_init 1 none :: ([.methodLink RX3 3 objectInit, .instanceMethod objectInit, .code objectInit ⟨#[0xb1]⟩ 1 none, .arrayClass .int, .fieldLink RX3 9 "TongueHouse$Lin" "arg" "[I", .fieldLink RX3 15 "TongueHouse$Lin" "from" "[I", .fieldLink RX3 18 "TongueHouse$Lin" "length" "[I", .fieldLink RX3 21 "TongueHouse$Lin" "slotArg" "[I", .fieldLink RX3 24 "TongueHouse$Lin" "slotNeed" "[I", .fieldLink RX3 27 "TongueHouse$Lin" "slotOf" "[I", .fieldLink RX3 30 "TongueHouse$Lin" "agree" "[I", .fieldLink RX3 33 "TongueHouse$Lin" "give" "[I"] ++ wsX30)
def wsX4_init : List Cond := .code yX4_init cX4_init 2 none :: ([.methodLink RX4 3 objectInit, .instanceMethod objectInit, .code objectInit ⟨#[0xb1]⟩ 1 none, .arrayClass .long, .fieldLink RX4 9 "TongueHouse$Names" "name" "[J"] ++ wsX40)
def wsX5_init : List Cond := .code yX5_init cX5_init 3 none :: ([.methodLink RX5 3 objectInit, .instanceMethod objectInit, .code objectInit ⟨#[0xb1]⟩ 1 none, .arrayClass .boolean, .fieldLink RX5 9 "TongueHouse$Ranking" "barred" "[Z", .arrayClass .long, .fieldLink RX5 17 "TongueHouse$Ranking" "treeCount" "[J", .fieldLink RX5 21 "TongueHouse$Ranking" "reached" "[Z", .arrayClass .int, .fieldLink RX5 24 "TongueHouse$Ranking" "order" "[I", .fieldLink RX5 28 "TongueHouse$Ranking" "spare" "[I", .fieldLink RX5 31 "TongueHouse$Ranking" "listSize" "[I", .constant RX5 34 (48000), .fieldLink RX5 35 "TongueHouse$Ranking" "listPrice" "[I", .fieldLink RX5 38 "TongueHouse$Ranking" "listWay" "[I", .fieldLink RX5 41 "TongueHouse$Ranking" "listRanks" "[I", .fieldLink RX5 44 "TongueHouse$Ranking" "topPrice" "[I", .fieldLink RX5 47 "TongueHouse$Ranking" "topEntry" "[I", .fieldLink RX5 50 "TongueHouse$Ranking" "stack" "[I", .fieldLink RX5 53 "TongueHouse$Ranking" "store" "LTongueHouse$Store;", .fieldLink RX5 57 "TongueHouse$Ranking" "chart" "LTongueHouse$Chart;"] ++ wsX50)
def wsX6_init : List Cond := .code yX6_init cX6_init 3 none :: ([.methodLink RX6 3 objectInit, .instanceMethod objectInit, .code objectInit ⟨#[0xb1]⟩ 1 none, .arrayClass .int, .fieldLink RX6 11 "TongueHouse$Reader" "cell" "[I", .fieldLink RX6 17 "TongueHouse$Reader" "row" "[I", .arrayClass .long, .fieldLink RX6 20 "TongueHouse$Reader" "names" "[J", .fieldLink RX6 24 "TongueHouse$Reader" "termOp" "[I", .fieldLink RX6 27 "TongueHouse$Reader" "termName" "[J", .fieldLink RX6 30 "TongueHouse$Reader" "binder" "[J", .fieldLink RX6 33 "TongueHouse$Reader" "opened" "[I", .fieldLink RX6 36 "TongueHouse$Reader" "seen" "[I", .fieldLink RX6 39 "TongueHouse$Reader" "store" "LTongueHouse$Store;", .fieldLink RX6 43 "TongueHouse$Reader" "tape" "LTongueHouse$Text;"] ++ wsX60)
def wsX11_init_r1 : List Cond := [Cond.methodLink RX11 3 objectInit, Cond.instanceMethod objectInit, Cond.code objectInit ⟨#[0xb1]⟩ 1 none, Cond.classLink RX11 9 RX4, Cond.instantiable RX4 2, Cond.initialized RX4, Cond.fieldLink RX11 14 "TongueHouse$Tongue" "features" "LTongueHouse$Names;", Cond.fieldLink RX11 20 "TongueHouse$Tongue" "values" "LTongueHouse$Names;", Cond.arrayClass .int, Cond.fieldLink RX11 23 "TongueHouse$Tongue" "valueFeature" "[I", Cond.fieldLink RX11 27 "TongueHouse$Tongue" "valueRank" "[I", Cond.fieldLink RX11 30 "TongueHouse$Tongue" "classes" "LTongueHouse$Names;", Cond.fieldLink RX11 33 "TongueHouse$Tongue" "classMask" "[I", Cond.fieldLink RX11 36 "TongueHouse$Tongue" "sound" "[I", Cond.fieldLink RX11 39 "TongueHouse$Tongue" "patterns" "LTongueHouse$Names;", Cond.fieldLink RX11 42 "TongueHouse$Tongue" "cellCount" "[I", Cond.fieldLink RX11 45 "TongueHouse$Tongue" "cell" "[I", Cond.fieldLink RX11 48 "TongueHouse$Tongue" "word" "[I", Cond.classLink RX11 51 RX3, Cond.fieldLink RX11 53 "TongueHouse$Tongue" "lins" "[LTongueHouse$Lin;", Cond.classLink RX11 57 RX2, Cond.instantiable RX2 10, Cond.initialized RX2, Cond.fieldLink RX11 62 "TongueHouse$Tongue" "forms" "LTongueHouse$Forms;"]
def wsX11_init_r2 : List Cond := [Cond.methodLink RX11 11 yX4_init, Cond.instanceMethod yX4_init, Cond.code yX4_init cX4_init 2 none, Cond.methodLink RX4 3 objectInit, Cond.arrayClass .long, Cond.fieldLink RX4 9 "TongueHouse$Names" "name" "[J", Cond.methodLink RX11 59 yX2_init, Cond.instanceMethod yX2_init, Cond.code yX2_init cX2_init 2 none, Cond.methodLink RX2 3 objectInit, Cond.constant RX2 9 (36864), Cond.arrayClass .byte, Cond.fieldLink RX2 10 "TongueHouse$Forms" "text" "[B", Cond.fieldLink RX2 16 "TongueHouse$Forms" "size" "[I", Cond.fieldLink RX2 20 "TongueHouse$Forms" "chain" "[I", Cond.fieldLink RX2 23 "TongueHouse$Forms" "head" "[I", Cond.fieldLink RX2 26 "TongueHouse$Forms" "found" "[I", Cond.fieldLink RX2 29 "TongueHouse$Forms" "from" "[B", Cond.fieldLink RX2 32 "TongueHouse$Forms" "to" "[B", Cond.fieldLink RX2 35 "TongueHouse$Forms" "pool" "[B", Cond.methodLink RX2 38 yJ7_fill_53178, Cond.static yJ7_fill_53178, Cond.initialized RJ7, Cond.code yJ7_fill_53178 cJ7_fill_53178 4 none]
def wsX11_init : List Cond := .code yX11_init cX11_init 2 none :: ((wsX11_init_r1 ++ wsX11_init_r2) ++ wsX40 ++ wsX110 ++ wsX20)
def wsX7_init : List Cond := .code yX7_init cX7_init 2 none :: ([.methodLink RX7 3 objectInit, .instanceMethod objectInit, .code objectInit ⟨#[0xb1]⟩ 1 none, .arrayClass .int, .fieldLink RX7 9 "TongueHouse$Sayer" "child" "[I", .fieldLink RX7 15 "TongueHouse$Sayer" "options" "[I", .fieldLink RX7 18 "TongueHouse$Sayer" "cost" "[I", .fieldLink RX7 21 "TongueHouse$Sayer" "values" "[I", .fieldLink RX7 24 "TongueHouse$Sayer" "length" "[I", .fieldLink RX7 27 "TongueHouse$Sayer" "rule" "[I", .fieldLink RX7 30 "TongueHouse$Sayer" "picks" "[I", .fieldLink RX7 33 "TongueHouse$Sayer" "picked" "[I", .fieldLink RX7 36 "TongueHouse$Sayer" "work" "[I", .fieldLink RX7 39 "TongueHouse$Sayer" "openEntry" "[I", .fieldLink RX7 42 "TongueHouse$Sayer" "openItem" "[I", .fieldLink RX7 45 "TongueHouse$Sayer" "store" "LTongueHouse$Store;"] ++ wsX70)
def wsX8_init_r1 : List Cond := [Cond.methodLink RX8 7 objectInit, Cond.instanceMethod objectInit, Cond.code objectInit ⟨#[0xb1]⟩ 1 none, Cond.classLink RX8 13 RX4, Cond.instantiable RX4 2, Cond.initialized RX4, Cond.fieldLink RX8 18 "TongueHouse$Store" "kinds" "LTongueHouse$Names;", Cond.fieldLink RX8 22 "TongueHouse$Store" "funs" "LTongueHouse$Names;", Cond.fieldLink RX8 25 "TongueHouse$Store" "things" "LTongueHouse$Names;", Cond.fieldLink RX8 28 "TongueHouse$Store" "tongueNames" "LTongueHouse$Names;", Cond.classLink RX8 3 RX11, Cond.fieldLink RX8 31 "TongueHouse$Store" "tongues" "[LTongueHouse$Tongue;", Cond.fieldLink RX8 35 "TongueHouse$Store" "current" "I", Cond.arrayClass .int, Cond.fieldLink RX8 39 "TongueHouse$Store" "funKind" "[I", Cond.fieldLink RX8 43 "TongueHouse$Store" "funArity" "[I", Cond.fieldLink RX8 46 "TongueHouse$Store" "funArgs" "[I", Cond.fieldLink RX8 49 "TongueHouse$Store" "funCost" "[I", Cond.fieldLink RX8 52 "TongueHouse$Store" "meanSize" "[I", Cond.fieldLink RX8 55 "TongueHouse$Store" "meanOp" "[I", Cond.arrayClass .long, Cond.fieldLink RX8 58 "TongueHouse$Store" "meanName" "[J", Cond.fieldLink RX8 62 "TongueHouse$Store" "factName" "[J", Cond.fieldLink RX8 65 "TongueHouse$Store" "factThings" "[I"]
def wsX8_init_r2 : List Cond := [Cond.arrayClass .byte, Cond.fieldLink RX8 68 "TongueHouse$Store" "pool" "[B", Cond.fieldLink RX8 72 "TongueHouse$Store" "marks" "[I", Cond.fieldLink RX8 75 "TongueHouse$Store" "stack" "[I", Cond.methodLink RX8 15 yX4_init, Cond.instanceMethod yX4_init, Cond.code yX4_init cX4_init 2 none, Cond.methodLink RX4 3 objectInit, Cond.fieldLink RX4 9 "TongueHouse$Names" "name" "[J"]
def wsX8_init : List Cond := .code yX8_init cX8_init 1 none :: ((wsX8_init_r1 ++ wsX8_init_r2) ++ wsX40 ++ wsX80)
def wsX10_init : List Cond := .code yX10_init cX10_init 2 none :: ([.methodLink RX10 3 objectInit, .instanceMethod objectInit, .code objectInit ⟨#[0xb1]⟩ 1 none, .arrayClass .int, .fieldLink RX10 11 "TongueHouse$Thought" "op" "[I", .arrayClass .long, .fieldLink RX10 15 "TongueHouse$Thought" "name" "[J", .fieldLink RX10 19 "TongueHouse$Thought" "nextOp" "[I", .fieldLink RX10 22 "TongueHouse$Thought" "nextName" "[J", .fieldLink RX10 25 "TongueHouse$Thought" "child" "[I", .fieldLink RX10 28 "TongueHouse$Thought" "stack" "[I", .fieldLink RX10 31 "TongueHouse$Thought" "inner" "[I", .fieldLink RX10 34 "TongueHouse$Thought" "openName" "[J", .fieldLink RX10 37 "TongueHouse$Thought" "openPart" "[I", .fieldLink RX10 40 "TongueHouse$Thought" "openSeen" "[I", .fieldLink RX10 43 "TongueHouse$Thought" "openValue" "[I", .fieldLink RX10 46 "TongueHouse$Thought" "openLevel" "[I", .fieldLink RX10 49 "TongueHouse$Thought" "thing" "[I", .fieldLink RX10 52 "TongueHouse$Thought" "store" "LTongueHouse$Store;"] ++ wsX100)
def wsX12_init_r1 : List Cond := [Cond.methodLink RX12 3 objectInit, Cond.instanceMethod objectInit, Cond.code objectInit ⟨#[0xb1]⟩ 1 none, Cond.classLink RX12 9 RX8, Cond.instantiable RX8 21, Cond.initialized RX8, Cond.fieldLink RX12 12 "TongueHouse" "store" "LTongueHouse$Store;", Cond.classLink RX12 16 RX9, Cond.instantiable RX9 10, Cond.initialized RX9, Cond.fieldLink RX12 19 "TongueHouse" "tape" "LTongueHouse$Text;", Cond.fieldLink RX12 23 "TongueHouse" "out" "LTongueHouse$Text;", Cond.fieldLink RX12 26 "TongueHouse" "base" "LTongueHouse$Text;", Cond.fieldLink RX12 29 "TongueHouse" "draft" "LTongueHouse$Text;", Cond.classLink RX12 32 RX6, Cond.instantiable RX6 19, Cond.initialized RX6, Cond.fieldLink RX12 37 "TongueHouse" "reader" "LTongueHouse$Reader;", Cond.classLink RX12 41 RX0, Cond.instantiable RX0 22, Cond.initialized RX0, Cond.fieldLink RX12 46 "TongueHouse" "chart" "LTongueHouse$Chart;", Cond.classLink RX12 50 RX5, Cond.instantiable RX5 19]
def wsX12_init_r2 : List Cond := [Cond.initialized RX5, Cond.fieldLink RX12 55 "TongueHouse" "ranking" "LTongueHouse$Ranking;", Cond.classLink RX12 59 RX7, Cond.instantiable RX7 14, Cond.initialized RX7, Cond.fieldLink RX12 62 "TongueHouse" "sayer" "LTongueHouse$Sayer;", Cond.classLink RX12 66 RX10, Cond.instantiable RX10 19, Cond.initialized RX10, Cond.fieldLink RX12 69 "TongueHouse" "thought" "LTongueHouse$Thought;", Cond.classLink RX12 73 RX1, Cond.instantiable RX1 19, Cond.initialized RX1, Cond.fieldLink RX12 76 "TongueHouse" "finder" "LTongueHouse$Finder;", Cond.classLink RX12 80 "[[I", Cond.arrayClass .int, Cond.fieldLink RX12 82 "TongueHouse" "planted" "[[I", Cond.fieldLink RX12 85 "TongueHouse" "plantedSize" "[I", Cond.classLink RX12 89 "[[B", Cond.arrayClass .byte, Cond.fieldLink RX12 91 "TongueHouse" "candidates" "[[B", Cond.fieldLink RX12 94 "TongueHouse" "candidateSize" "[I", Cond.fieldLink RX12 97 "TongueHouse" "changes" "[I", Cond.instanceMethod yX8_init]
def wsX12_init_r3 : List Cond := [Cond.code yX8_init cX8_init 1 none, Cond.methodLink RX8 7 objectInit, Cond.classLink RX8 13 RX4, Cond.instantiable RX4 2, Cond.initialized RX4, Cond.fieldLink RX8 18 "TongueHouse$Store" "kinds" "LTongueHouse$Names;", Cond.fieldLink RX8 22 "TongueHouse$Store" "funs" "LTongueHouse$Names;", Cond.fieldLink RX8 25 "TongueHouse$Store" "things" "LTongueHouse$Names;", Cond.fieldLink RX8 28 "TongueHouse$Store" "tongueNames" "LTongueHouse$Names;", Cond.classLink RX8 3 RX11, Cond.fieldLink RX8 31 "TongueHouse$Store" "tongues" "[LTongueHouse$Tongue;", Cond.fieldLink RX8 35 "TongueHouse$Store" "current" "I", Cond.fieldLink RX8 39 "TongueHouse$Store" "funKind" "[I", Cond.fieldLink RX8 43 "TongueHouse$Store" "funArity" "[I", Cond.fieldLink RX8 46 "TongueHouse$Store" "funArgs" "[I", Cond.fieldLink RX8 49 "TongueHouse$Store" "funCost" "[I", Cond.fieldLink RX8 52 "TongueHouse$Store" "meanSize" "[I", Cond.fieldLink RX8 55 "TongueHouse$Store" "meanOp" "[I", Cond.arrayClass .long, Cond.fieldLink RX8 58 "TongueHouse$Store" "meanName" "[J", Cond.fieldLink RX8 62 "TongueHouse$Store" "factName" "[J", Cond.fieldLink RX8 65 "TongueHouse$Store" "factThings" "[I", Cond.fieldLink RX8 68 "TongueHouse$Store" "pool" "[B", Cond.fieldLink RX8 72 "TongueHouse$Store" "marks" "[I"]
def wsX12_init_r4 : List Cond := [Cond.fieldLink RX8 75 "TongueHouse$Store" "stack" "[I", Cond.methodLink RX8 15 yX4_init, Cond.instanceMethod yX4_init, Cond.code yX4_init cX4_init 2 none, Cond.methodLink RX4 3 objectInit, Cond.fieldLink RX4 9 "TongueHouse$Names" "name" "[J", Cond.instanceMethod yX9_init, Cond.code yX9_init cX9_init 1 none, Cond.methodLink RX9 3 objectInit, Cond.fieldLink RX9 11 "TongueHouse$Text" "bytes" "[B", Cond.fieldLink RX9 15 "TongueHouse$Text" "start" "[I", Cond.fieldLink RX9 19 "TongueHouse$Text" "len" "[I", Cond.methodLink RX12 34 yX6_init, Cond.instanceMethod yX6_init, Cond.code yX6_init cX6_init 3 none, Cond.methodLink RX6 3 objectInit, Cond.fieldLink RX6 11 "TongueHouse$Reader" "cell" "[I", Cond.fieldLink RX6 17 "TongueHouse$Reader" "row" "[I", Cond.fieldLink RX6 20 "TongueHouse$Reader" "names" "[J", Cond.fieldLink RX6 24 "TongueHouse$Reader" "termOp" "[I", Cond.fieldLink RX6 27 "TongueHouse$Reader" "termName" "[J", Cond.fieldLink RX6 30 "TongueHouse$Reader" "binder" "[J", Cond.fieldLink RX6 33 "TongueHouse$Reader" "opened" "[I", Cond.fieldLink RX6 36 "TongueHouse$Reader" "seen" "[I"]
def wsX12_init_r5 : List Cond := [Cond.fieldLink RX6 39 "TongueHouse$Reader" "store" "LTongueHouse$Store;", Cond.fieldLink RX6 43 "TongueHouse$Reader" "tape" "LTongueHouse$Text;", Cond.methodLink RX12 43 yX0_init, Cond.instanceMethod yX0_init, Cond.code yX0_init cX0_init 2 none, Cond.methodLink RX0 3 objectInit, Cond.fieldLink RX0 9 "TongueHouse$Chart" "firstNode" "[I", Cond.fieldLink RX0 15 "TongueHouse$Chart" "nodeCount" "[I", Cond.fieldLink RX0 18 "TongueHouse$Chart" "nodeEnd" "[I", Cond.fieldLink RX0 21 "TongueHouse$Chart" "nodeValues" "[I", Cond.fieldLink RX0 24 "TongueHouse$Chart" "wayNode" "[I", Cond.fieldLink RX0 27 "TongueHouse$Chart" "wayRule" "[I", Cond.constant RX0 30 (36000), Cond.fieldLink RX0 31 "TongueHouse$Chart" "wayArgs" "[I", Cond.fieldLink RX0 34 "TongueHouse$Chart" "kindLins" "[I", Cond.fieldLink RX0 37 "TongueHouse$Chart" "linOrder" "[I", Cond.fieldLink RX0 40 "TongueHouse$Chart" "chosen" "[I", Cond.fieldLink RX0 43 "TongueHouse$Chart" "chosenValues" "[I", Cond.fieldLink RX0 46 "TongueHouse$Chart" "work" "[I", Cond.fieldLink RX0 49 "TongueHouse$Chart" "store" "LTongueHouse$Store;", Cond.methodLink RX12 52 yX5_init, Cond.instanceMethod yX5_init, Cond.code yX5_init cX5_init 3 none, Cond.methodLink RX5 3 objectInit]
def wsX12_init_r6 : List Cond := [Cond.arrayClass .boolean, Cond.fieldLink RX5 9 "TongueHouse$Ranking" "barred" "[Z", Cond.fieldLink RX5 17 "TongueHouse$Ranking" "treeCount" "[J", Cond.fieldLink RX5 21 "TongueHouse$Ranking" "reached" "[Z", Cond.fieldLink RX5 24 "TongueHouse$Ranking" "order" "[I", Cond.fieldLink RX5 28 "TongueHouse$Ranking" "spare" "[I", Cond.fieldLink RX5 31 "TongueHouse$Ranking" "listSize" "[I", Cond.constant RX5 34 (48000), Cond.fieldLink RX5 35 "TongueHouse$Ranking" "listPrice" "[I", Cond.fieldLink RX5 38 "TongueHouse$Ranking" "listWay" "[I", Cond.fieldLink RX5 41 "TongueHouse$Ranking" "listRanks" "[I", Cond.fieldLink RX5 44 "TongueHouse$Ranking" "topPrice" "[I", Cond.fieldLink RX5 47 "TongueHouse$Ranking" "topEntry" "[I", Cond.fieldLink RX5 50 "TongueHouse$Ranking" "stack" "[I", Cond.fieldLink RX5 53 "TongueHouse$Ranking" "store" "LTongueHouse$Store;", Cond.fieldLink RX5 57 "TongueHouse$Ranking" "chart" "LTongueHouse$Chart;", Cond.methodLink RX12 61 yX7_init, Cond.instanceMethod yX7_init, Cond.code yX7_init cX7_init 2 none, Cond.methodLink RX7 3 objectInit, Cond.fieldLink RX7 9 "TongueHouse$Sayer" "child" "[I", Cond.fieldLink RX7 15 "TongueHouse$Sayer" "options" "[I", Cond.fieldLink RX7 18 "TongueHouse$Sayer" "cost" "[I", Cond.fieldLink RX7 21 "TongueHouse$Sayer" "values" "[I"]
def wsX12_init_r7 : List Cond := [Cond.fieldLink RX7 24 "TongueHouse$Sayer" "length" "[I", Cond.fieldLink RX7 27 "TongueHouse$Sayer" "rule" "[I", Cond.fieldLink RX7 30 "TongueHouse$Sayer" "picks" "[I", Cond.fieldLink RX7 33 "TongueHouse$Sayer" "picked" "[I", Cond.fieldLink RX7 36 "TongueHouse$Sayer" "work" "[I", Cond.fieldLink RX7 39 "TongueHouse$Sayer" "openEntry" "[I", Cond.fieldLink RX7 42 "TongueHouse$Sayer" "openItem" "[I", Cond.fieldLink RX7 45 "TongueHouse$Sayer" "store" "LTongueHouse$Store;", Cond.methodLink RX12 68 yX10_init, Cond.instanceMethod yX10_init, Cond.code yX10_init cX10_init 2 none, Cond.methodLink RX10 3 objectInit, Cond.fieldLink RX10 11 "TongueHouse$Thought" "op" "[I", Cond.fieldLink RX10 15 "TongueHouse$Thought" "name" "[J", Cond.fieldLink RX10 19 "TongueHouse$Thought" "nextOp" "[I", Cond.fieldLink RX10 22 "TongueHouse$Thought" "nextName" "[J", Cond.fieldLink RX10 25 "TongueHouse$Thought" "child" "[I", Cond.fieldLink RX10 28 "TongueHouse$Thought" "stack" "[I", Cond.fieldLink RX10 31 "TongueHouse$Thought" "inner" "[I", Cond.fieldLink RX10 34 "TongueHouse$Thought" "openName" "[J", Cond.fieldLink RX10 37 "TongueHouse$Thought" "openPart" "[I", Cond.fieldLink RX10 40 "TongueHouse$Thought" "openSeen" "[I", Cond.fieldLink RX10 43 "TongueHouse$Thought" "openValue" "[I", Cond.fieldLink RX10 46 "TongueHouse$Thought" "openLevel" "[I"]
def wsX12_init_r8 : List Cond := [Cond.fieldLink RX10 49 "TongueHouse$Thought" "thing" "[I", Cond.fieldLink RX10 52 "TongueHouse$Thought" "store" "LTongueHouse$Store;", Cond.methodLink RX12 75 yX1_init, Cond.instanceMethod yX1_init, Cond.code yX1_init cX1_init 2 none, Cond.methodLink RX1 3 objectInit, Cond.fieldLink RX1 9 "TongueHouse$Finder" "analysed" "[I", Cond.fieldLink RX1 15 "TongueHouse$Finder" "guessPattern" "[I", Cond.fieldLink RX1 18 "TongueHouse$Finder" "guessForms" "[I", Cond.classLink RX1 21 "[B", Cond.fieldLink RX1 23 "TongueHouse$Finder" "sentence" "[[B", Cond.fieldLink RX1 27 "TongueHouse$Finder" "sentenceTongue" "[I", Cond.classLink RX1 30 RX9, Cond.fieldLink RX1 33 "TongueHouse$Finder" "words" "LTongueHouse$Text;", Cond.fieldLink RX1 37 "TongueHouse$Finder" "wordKinds" "[I", Cond.fieldLink RX1 40 "TongueHouse$Finder" "hitSentence" "[I", Cond.fieldLink RX1 43 "TongueHouse$Finder" "hitWord" "[I", Cond.fieldLink RX1 46 "TongueHouse$Finder" "question" "[I", Cond.fieldLink RX1 49 "TongueHouse$Finder" "store" "LTongueHouse$Store;"]
def wsX12_init : List Cond := .code yX12_init cX12_init 1 none :: ((wsX12_init_r1 ++ (wsX12_init_r2 ++ (wsX12_init_r3 ++ (wsX12_init_r4 ++ (wsX12_init_r5 ++ (wsX12_init_r6 ++ (wsX12_init_r7 ++ wsX12_init_r8))))))) ++ wsX80 ++ wsX120 ++ wsX90 ++ wsX60 ++ wsX00 ++ wsX50 ++ wsX70 ++ wsX100 ++ wsX10 ++ wsX40)
def wsX13_init_r1 : List Cond := [Cond.methodLink RX13 9 objectInit, Cond.instanceMethod objectInit, Cond.code objectInit ⟨#[0xb1]⟩ 1 none, Cond.fieldLink RX13 15 "TongueHouseModel" "current" "I", Cond.arrayClass .long, Cond.fieldLink RX13 18 "TongueHouseModel" "tongueName" "[J", Cond.fieldLink RX13 22 "TongueHouseModel" "kindName" "[J", Cond.fieldLink RX13 25 "TongueHouseModel" "funName" "[J", Cond.fieldLink RX13 28 "TongueHouseModel" "thingName" "[J", Cond.fieldLink RX13 31 "TongueHouseModel" "factName" "[J", Cond.arrayClass .int, Cond.fieldLink RX13 34 "TongueHouseModel" "funArgs" "[I", Cond.fieldLink RX13 38 "TongueHouseModel" "funArg" "[I", Cond.fieldLink RX13 41 "TongueHouseModel" "funKind" "[I", Cond.fieldLink RX13 44 "TongueHouseModel" "funPrice" "[I", Cond.fieldLink RX13 47 "TongueHouseModel" "funMean" "[I", Cond.fieldLink RX13 50 "TongueHouseModel" "factA" "[I", Cond.fieldLink RX13 53 "TongueHouseModel" "factB" "[I", Cond.fieldLink RX13 56 "TongueHouseModel" "features" "[I", Cond.fieldLink RX13 59 "TongueHouseModel" "values" "[I", Cond.fieldLink RX13 62 "TongueHouseModel" "classes" "[I", Cond.fieldLink RX13 65 "TongueHouseModel" "sounds" "[I", Cond.fieldLink RX13 68 "TongueHouseModel" "patterns" "[I", Cond.fieldLink RX13 71 "TongueHouseModel" "words" "[I"]
def wsX13_init_r2 : List Cond := [Cond.fieldLink RX13 74 "TongueHouseModel" "lins" "[I", Cond.fieldLink RX13 77 "TongueHouseModel" "featureName" "[J", Cond.fieldLink RX13 80 "TongueHouseModel" "valueName" "[J", Cond.fieldLink RX13 83 "TongueHouseModel" "className" "[J", Cond.fieldLink RX13 86 "TongueHouseModel" "patternName" "[J", Cond.fieldLink RX13 89 "TongueHouseModel" "valueFeature" "[I", Cond.fieldLink RX13 92 "TongueHouseModel" "valueNumber" "[I", Cond.fieldLink RX13 95 "TongueHouseModel" "classLetters" "[I", Cond.fieldLink RX13 98 "TongueHouseModel" "soundFrom" "[I", Cond.fieldLink RX13 101 "TongueHouseModel" "soundTo" "[I", Cond.fieldLink RX13 104 "TongueHouseModel" "soundLeft" "[I", Cond.fieldLink RX13 107 "TongueHouseModel" "soundRight" "[I", Cond.fieldLink RX13 110 "TongueHouseModel" "cells" "[I", Cond.fieldLink RX13 113 "TongueHouseModel" "cellValues" "[I", Cond.fieldLink RX13 116 "TongueHouseModel" "cellParts" "[I", Cond.fieldLink RX13 119 "TongueHouseModel" "cellMany" "[I", Cond.constant RX13 122 (42000), Cond.fieldLink RX13 123 "TongueHouseModel" "part" "[I", Cond.fieldLink RX13 126 "TongueHouseModel" "wordFun" "[I", Cond.fieldLink RX13 129 "TongueHouseModel" "wordPattern" "[I", Cond.fieldLink RX13 132 "TongueHouseModel" "wordStem" "[I", Cond.fieldLink RX13 135 "TongueHouseModel" "wordValues" "[I", Cond.fieldLink RX13 138 "TongueHouseModel" "wordPrice" "[I", Cond.fieldLink RX13 141 "TongueHouseModel" "linFun" "[I"]
def wsX13_init_r3 : List Cond := [Cond.fieldLink RX13 144 "TongueHouseModel" "linItems" "[I", Cond.fieldLink RX13 147 "TongueHouseModel" "linItem" "[I", Cond.fieldLink RX13 150 "TongueHouseModel" "linAsked" "[I", Cond.fieldLink RX13 153 "TongueHouseModel" "linSaid" "[I", Cond.fieldLink RX13 156 "TongueHouseModel" "linHow" "[I", Cond.fieldLink RX13 159 "TongueHouseModel" "linA" "[I", Cond.fieldLink RX13 162 "TongueHouseModel" "linB" "[I", Cond.fieldLink RX13 165 "TongueHouseModel" "linF" "[I", Cond.fieldLink RX13 168 "TongueHouseModel" "linPrice" "[I", Cond.constant RX13 171 (82000), Cond.arrayClass .byte, Cond.fieldLink RX13 172 "TongueHouseModel" "letter" "[B", Cond.fieldLink RX13 176 "TongueHouseModel" "termKind" "[I", Cond.fieldLink RX13 179 "TongueHouseModel" "termA" "[I", Cond.fieldLink RX13 182 "TongueHouseModel" "termB" "[I", Cond.fieldLink RX13 185 "TongueHouseModel" "termName" "[J", Cond.fieldLink RX13 188 "TongueHouseModel" "tape" "[B", Cond.fieldLink RX13 191 "TongueHouseModel" "text" "[B", Cond.fieldLink RX13 194 "TongueHouseModel" "out" "[B", Cond.fieldLink RX13 203 "TongueHouseModel" "W_TONGUE" "J", Cond.fieldLink RX13 209 "TongueHouseModel" "W_KIND" "J", Cond.fieldLink RX13 214 "TongueHouseModel" "W_FUN" "J", Cond.fieldLink RX13 219 "TongueHouseModel" "W_FEATURE" "J", Cond.fieldLink RX13 224 "TongueHouseModel" "W_LETTERS" "J"]
def wsX13_init_r4 : List Cond := [Cond.fieldLink RX13 229 "TongueHouseModel" "W_SOUND" "J", Cond.fieldLink RX13 234 "TongueHouseModel" "W_PATTERN" "J", Cond.fieldLink RX13 238 "TongueHouseModel" "W_WORD" "J", Cond.fieldLink RX13 243 "TongueHouseModel" "W_LIN" "J", Cond.fieldLink RX13 248 "TongueHouseModel" "W_MEAN" "J", Cond.fieldLink RX13 253 "TongueHouseModel" "W_THING" "J", Cond.fieldLink RX13 258 "TongueHouseModel" "W_FACT" "J", Cond.fieldLink RX13 263 "TongueHouseModel" "W_COST" "J", Cond.fieldLink RX13 268 "TongueHouseModel" "W_HAS" "J", Cond.fieldLink RX13 273 "TongueHouseModel" "W_OF" "J", Cond.fieldLink RX13 278 "TongueHouseModel" "W_AGREE" "J", Cond.fieldLink RX13 283 "TongueHouseModel" "W_GIVE" "J", Cond.fieldLink RX13 286 "TongueHouseModel" "had" "[I", Cond.fieldLink RX13 289 "TongueHouseModel" "meant" "[I", Cond.fieldLink RX13 292 "TongueHouseModel" "four" "[I", Cond.fieldLink RX13 295 "TongueHouseModel" "six" "[J", Cond.fieldLink RX13 298 "TongueHouseModel" "sides" "[I", Cond.fieldLink RX13 301 "TongueHouseModel" "newValues" "[I", Cond.fieldLink RX13 304 "TongueHouseModel" "newParts" "[I", Cond.fieldLink RX13 307 "TongueHouseModel" "newMany" "[I", Cond.fieldLink RX13 310 "TongueHouseModel" "stems" "[I", Cond.fieldLink RX13 313 "TongueHouseModel" "itemIs" "[I", Cond.fieldLink RX13 316 "TongueHouseModel" "itemAsks" "[I", Cond.fieldLink RX13 319 "TongueHouseModel" "saidHow" "[I"]
def wsX13_init_r5 : List Cond := [Cond.fieldLink RX13 322 "TongueHouseModel" "saidA" "[I", Cond.fieldLink RX13 325 "TongueHouseModel" "saidB" "[I", Cond.fieldLink RX13 328 "TongueHouseModel" "saidF" "[I", Cond.fieldLink RX13 331 "TongueHouseModel" "argAt" "[I", Cond.fieldLink RX13 334 "TongueHouseModel" "binder" "[J", Cond.fieldLink RX13 337 "TongueHouseModel" "buf" "[B", Cond.fieldLink RX13 340 "TongueHouseModel" "made" "[B", Cond.fieldLink RX13 343 "TongueHouseModel" "formsOf" "I", Cond.fieldLink RX13 346 "TongueHouseModel" "formsAt" "I", Cond.constant RX13 349 (36864), Cond.fieldLink RX13 350 "TongueHouseModel" "formLetter" "[B", Cond.fieldLink RX13 353 "TongueHouseModel" "formSize" "[I", Cond.fieldLink RX13 356 "TongueHouseModel" "found" "[I", Cond.fieldLink RX13 359 "TongueHouseModel" "guessP" "[I", Cond.fieldLink RX13 362 "TongueHouseModel" "guessN" "[I", Cond.fieldLink RX13 365 "TongueHouseModel" "said" "[B", Cond.fieldLink RX13 368 "TongueHouseModel" "other" "[B", Cond.fieldLink RX13 371 "TongueHouseModel" "saidN" "[I", Cond.fieldLink RX13 374 "TongueHouseModel" "otherN" "[I", Cond.fieldLink RX13 377 "TongueHouseModel" "nKind" "[I", Cond.fieldLink RX13 380 "TongueHouseModel" "nTo" "[I", Cond.fieldLink RX13 383 "TongueHouseModel" "nValues" "[I", Cond.fieldLink RX13 386 "TongueHouseModel" "nNext" "[I", Cond.fieldLink RX13 389 "TongueHouseModel" "nAt" "[I"]
def wsX13_init_r6 : List Cond := [Cond.fieldLink RX13 392 "TongueHouseModel" "nMany" "[I", Cond.fieldLink RX13 395 "TongueHouseModel" "span" "[I", Cond.fieldLink RX13 398 "TongueHouseModel" "yNode" "[I", Cond.fieldLink RX13 401 "TongueHouseModel" "yA" "[I", Cond.fieldLink RX13 404 "TongueHouseModel" "yB" "[I", Cond.fieldLink RX13 407 "TongueHouseModel" "yLin" "[I", Cond.constant RX13 410 (36000), Cond.fieldLink RX13 411 "TongueHouseModel" "yArg" "[I", Cond.fieldLink RX13 414 "TongueHouseModel" "yOrder" "[I", Cond.fieldLink RX13 417 "TongueHouseModel" "eff" "[I", Cond.fieldLink RX13 420 "TongueHouseModel" "fin" "[I", Cond.fieldLink RX13 423 "TongueHouseModel" "argNode" "[I", Cond.fieldLink RX13 426 "TongueHouseModel" "itemNode" "[I", Cond.fieldLink RX13 429 "TongueHouseModel" "nTrees" "[J", Cond.fieldLink RX13 432 "TongueHouseModel" "topN" "[I", Cond.constant RX13 435 (48000), Cond.fieldLink RX13 436 "TongueHouseModel" "topPrice" "[I", Cond.fieldLink RX13 439 "TongueHouseModel" "topWay" "[I", Cond.fieldLink RX13 442 "TongueHouseModel" "topRanks" "[I", Cond.arrayClass .boolean, Cond.fieldLink RX13 445 "TongueHouseModel" "barred" "[Z", Cond.fieldLink RX13 449 "TongueHouseModel" "forest" "I", Cond.fieldLink RX13 452 "TongueHouseModel" "readNode" "[I", Cond.fieldLink RX13 455 "TongueHouseModel" "readRank" "[I"]
def wsX13_init_r7 : List Cond := [Cond.fieldLink RX13 458 "TongueHouseModel" "readPrice" "[I", Cond.fieldLink RX13 461 "TongueHouseModel" "tree" "[I", Cond.fieldLink RX13 464 "TongueHouseModel" "placeFun" "[I", Cond.fieldLink RX13 467 "TongueHouseModel" "placeN" "[I", Cond.constant RX13 470 (288000), Cond.fieldLink RX13 471 "TongueHouseModel" "optText" "[B", Cond.fieldLink RX13 474 "TongueHouseModel" "optSize" "[I", Cond.fieldLink RX13 477 "TongueHouseModel" "optValues" "[I", Cond.fieldLink RX13 480 "TongueHouseModel" "optPrice" "[I", Cond.fieldLink RX13 483 "TongueHouseModel" "optOrder" "[I", Cond.fieldLink RX13 486 "TongueHouseModel" "optN" "[I", Cond.fieldLink RX13 489 "TongueHouseModel" "argTree" "[I", Cond.fieldLink RX13 492 "TongueHouseModel" "picked" "[I", Cond.fieldLink RX13 495 "TongueHouseModel" "candidate" "[B", Cond.fieldLink RX13 498 "TongueHouseModel" "candidateN" "[I", Cond.constant RX13 501 (57600), Cond.fieldLink RX13 502 "TongueHouseModel" "kept" "[B", Cond.fieldLink RX13 505 "TongueHouseModel" "keptN" "[I", Cond.fieldLink RX13 508 "TongueHouseModel" "keptTongue" "[I", Cond.fieldLink RX13 511 "TongueHouseModel" "keptSize" "[I", Cond.fieldLink RX13 514 "TongueHouseModel" "asked" "[I", Cond.fieldLink RX13 517 "TongueHouseModel" "askedN" "[I", Cond.fieldLink RX13 520 "TongueHouseModel" "hitAt" "[I", Cond.fieldLink RX13 523 "TongueHouseModel" "hitWord" "[I"]
def wsX13_init_r8 : List Cond := [Cond.fieldLink RX13 526 "TongueHouseModel" "hKind" "[I", Cond.fieldLink RX13 529 "TongueHouseModel" "hA" "[I", Cond.fieldLink RX13 532 "TongueHouseModel" "hB" "[I", Cond.fieldLink RX13 535 "TongueHouseModel" "hName" "[J", Cond.fieldLink RX13 538 "TongueHouseModel" "bound" "[I", Cond.fieldLink RX13 543 "TongueHouseModel" "W_AND" "J", Cond.fieldLink RX13 548 "TongueHouseModel" "W_OR" "J", Cond.fieldLink RX13 553 "TongueHouseModel" "W_IF" "J", Cond.fieldLink RX13 558 "TongueHouseModel" "W_NOT" "J", Cond.fieldLink RX13 563 "TongueHouseModel" "W_ALL" "J", Cond.fieldLink RX13 568 "TongueHouseModel" "W_SOME" "J", Cond.fieldLink RX13 573 "TongueHouseModel" "W_IS" "J", Cond.methodLink RX13 199 yX13_word, Cond.static yX13_word, Cond.initialized RX13, Cond.code yX13_word cX13_word 4 (some .long), Cond.methodLink RX13 627 yJ0_length_8abf5, Cond.instanceMethod yJ0_length_8abf5, Cond.selects RJ0 yJ0_length_8abf5 yJ0_length_8abf5, Cond.initialized RJ0, Cond.code yJ0_length_8abf5 cJ0_length_8abf5 1 (some .int), Cond.fieldLink RJ0 9 "java/lang/String" "value" "[B", Cond.methodLink RJ0 335 yJ0_coder_7d493, Cond.instanceMethod yJ0_coder_7d493]
def wsX13_init_r9 : List Cond := [Cond.selects RJ0 yJ0_coder_7d493 yJ0_coder_7d493, Cond.code yJ0_coder_7d493 cJ0_coder_7d493 1 (some .byte), Cond.fieldLink RJ0 38 "java/lang/String" "COMPACT_STRINGS" "Z", Cond.fieldLink RJ0 15 "java/lang/String" "coder" "B", Cond.methodLink RX13 630 yJ0_charAt_5068e, Cond.instanceMethod yJ0_charAt_5068e, Cond.selects RJ0 yJ0_charAt_5068e yJ0_charAt_5068e, Cond.code yJ0_charAt_5068e cJ0_charAt_5068e 2 (some .char), Cond.methodLink RJ0 492 yJ0_isLatin1_aae02, Cond.instanceMethod yJ0_isLatin1_aae02, Cond.selects RJ0 yJ0_isLatin1_aae02 yJ0_isLatin1_aae02, Cond.code yJ0_isLatin1_aae02 cJ0_isLatin1_aae02 1 (some .boolean), Cond.methodLink RJ0 495 yJ1_charAt_3b067, Cond.static yJ1_charAt_3b067, Cond.initialized RJ1, Cond.code yJ1_charAt_3b067 cJ1_charAt_3b067 2 (some .char), Cond.methodLink RJ1 9 yJ0_checkIndex_df160, Cond.static yJ0_checkIndex_df160, Cond.code yJ0_checkIndex_df160 cJ0_checkIndex_df160 2 none, Cond.fieldLink RJ0 1053 "jdk/internal/util/Preconditions" "SIOOBE_FORMATTER" "Ljava/util/function/BiFunction;", Cond.methodLink RJ0 1059 yJ3_checkIndex_8e157, Cond.static yJ3_checkIndex_8e157, Cond.initialized RJ3, Cond.code yJ3_checkIndex_8e157 cJ3_checkIndex_8e157 3 (some .int)]
def wsX13_init_r10 : List Cond := [Cond.methodLink RJ0 498 yJ2_charAt_3b067, Cond.static yJ2_charAt_3b067, Cond.initialized RJ2, Cond.code yJ2_charAt_3b067 cJ2_charAt_3b067 2 (some .char), Cond.methodLink RJ2 67 yJ2_checkIndex_2214a, Cond.static yJ2_checkIndex_2214a, Cond.code yJ2_checkIndex_2214a cJ2_checkIndex_2214a 2 none, Cond.methodLink RJ2 48 yJ2_length_9d52b, Cond.static yJ2_length_9d52b, Cond.code yJ2_length_9d52b cJ2_length_9d52b 1 (some .int), Cond.methodLink RJ2 414 yJ0_checkIndex_df160, Cond.methodLink RJ2 71 yJ2_getChar_3b067, Cond.static yJ2_getChar_3b067, Cond.code yJ2_getChar_3b067 cJ2_getChar_3b067 2 (some .char), Cond.fieldLink RJ2 44 "java/lang/StringUTF16" "$assertionsDisabled" "Z", Cond.fieldLink RJ2 59 "java/lang/StringUTF16" "HI_BYTE_SHIFT" "I", Cond.fieldLink RJ2 63 "java/lang/StringUTF16" "LO_BYTE_SHIFT" "I"]
def wsX13_init : List Cond := .code yX13_init cX13_init 2 none :: ((wsX13_init_r1 ++ (wsX13_init_r2 ++ (wsX13_init_r3 ++ (wsX13_init_r4 ++ (wsX13_init_r5 ++ (wsX13_init_r6 ++ (wsX13_init_r7 ++ (wsX13_init_r8 ++ (wsX13_init_r9 ++ wsX13_init_r10))))))))) ++ wsX130)
abbrev vwCl : List vw_C := [(RX0, TX0, 22), (RX1, TX1, 19), (RX2, TX2, 10), (RX3, TX3, 16), (RX4, TX4, 2), (RX5, TX5, 19), (RX6, TX6, 19), (RX7, TX7, 14), (RX8, TX8, 21), (RX9, TX9, 10), (RX10, TX10, 19), (RX11, TX11, 16), (RX12, TX12, 17), (RX13, TX13, 229)]
end
section
/-! THE POOL: all cells that a method knows, by their addresses (L), and what stands there (f). A callee takes the whole pool of its caller; nothing is cut out. -/
def pw_T (cy : Nat → ClassId) : List (ClassId × FieldType) := [(cy 0, .byte), (cy 1, .int), (cy 2, .long), (cy 3, .boolean), (cy 4, .object RX3), (cy 5, .object RX11), (cy 6, .array .byte), (cy 7, .array .int)]
/-- an array class over arrays of t is there -/
def pw_AA (t : FieldType) (U : State) : Prop := (Cond.arrayOver (.array t)).before #[] U = true
theorem pw_AA.moved {t : FieldType} {u U : State} (hvm : u.vm.Alike U.vm) (h : pw_AA t u) : pw_AA t U := by
  obtain ⟨comp, c, k, h1, h2, h3, h4, h5⟩ := arrayOverA_spec h
  obtain ⟨k', hk', he⟩ := hvm.2.2 _ _ h3
  have hi : (U.vm.classes.findIdx? fun (x : Class) => match x.kind with | .array component _ => component == comp | _ => false) = some c := by
    have b2 := (va_idx_bare u.vm comp).trans h2
    first | rw [hvm.bare_eq] at b2 | rw [← hvm.bare_eq] at b2
    exact (va_idx_bare U.vm comp).symm.trans b2
  have hkind : k'.kind = .array comp (.array t) := by rw [he]; exact h4
  have f1 : U.vm.findClass (FieldType.array t).toString = some comp := by rw [hvm.findClass]; exact h1
  have f2 : U.vm.findClass ("[" ++ (FieldType.array t).toString) = some c := by rw [hvm.findClass]; exact h5
  unfold pw_AA Cond.before Cond.holds
  simp only [Cond.value]
  rw [f1, Option.bind_some]
  refine (congrArg (fun o : Option Nat => (o.bind (fun c => (U.vm.classes[c]?).map fun (k : Class) => match k.kind with | .array _ ty => decide (ty = FieldType.array t) && decide (U.vm.findClass ("[" ++ (FieldType.array t).toString) = some c) | _ => false) == some true)) hi).trans ?_
  simp [hk', hkind, f2]
/-- what the tables say, beside the words of a method: classes, array classes, private members of nest mates, arrays over a class -/
def pw_G (D : va_G) (cy : Nat → ClassId) (U : State) : Prop := va_K D vwCl (pw_T cy) U ∧
  (va_Nw (.methodLinkNest RX12 11 yX8_init RX12) U ∧ va_Nw (.methodLinkNest RX12 18 yX9_init RX12) U ∧ va_Nw (.methodLinkNest RX1 32 yX9_init RX12) U ∧ va_Nw (.methodLinkNest RX6 361 yX3_init RX12) U) ∧ va_AO RX3 U ∧ va_AO RX11 U ∧ pw_AA .byte U ∧ pw_AA .int U
theorem pw_G.warm {D : va_G} {cy : Nat → ClassId} {s U : State} (hW : s.WarmedH U.vm) (h : pw_G D cy s) : pw_G D cy U :=
  ⟨va_K.moved hW.alike h.1, ⟨va_Nw.warmM hW h.2.1.1, va_Nw.warmM hW h.2.1.2.1, va_Nw.warmM hW h.2.1.2.2.1, va_Nw.warmM hW h.2.1.2.2.2⟩, va_AO.moved hW.alike h.2.2.1, va_AO.moved hW.alike h.2.2.2.1, pw_AA.moved hW.alike h.2.2.2.2.1, pw_AA.moved hW.alike h.2.2.2.2.2⟩
theorem pw_G.same {D : va_G} {cy : Nat → ClassId} {s U : State} (hv : s.vm = U.vm) (h : pw_G D cy s) : pw_G D cy U := by
  have ha : s.vm.Alike U.vm := by rw [← hv]; exact Vm.Alike.refl s.vm
  exact ⟨va_K.moved ha h.1, ⟨va_Nw.same rfl hv h.2.1.1, va_Nw.same rfl hv h.2.1.2.1, va_Nw.same rfl hv h.2.1.2.2.1, va_Nw.same rfl hv h.2.1.2.2.2⟩, va_AO.moved ha h.2.2.1, va_AO.moved ha h.2.2.2.1, pw_AA.moved ha h.2.2.2.2.1, pw_AA.moved ha h.2.2.2.2.2⟩
/-- the pool at a point of a walk -/
def pw_W (D : va_G) (A : Nat → Prop) (H0 : Heap) (L : List Nat) (f : Nat → va_E) (H : Heap) (locs : List Loc) : Prop :=
  va_P D vwCl (va_pl L f) H ∧ va_D A (va_pl L f) ∧ va_S A H0 H locs ∧ ∀ q, H0.size ≤ q → A q
/-- a method's start and what it leaves -/
def pw_Pc (D : va_G) (cy : Nat → ClassId) (av : List Value) (sz : Nat) (L : List Nat) (f : Nat → va_E) : Array Value → State → Prop :=
  va_Pc av (fun U => U.heap.size = sz ∧ pw_G D cy U ∧ va_P D vwCl (va_pl L f) U.heap ∧ va_D (fun _ => True) (va_pl L f))
def pw_B (D : va_G) (A : Nat → Prop) : List Nat × (Nat → va_E) → State → Prop := fun u t => va_P D vwCl (va_pl u.1 u.2) t.heap ∧ va_D A (va_pl u.1 u.2)
def pw_A (L : List Nat) (f : Nat → va_E) (sz : Nat) : Nat → Prop := va_A (va_pl L f) sz
theorem pw_A_in {L : List Nat} {f : Nat → va_E} {sz a : Nat} (h : a ∈ L) : pw_A L f sz a := by
  obtain ⟨k, hk⟩ := va_pl_get (X := []) (f := f) h
  exact Or.inl ⟨k, f a, hk⟩
theorem pw_blind {D : va_G} {cy : Nat → ClassId} {av : List Value} {sz : Nat} {L : List Nat} {f : Nat → va_E} : FrameBlind (pw_Pc D cy av sz L f) := by
  intro a U g mk q
  obtain ⟨q0, q1, qG, qP, qD⟩ := q
  exact ⟨q0, q1, pw_G.same (s := U) (U := U.calling g mk a) rfl qG, qP, qD⟩
/-- at the entry of a method -/
theorem pw_start {D : va_G} {cy : Nat → ClassId} {sz : Nat} {L : List Nat} {f : Nat → va_E} {s : State} (hsz : s.heap.size = sz) (hP : va_P D vwCl (va_pl L f) s.heap) (hD : va_D (fun _ => True) (va_pl L f)) : pw_W D (pw_A L f sz) s.heap L f s.heap [] :=
  ⟨hP, hD.self, va_S.rf, fun q h => Or.inr (by rw [← hsz]; exact h)⟩
section PW
variable {p : Program} {l : Launch} {e : Env} {R : Room} {s : State} {m : MethodId} {args : Array Value} {below : List Frame} {meth : Method} {c : Code} {H : Heap} {locs : List Loc} {cells slots : Nat} {Q : State → Prop}
variable {cc : ByteArray} {pc : Nat} {ls : Array Slot} {rest : List Value} {D : va_G} {cy : Nat → ClassId} {A : Nat → Prop} {a : Nat} {H0 : Heap} {L : List Nat} {f : Nat → va_E}
theorem pw_nd (hw : pw_W D A H0 L f H locs) : L.Nodup := by
  refine List.pairwise_iff_getElem.mpr (fun i j hi hj hij he => ?_)
  have h1 : (va_pl L f)[i]? = some (L[i], f L[i]) := by simp [va_pl, hi]
  have h2 : (va_pl L f)[j]? = some (L[j], f L[j]) := by simp [va_pl, hj]
  have := hw.2.1.1 i j _ _ h1 h2 he
  omega
theorem pw_lt (hw : pw_W D A H0 L f H locs) (ha : a ∈ L) : a < H.size := va_pl_lt (X := []) hw.1 ha
theorem pw_get (hexec : p.tables.exec = Jvm.exec) (hb : c.code = cc) {own ref C : String} {T : u_T} {N ci index : Nat} {Ts : List Cond} (hts : ∀ w ∈ Ts, w.before args s = true) (hin : ∀ w ∈ u_ws C T N, w ∈ Ts) (hown : s.vm.findClass own = some m.cls) (hG : pw_G D cy s) (hw : pw_W D A H0 L f H locs) (ha : a ∈ L) {fs : List Value} (he : f a = .inr (ci, fs)) (hc : vwCl[ci]? = some (C, T, N)) (k : Nat) (hk : k < N) (hlink : (Cond.fieldLink own index ref (T k).2.1 (T k).2.2.1).before args s = true) (hsame : ∀ x, s.fieldFound? (T k).1 (T k).2.1 (T k).2.2.1 = some x → s.fieldFound? ref (T k).2.1 (T k).2.2.1 = some x) {v : Value} (hv : fs[k]? = some v) (hdg : decode cc pc = .ok (.getfield index, 3))
    (kk : W p l e R s m args below meth c H locs cells slots Q (F0 m (pc + 3) ls (v :: rest))) : W p l e R s m args below meth c H locs cells slots Q (F0 m pc ls (.ref a :: rest)) := by
  obtain ⟨k0, hk0⟩ := va_pl_get (X := []) (f := f) ha
  rw [he] at hk0
  exact va_get hexec hb hts hin hown hG.1 hw.1 k0 hk0 hc k hk hlink hsame hv hdg kk
theorem pw_set {k0 : Nat} {e1 : va_E} {H1 : Heap} {locs1 : List Loc} (hw : pw_W D A H0 L f H locs) (ha : a ∈ L) (hk0 : (va_pl L f)[k0]? = some (a, f a)) (hP : va_P D vwCl ((va_pl L f).set k0 (a, e1)) H1) (hD : va_D A ((va_pl L f).set k0 (a, e1))) (hS : va_S A H0 H1 locs1) : pw_W D A H0 L (va_up f a e1) H1 locs1 := by
  have hs : (va_pl L f).set k0 (a, e1) = va_pl L (va_up f a e1) := va_pl_set (X := []) hw.2.1 ha hk0
  rw [hs] at hP hD
  exact ⟨hP, hD, hS, hw.2.2.2⟩
theorem pw_put (hexec : p.tables.exec = Jvm.exec) (hb : c.code = cc) {own ref C : String} {T : u_T} {N ci index : Nat} {Ts : List Cond} (hts : ∀ w ∈ Ts, w.before args s = true) (hin : ∀ w ∈ u_ws C T N, w ∈ Ts) (ty0 : Nat → FieldType) (hty : ∀ k, k < N → parseFieldDescriptor (T k).2.2.1 = some (ty0 k)) (hnm : ∀ a, a < N → ∀ b, b < N → a ≠ b → (T a).2.1 ≠ (T b).2.1) (hown : s.vm.findClass own = some m.cls) (hG : pw_G D cy s) (hw : pw_W D A H0 L f H locs) (ha : a ∈ L) {fs : List Value} (he : f a = .inr (ci, fs)) (hc : vwCl[ci]? = some (C, T, N)) (k : Nat) (hk : k < N) (hlink : (Cond.fieldLink own index ref (T k).2.1 (T k).2.2.1).before args s = true) (hsame : ∀ x, s.fieldFound? (T k).1 (T k).2.1 (T k).2.2.1 = some x → s.fieldFound? ref (T k).2.1 (T k).2.2.1 = some x) (hfin : (T k).2.2.2 = false) {ty : FieldType} {v : Value} (hd : parseFieldDescriptor (T k).2.2.1 = some ty) (hn : narrow ty v = v) (hfit : fits ty v = true) (hl : k < fs.length)
    (hdg : decode cc pc = .ok (.putfield index, 3)) (kk : ∀ (H1 : Heap) (locs1 : List Loc), pw_W D A H0 L (va_up f a (.inr (ci, fs.set k v))) H1 locs1 → W p l e R s m args below meth c H1 locs1 cells slots Q (F0 m (pc + 3) ls rest)) : W p l e R s m args below meth c H locs cells slots Q (F0 m pc ls (v :: .ref a :: rest)) := by
  obtain ⟨k0, hk0⟩ := va_pl_get (X := []) (f := f) ha
  have hk1 := hk0
  rw [he] at hk0
  exact va_put hexec hb hts hin ty0 hty hnm hown hG.1 hw.1 hw.2.1 hw.2.2.1 k0 hk0 hc k hk hlink hsame hfin hd hn hfit hl hdg (fun H1 locs1 hP hD hS => kk H1 locs1 (pw_set hw ha hk1 hP hD hS))
theorem pw_putF (hexec : p.tables.exec = Jvm.exec) (hb : c.code = cc) {own ref C : String} {T : u_T} {N ci index : Nat} {Ts : List Cond} (hts : ∀ w ∈ Ts, w.before args s = true) (hin : ∀ w ∈ u_ws C T N, w ∈ Ts) (ty0 : Nat → FieldType) (hty : ∀ k, k < N → parseFieldDescriptor (T k).2.2.1 = some (ty0 k)) (hnm : ∀ a, a < N → ∀ b, b < N → a ≠ b → (T a).2.1 ≠ (T b).2.1) (hown : s.vm.findClass own = some m.cls) (hG : pw_G D cy s) (hw : pw_W D A H0 L f H locs) (ha : a ∈ L) {fs : List Value} (he : f a = .inr (ci, fs)) (hc : vwCl[ci]? = some (C, T, N)) (k : Nat) (hk : k < N) (hlink : (Cond.fieldLink own index ref (T k).2.1 (T k).2.2.1).before args s = true) (hsame : ∀ x, s.fieldFound? (T k).1 (T k).2.1 (T k).2.2.1 = some x → s.fieldFound? ref (T k).2.1 (T k).2.2.1 = some x) (hfin : (T k).2.2.2 = true) (hin2 : meth.name = "<init>") (hdecl : (T k).1 = own) {ty : FieldType} {v : Value} (hd : parseFieldDescriptor (T k).2.2.1 = some ty) (hn : narrow ty v = v) (hfit : fits ty v = true) (hl : k < fs.length)
    (hdg : decode cc pc = .ok (.putfield index, 3)) (kk : ∀ (H1 : Heap) (locs1 : List Loc), pw_W D A H0 L (va_up f a (.inr (ci, fs.set k v))) H1 locs1 → W p l e R s m args below meth c H1 locs1 cells slots Q (F0 m (pc + 3) ls rest)) : W p l e R s m args below meth c H locs cells slots Q (F0 m pc ls (v :: .ref a :: rest)) := by
  obtain ⟨k0, hk0⟩ := va_pl_get (X := []) (f := f) ha
  have hk1 := hk0
  rw [he] at hk0
  exact va_putF hexec hb hts hin ty0 hty hnm hown hG.1 hw.1 hw.2.1 hw.2.2.1 k0 hk0 hc k hk hlink hsame hfin hin2 hdecl hd hn hfit hl hdg (fun H1 locs1 hP hD hS => kk H1 locs1 (pw_set hw ha hk1 hP hD hS))
theorem pw_push {q : Nat} {e1 : va_E} {H1 : Heap} {locs1 : List Loc} (hw : pw_W D A H0 L f H locs) (hP : va_P D vwCl (va_pl L f ++ [(q, e1)]) H1) (hD : va_D A (va_pl L f ++ [(q, e1)])) (hS : va_S A H0 H1 locs1) : q ∉ L ∧ pw_W D A H0 (L ++ [q]) (va_up f q e1) H1 locs1 := by
  have hq : q ∉ L := va_pl_fresh2 (X := []) hD
  rw [va_pl_push hq] at hP hD
  exact ⟨hq, hP, hD, hS, hw.2.2.2⟩
theorem pw_new (hexec : p.tables.exec = Jvm.exec) (hb : c.code = cc) {own C : String} {T : u_T} {N ci index : Nat} {Ts : List Cond} (hts : ∀ w ∈ Ts, w.before args s = true) (hin : ∀ w ∈ u_ws C T N, w ∈ Ts) (ty : Nat → FieldType) (hty : ∀ k, k < N → parseFieldDescriptor (T k).2.2.1 = some (ty k)) (hown : s.vm.findClass own = some m.cls) (hcl : (Cond.classLink own index C).before args s = true) (hinst : (Cond.instantiable C N).before args s = true) (hini : (Cond.initialized C).before args s = true)
    (hG : pw_G D cy s) (hw : pw_W D A H0 L f H locs) (hc : vwCl[ci]? = some (C, T, N)) {fs : List Value} (hfs : ∀ j, j < N → defaultValue (ty j) = vp_V fs j) (hcells : cells + 1 ≤ R.cells) (hslots : slots + N ≤ R.slots) (hdg : decode cc pc = .ok (.new index, 3))
    (kk : ∀ (q : Nat) (H1 : Heap), q ∉ L → pw_W D A H0 (L ++ [q]) (va_up f q (.inr (ci, fs))) H1 locs → W p l e R s m args below meth c H1 locs (cells + 1) (slots + N) Q (F0 m (pc + 3) ls (.ref q :: rest))) : W p l e R s m args below meth c H locs cells slots Q (F0 m pc ls rest) :=
  va_new hexec hb hts hin ty hty hown hcl hinst hini hG.1 hw.1 hw.2.1 hw.2.2.1 hw.2.2.2 hc hfs hcells hslots hdg (fun q H1 hP hD hS => by
    obtain ⟨h1, h2⟩ := pw_push hw hP hD hS
    exact kk q H1 h1 h2)
/-- an array of whole numbers: its class is the one that the pool names -/
theorem pw_newa (hexec : p.tables.exec = Jvm.exec) (hb : c.code = cc) {atype : ArrayType} {ty : FieldType} {t0 : Nat} {cA : ClassId} (harr : (Cond.arrayClass (newarray.typeOf atype)).before args s = true) (hty : newarray.typeOf atype = ty) (hG : pw_G D cy s) (ht : (pw_T cy)[t0]? = some (cA, ty)) (hra : ∀ U : State, va_RA U cA ty → U.vm.findClass ("[" ++ ty.toString) = some cA) (hw : pw_W D A H0 L f H locs)
    {n : Int32} {N' : Nat} {a0 : vp_A} (ha : ∀ cA : ClassId, vp_cell cA a0 = arrV cA N' (fun _ => defaultValue ty)) (hn : ¬ n < 0) (hN : n.toNatClampNeg = N') (hbytes : N' * componentBytes ty ≤ 536870912) (hcells : cells + 1 ≤ R.cells) (hslots : slots + N' ≤ R.slots) (hdg : decode cc pc = .ok (.newarray atype, 2))
    (kk : ∀ (q : Nat) (H1 : Heap), q ∉ L → pw_W D A H0 (L ++ [q]) (va_up f q (.inl (cA, a0))) H1 locs → W p l e R s m args below meth c H1 locs (cells + 1) (slots + N') Q (F0 m (pc + 2) ls (.ref q :: rest))) : W p l e R s m args below meth c H locs cells slots Q (F0 m pc ls (.int n :: rest)) := by
  subst hty
  refine va_newaK hexec hb harr rfl hdg rfl hn hN hbytes hcells hslots rfl fun H1 cA1 e1 z1 o1 hAr hNm => ?_
  have hcA : cA1 = cA := Option.some.inj (hNm.symm.trans (hra s (hG.1.2 t0 _ ht).2))
  subst hcA
  have hk : ∀ (k : Nat) (x : Nat × va_E), (va_pl L f)[k]? = some x → H1[x.1]? = H[x.1]? := fun k x hx => o1 x.1 ((hw.1 k x hx).lt)
  have hP1 : va_P D vwCl (va_pl L f ++ [(H.size, .inl (cA1, a0))]) H1 := (hw.1.kept hk).app (fun k x hx => by
    have hz : k < 1 := (List.getElem?_eq_some_iff.mp hx).1
    rw [show k = 0 by omega] at hx
    cases hx
    show H1[H.size]? = some (vp_cell _ _)
    rw [ha]
    exact e1)
  obtain ⟨h1, h2⟩ := pw_push hw hP1 (hw.2.1.push hw.1 rfl (hw.2.2.2 _ hw.2.2.1.1)) ⟨Nat.le_trans hw.2.2.1.1 (by omega), fun x h1 h2 => (o1 x (Nat.lt_of_lt_of_le h1 hw.2.2.1.1)).trans (hw.2.2.1.2.1 x h1 h2), hw.2.2.1.2.2⟩
  exact kk H.size H1 h1 h2
end PW
/-! WHAT A CONSTRUCTOR DOES: since (L0, f0) the object h0 holds fs, the cells 'news' came, nothing else changed. -/
def pw_N (h0 ci : Nat) (L0 : List Nat) (f0 : Nat → va_E) (L : List Nat) (f : Nat → va_E) (fs : List Value) (news : List (Nat × va_E)) : Prop :=
  L = L0 ++ news.map Prod.fst ∧ f h0 = .inr (ci, fs) ∧ (∀ x ∈ news, f x.1 = x.2) ∧ (∀ x ∈ L0, x ≠ h0 → f x = f0 x) ∧ h0 ∈ L0
theorem pw_N.rf {h0 ci : Nat} {L0 : List Nat} {f0 : Nat → va_E} {fs : List Value} (h : h0 ∈ L0) (he : f0 h0 = .inr (ci, fs)) : pw_N h0 ci L0 f0 L0 f0 fs [] :=
  ⟨(List.append_nil L0).symm, he, fun _ q => absurd q List.not_mem_nil, fun _ _ _ => rfl, h⟩
theorem pw_N.mem {h0 ci : Nat} {L0 L : List Nat} {f0 f : Nat → va_E} {fs : List Value} {news : List (Nat × va_E)} (h : pw_N h0 ci L0 f0 L f fs news) : h0 ∈ L := by
  rw [h.1]; exact List.mem_append_left _ h.2.2.2.2
theorem pw_N.apart {h0 ci : Nat} {L0 L : List Nat} {f0 f : Nat → va_E} {fs : List Value} {news : List (Nat × va_E)} (h : pw_N h0 ci L0 f0 L f fs news) (hd : L.Nodup) {x : Nat × va_E} (hx : x ∈ news) : x.1 ∉ L0 ∧ x.1 ∈ L := by
  have h1 : x.1 ∈ news.map Prod.fst := List.mem_map.mpr ⟨x, hx, rfl⟩
  rw [h.1] at hd ⊢
  refine ⟨fun h2 => ?_, List.mem_append_right _ h1⟩
  exact (List.nodup_append.mp hd).2.2 x.1 h2 x.1 h1 rfl
theorem pw_N.put {h0 ci : Nat} {L0 L : List Nat} {f0 f : Nat → va_E} {fs gs : List Value} {news : List (Nat × va_E)} (h : pw_N h0 ci L0 f0 L f fs news) (hd : L.Nodup) : pw_N h0 ci L0 f0 L (va_up f h0 (.inr (ci, gs))) gs news := by
  refine ⟨h.1, va_up_self _ _ _, fun x hx => ?_, fun x hx hne => ?_, h.2.2.2.2⟩
  · rw [va_up_ne _ _ (fun q => (h.apart hd hx).1 (by rw [q]; exact h.2.2.2.2))]
    exact h.2.2.1 x hx
  · rw [va_up_ne _ _ hne]
    exact h.2.2.2.1 x hx hne
theorem pw_N.new {h0 ci q : Nat} {e : va_E} {L0 L : List Nat} {f0 f : Nat → va_E} {fs : List Value} {news : List (Nat × va_E)} (h : pw_N h0 ci L0 f0 L f fs news) (hq : q ∉ L) : pw_N h0 ci L0 f0 (L ++ [q]) (va_up f q e) fs (news ++ [(q, e)]) := by
  have hne : ∀ x ∈ L, x ≠ q := fun x hx hxq => hq (hxq ▸ hx)
  refine ⟨by rw [h.1, List.map_append, List.append_assoc]; rfl, ?_, fun x hx => ?_, fun x hx hx0 => ?_, h.2.2.2.2⟩
  · rw [va_up_ne _ _ (hne _ h.mem)]; exact h.2.1
  · rcases List.mem_append.mp hx with h1 | h1
    · rw [va_up_ne _ _ (hne _ (by rw [h.1]; exact List.mem_append_right _ (List.mem_map.mpr ⟨x, h1, rfl⟩)))]
      exact h.2.2.1 x h1
    · rw [List.mem_singleton.mp h1]; exact va_up_self _ _ _
  · rw [va_up_ne _ _ (hne _ (by rw [h.1]; exact List.mem_append_left _ hx))]
    exact h.2.2.2.1 x hx hx0
/-- an object that came, filled by its own constructor -/
theorem pw_N.call {h0 ci q cj : Nat} {e : va_E} {L0 L L2 : List Nat} {f0 f f2 : Nat → va_E} {fs gs : List Value} {news news2 : List (Nat × va_E)} (h : pw_N h0 ci L0 f0 L f fs (news ++ [(q, e)])) (h2 : pw_N q cj L f L2 f2 gs news2) (hd : L2.Nodup) : pw_N h0 ci L0 f0 L2 f2 fs ((news ++ [(q, .inr (cj, gs))]) ++ news2) := by
  have hdL : L.Nodup := by rw [h2.1] at hd; exact (List.nodup_append.mp hd).1
  have hq0 : q ∉ L0 := (h.apart hdL (x := (q, e)) (List.mem_append_right _ (List.mem_singleton.mpr rfl))).1
  have hdn : (L0 ++ (news.map Prod.fst ++ [q])).Nodup := by
    have h3 := hdL
    rw [h.1, List.map_append] at h3
    exact h3
  have hqn : ∀ x ∈ news, x.1 ≠ q := fun x hx hxq => by
    have h4 := (List.nodup_append.mp (List.nodup_append.mp hdn).2.1).2.2
    exact h4 x.1 (List.mem_map.mpr ⟨x, hx, rfl⟩) q (List.mem_singleton.mpr rfl) hxq
  refine ⟨?_, ?_, fun x hx => ?_, fun x hx hx0 => ?_, h.2.2.2.2⟩
  · rw [h2.1, h.1]; simp
  · rw [h2.2.2.2.1 h0 h.mem (fun z => hq0 (z ▸ h.2.2.2.2))]; exact h.2.1
  · rcases List.mem_append.mp hx with h1 | h1
    · rcases List.mem_append.mp h1 with h1 | h1
      · rw [h2.2.2.2.1 x.1 (by rw [h.1]; exact List.mem_append_right _ (List.mem_map.mpr ⟨x, List.mem_append_left _ h1, rfl⟩)) (hqn x h1)]
        exact h.2.2.1 x (List.mem_append_left _ h1)
      · rw [List.mem_singleton.mp h1]; exact h2.2.1
    · exact h2.2.2.1 x h1
  · rw [h2.2.2.2.1 x (by rw [h.1]; exact List.mem_append_left _ hx) (fun z => hq0 (z ▸ hx))]
    exact h.2.2.2.1 x hx hx0
section PWN
variable {p : Program} {l : Launch} {e : Env} {R : Room} {s : State} {m : MethodId} {args : Array Value} {below : List Frame} {meth : Method} {c : Code} {H : Heap} {locs : List Loc} {cells slots : Nat} {Q : State → Prop}
variable {D : va_G} {cy : Nat → ClassId} {sz : Nat} {L0 L : List Nat} {f0 f : Nat → va_E} {av : List Value}
/-- the end of a constructor -/
theorem pw_vret {cc : ByteArray} {S : List Nat × (Nat → va_E) → Prop} (hexec : p.tables.exec = Jvm.exec) (hb : c.code = cc) (hr : meth.sig.returnType = none) (hlocks : meth.locks = false) (hsz : s.heap.size = sz) (hw : pw_W D (pw_A L0 f0 sz) s.heap L f H locs) (hp : S (L, f)) {pc : Nat} {ls : Array Slot} (hdg : decode cc pc = .ok (.return_, 1)) :
    W p l e R s m args below meth c H locs cells slots (MQ below (va_Qv S (pw_B D (pw_A L0 f0 sz)) (pw_A L0 f0 sz)) args s cells slots (pw_A L0 f0 sz)) (F0 m pc ls []) :=
  W.vret hexec hb hr (fun t ht hW => ⟨⟨(L, f), rfl, hp, by rw [ht]; exact hw.1, hw.2.1⟩, hw.2.2.1.F ht⟩) hw.2.2.1.2.2 hdg
/-- behind a call that returns nothing -/
theorem pw_callv {pc mc ms : Nat} {ls : Array Slot} {st0 rest : List Value} {a : Array Value} {A : Nat → Prop} {S : List Nat × (Nat → va_E) → Prop} (hw : pw_W D A s.heap L f H locs)
    (hr : va_Run p l e R s m args below meth c H locs cells slots mc ms (F0 m pc ls st0) rest (va_Qv S (pw_B D (pw_A L f H.size)) (pw_A L f H.size) a) (pw_A L f H.size))
    (kk : ∀ (L1 : List Nat) (f1 : Nat → va_E) (H1 : Heap) (locs1 : List Loc), pw_W D A s.heap L1 f1 H1 locs1 → S (L1, f1) → W p l e R s m args below meth c H1 locs1 (cells + mc) (slots + ms) Q (F0 m (pc + 3) ls rest)) : W p l e R s m args below meth c H locs cells slots Q (F0 m pc ls st0) := by
  have hF : ∀ q, pw_A L f H.size q → A q := fun q h => by
    rcases h with ⟨k, e1, h⟩ | h
    · exact hw.2.1.2 k _ h
    · exact hw.2.2.2 q (Nat.le_trans hw.2.2.1.1 h)
  refine va_callv hr hw.2.2.1 (fun q _ h => hF q h) hF (fun u t H1 locs1 ht hvm hp hB hz hk hS => ?_)
  obtain ⟨L1, f1⟩ := u
  obtain ⟨hP1, hD1⟩ := hB
  rw [ht] at hP1
  exact kk L1 f1 H1 locs1 ⟨hP1, hD1.weaken (fun k q _ h => hF q.1 h), hS, hw.2.2.2⟩ hp
/-- what a callee asks of its caller's pool -/
theorem pw_pre {av : List Value} (hG : pw_G D cy s) {A : Nat → Prop} (hw : pw_W D A s.heap L f H locs) : PreS s H (pw_Pc D cy av H.size L f) av :=
  ⟨pw_blind, fun U hU hW => ⟨rfl, by rw [hU], hG.warm hW, by rw [hU]; exact hw.1, hw.2.1.weaken (fun _ _ _ _ => trivial)⟩⟩
end PWN
section PWC
variable {p : Program} {l : Launch} {e : Env} {R : Room} {s : State} {m : MethodId} {args : Array Value} {below : List Frame} {meth : Method} {c : Code} {H : Heap} {locs : List Loc} {cells slots : Nat} {Q : State → Prop}
variable {cc : ByteArray} {pc : Nat} {ls : Array Slot} {rest : List Value} {D : va_G} {cy : Nat → ClassId} {A : Nat → Prop} {h0 ci : Nat} {H0 : Heap} {L0 L : List Nat} {f0 f : Nat → va_E} {fs : List Value} {news : List (Nat × va_E)}
/-- a constructor's own field, final -/
theorem pw_cputF (hexec : p.tables.exec = Jvm.exec) (hb : c.code = cc) {own ref C : String} {T : u_T} {N index : Nat} {Ts : List Cond} (hts : ∀ w ∈ Ts, w.before args s = true) (hin : ∀ w ∈ u_ws C T N, w ∈ Ts) (ty0 : Nat → FieldType) (hty : ∀ k, k < N → parseFieldDescriptor (T k).2.2.1 = some (ty0 k)) (hnm : ∀ a, a < N → ∀ b, b < N → a ≠ b → (T a).2.1 ≠ (T b).2.1) (hown : s.vm.findClass own = some m.cls) (hG : pw_G D cy s) (hw : pw_W D A H0 L f H locs) (hN : pw_N h0 ci L0 f0 L f fs news) (hc : vwCl[ci]? = some (C, T, N)) (k : Nat) (hk : k < N) (hlink : (Cond.fieldLink own index ref (T k).2.1 (T k).2.2.1).before args s = true) (hsame : ∀ x, s.fieldFound? (T k).1 (T k).2.1 (T k).2.2.1 = some x → s.fieldFound? ref (T k).2.1 (T k).2.2.1 = some x) (hfin : (T k).2.2.2 = true) (hin2 : meth.name = "<init>") (hdecl : (T k).1 = own) {v : Value} (hn : narrow (ty0 k) v = v) (hfit : fits (ty0 k) v = true) (hl : k < fs.length)
    (hdg : decode cc pc = .ok (.putfield index, 3)) (kk : ∀ (f1 : Nat → va_E) (H1 : Heap) (locs1 : List Loc), pw_W D A H0 L f1 H1 locs1 → pw_N h0 ci L0 f0 L f1 (fs.set k v) news → W p l e R s m args below meth c H1 locs1 cells slots Q (F0 m (pc + 3) ls rest)) : W p l e R s m args below meth c H locs cells slots Q (F0 m pc ls (v :: .ref h0 :: rest)) :=
  pw_putF hexec hb hts hin ty0 hty hnm hown hG hw hN.mem hN.2.1 hc k hk hlink hsame hfin hin2 hdecl (hty k hk) hn hfit hl hdg (fun H1 locs1 hw1 => kk _ H1 locs1 hw1 (hN.put (pw_nd hw1)))
theorem pw_cput (hexec : p.tables.exec = Jvm.exec) (hb : c.code = cc) {own ref C : String} {T : u_T} {N index : Nat} {Ts : List Cond} (hts : ∀ w ∈ Ts, w.before args s = true) (hin : ∀ w ∈ u_ws C T N, w ∈ Ts) (ty0 : Nat → FieldType) (hty : ∀ k, k < N → parseFieldDescriptor (T k).2.2.1 = some (ty0 k)) (hnm : ∀ a, a < N → ∀ b, b < N → a ≠ b → (T a).2.1 ≠ (T b).2.1) (hown : s.vm.findClass own = some m.cls) (hG : pw_G D cy s) (hw : pw_W D A H0 L f H locs) (hN : pw_N h0 ci L0 f0 L f fs news) (hc : vwCl[ci]? = some (C, T, N)) (k : Nat) (hk : k < N) (hlink : (Cond.fieldLink own index ref (T k).2.1 (T k).2.2.1).before args s = true) (hsame : ∀ x, s.fieldFound? (T k).1 (T k).2.1 (T k).2.2.1 = some x → s.fieldFound? ref (T k).2.1 (T k).2.2.1 = some x) (hfin : (T k).2.2.2 = false) {v : Value} (hn : narrow (ty0 k) v = v) (hfit : fits (ty0 k) v = true) (hl : k < fs.length)
    (hdg : decode cc pc = .ok (.putfield index, 3)) (kk : ∀ (f1 : Nat → va_E) (H1 : Heap) (locs1 : List Loc), pw_W D A H0 L f1 H1 locs1 → pw_N h0 ci L0 f0 L f1 (fs.set k v) news → W p l e R s m args below meth c H1 locs1 cells slots Q (F0 m (pc + 3) ls rest)) : W p l e R s m args below meth c H locs cells slots Q (F0 m pc ls (v :: .ref h0 :: rest)) :=
  pw_put hexec hb hts hin ty0 hty hnm hown hG hw hN.mem hN.2.1 hc k hk hlink hsame hfin (hty k hk) hn hfit hl hdg (fun H1 locs1 hw1 => kk _ H1 locs1 hw1 (hN.put (pw_nd hw1)))
/-- a constructor reads its own field -/
theorem pw_cget (hexec : p.tables.exec = Jvm.exec) (hb : c.code = cc) {own ref C : String} {T : u_T} {N index : Nat} {Ts : List Cond} (hts : ∀ w ∈ Ts, w.before args s = true) (hin : ∀ w ∈ u_ws C T N, w ∈ Ts) (hown : s.vm.findClass own = some m.cls) (hG : pw_G D cy s) (hw : pw_W D A H0 L f H locs) (hN : pw_N h0 ci L0 f0 L f fs news) (hc : vwCl[ci]? = some (C, T, N)) (k : Nat) (hk : k < N) (hlink : (Cond.fieldLink own index ref (T k).2.1 (T k).2.2.1).before args s = true) (hsame : ∀ x, s.fieldFound? (T k).1 (T k).2.1 (T k).2.2.1 = some x → s.fieldFound? ref (T k).2.1 (T k).2.2.1 = some x) {v : Value} (hv : fs[k]? = some v) (hdg : decode cc pc = .ok (.getfield index, 3))
    (kk : W p l e R s m args below meth c H locs cells slots Q (F0 m (pc + 3) ls (v :: rest))) : W p l e R s m args below meth c H locs cells slots Q (F0 m pc ls (.ref h0 :: rest)) :=
  pw_get hexec hb hts hin hown hG hw hN.mem hN.2.1 hc k hk hlink hsame hv hdg kk
theorem pw_cnewa (hexec : p.tables.exec = Jvm.exec) (hb : c.code = cc) {atype : ArrayType} {ty : FieldType} {t0 : Nat} {cA : ClassId} (harr : (Cond.arrayClass (newarray.typeOf atype)).before args s = true) (hty : newarray.typeOf atype = ty) (hG : pw_G D cy s) (ht : (pw_T cy)[t0]? = some (cA, ty)) (hra : ∀ U : State, va_RA U cA ty → U.vm.findClass ("[" ++ ty.toString) = some cA) (hw : pw_W D A H0 L f H locs) (hN : pw_N h0 ci L0 f0 L f fs news)
    {n : Int32} {N' : Nat} {a0 : vp_A} (ha : ∀ cA : ClassId, vp_cell cA a0 = arrV cA N' (fun _ => defaultValue ty)) (hn : ¬ n < 0) (hN' : n.toNatClampNeg = N') (hbytes : N' * componentBytes ty ≤ 536870912) (hcells : cells + 1 ≤ R.cells) (hslots : slots + N' ≤ R.slots) (hdg : decode cc pc = .ok (.newarray atype, 2))
    (kk : ∀ (q : Nat) (L1 : List Nat) (f1 : Nat → va_E) (H1 : Heap), pw_W D A H0 L1 f1 H1 locs → pw_N h0 ci L0 f0 L1 f1 fs (news ++ [(q, .inl (cA, a0))]) → W p l e R s m args below meth c H1 locs (cells + 1) (slots + N') Q (F0 m (pc + 2) ls (.ref q :: rest))) : W p l e R s m args below meth c H locs cells slots Q (F0 m pc ls (.int n :: rest)) :=
  pw_newa hexec hb harr hty hG ht hra hw ha hn hN' hbytes hcells hslots hdg (fun q H1 hq hw1 => kk q _ _ H1 hw1 (hN.new hq))
theorem pw_cnew (hexec : p.tables.exec = Jvm.exec) (hb : c.code = cc) {own C : String} {T : u_T} {N cj index : Nat} {Ts : List Cond} (hts : ∀ w ∈ Ts, w.before args s = true) (hin : ∀ w ∈ u_ws C T N, w ∈ Ts) (ty : Nat → FieldType) (hty : ∀ k, k < N → parseFieldDescriptor (T k).2.2.1 = some (ty k)) (hown : s.vm.findClass own = some m.cls) (hcl : (Cond.classLink own index C).before args s = true) (hinst : (Cond.instantiable C N).before args s = true) (hini : (Cond.initialized C).before args s = true)
    (hG : pw_G D cy s) (hw : pw_W D A H0 L f H locs) (hN : pw_N h0 ci L0 f0 L f fs news) (hc : vwCl[cj]? = some (C, T, N)) {gs : List Value} (hfs : ∀ j, j < N → defaultValue (ty j) = vp_V gs j) (hcells : cells + 1 ≤ R.cells) (hslots : slots + N ≤ R.slots) (hdg : decode cc pc = .ok (.new index, 3))
    (kk : ∀ (q : Nat) (L1 : List Nat) (f1 : Nat → va_E) (H1 : Heap), pw_W D A H0 L1 f1 H1 locs → pw_N h0 ci L0 f0 L1 f1 fs (news ++ [(q, .inr (cj, gs))]) → q ∈ L1 → f1 q = .inr (cj, gs) → W p l e R s m args below meth c H1 locs (cells + 1) (slots + N) Q (F0 m (pc + 3) ls (.ref q :: rest))) : W p l e R s m args below meth c H locs cells slots Q (F0 m pc ls rest) :=
  pw_new hexec hb hts hin ty hty hown hcl hinst hini hG hw hc hfs hcells hslots hdg (fun q H1 hq hw1 => kk q _ _ H1 hw1 (hN.new hq) (List.mem_append_right _ (List.mem_singleton.mpr rfl)) (va_up_self _ _ _))
end PWC
end
section
section PWQ
variable {p : Program} {l : Launch} {e : Env} {R : Room} {s : State} {m : MethodId} {args : Array Value} {below : List Frame} {meth : Method} {c : Code} {H : Heap} {locs : List Loc} {cells slots : Nat} {Q : State → Prop}
variable {cc : ByteArray} {pc : Nat} {ls : Array Slot} {rest : List Value} {D : va_G} {cy : Nat → ClassId} {A : Nat → Prop} {h0 ci : Nat} {H0 : Heap} {L0 L : List Nat} {f0 f : Nat → va_E} {fs : List Value} {news : List (Nat × va_E)}
/-- an array of references to objects of C: its class is the one that the pool names -/
theorem pw_cnewq (hexec : p.tables.exec = Jvm.exec) (hb : c.code = cc) {own C : String} {index t0 : Nat} {cA : ClassId} (hown : s.vm.findClass own = some m.cls) (hclink : (Cond.classLink own index C).before args s = true) (hover : va_AO C s) (hG : pw_G D cy s) (ht : (pw_T cy)[t0]? = some (cA, .object C)) (hw : pw_W D A H0 L f H locs) (hN : pw_N h0 ci L0 f0 L f fs news)
    {n : Int32} {N' : Nat} (hn : ¬ n < 0) (hN' : n.toNatClampNeg = N') (hbytes : N' * 4 ≤ 536870912) (hcells : cells + 1 ≤ R.cells) (hslots : slots + N' ≤ R.slots) (hdg : decode cc pc = .ok (.anewarray index, 3))
    (kk : ∀ (q : Nat) (L1 : List Nat) (f1 : Nat → va_E) (H1 : Heap), pw_W D A H0 L1 f1 H1 locs → pw_N h0 ci L0 f0 L1 f1 fs (news ++ [(q, .inl (cA, N', .inr (.inr (.inr (.inr (fun _ => none))))))]) → W p l e R s m args below meth c H1 locs (cells + 1) (slots + N') Q (F0 m (pc + 3) ls (.ref q :: rest))) : W p l e R s m args below meth c H locs cells slots Q (F0 m pc ls (.int n :: rest)) := by
  refine va_newq hexec hb hown hclink hover hG.1 hw.1 hw.2.1 hw.2.2.1 hw.2.2.2 hn hN' hbytes hcells hslots hdg (fun q cA1 H1 hK1 hP hD hS => ?_)
  obtain ⟨kA, comp, -, -, -, f4⟩ := (hG.1.2 t0 _ ht).2
  obtain ⟨kB, comp2, -, -, -, g4⟩ := (hK1.2 (pw_T cy).length (cA1, .object C) (by rw [List.getElem?_append_right (Nat.le_refl _), Nat.sub_self]; rfl)).2
  have hcA : cA1 = cA := Option.some.inj (g4.symm.trans f4)
  subst hcA
  obtain ⟨h1, h2⟩ := pw_push hw hP hD hS
  exact kk q _ _ H1 h2 (hN.new h1)
end PWQ
end
section
/-! new T[n][k]: the outer array, its rows behind it, one after the other. -/
def mw_out (c : ClassId) (n h i : Nat) : Cell := arrV c n (fun j => if j < i then .ref (h + 1 + j) else .null)
def mw_in (c : ClassId) (k : Nat) (v : Value) : Cell := { cls := c, slots := Array.replicate k v, vm := .none }
/-- the state with i rows made -/
def mw_st (T : State) (cA cB : ClassId) (n k : Nat) (v : Value) : Nat → State
  | 0 => T.pushCell (mw_out cA n T.heap.size 0)
  | i + 1 => ((mw_st T cA cB n k v i).pushCell (mw_in cB k v)).setCell T.heap.size (mw_out cA n T.heap.size (i + 1))
theorem mw_out_0 (c : ClassId) (n h : Nat) : mw_out c n h 0 = { cls := c, slots := Array.replicate n .null, vm := .none } := by
  unfold mw_out
  rw [arrV_new]
  refine congrArg (arrV c n) (funext fun j => ?_)
  simp
theorem mw_out_s (c : ClassId) (n h i : Nat) : (mw_out c n h i).setSlot i (.ref (h + 1 + i)) = mw_out c n h (i + 1) := by
  unfold mw_out
  rw [arrV_store]
  refine congrArg (arrV c n) (funext fun j => ?_)
  unfold updV
  by_cases e : j = i
  · subst e; simp
  · rw [if_neg e]
    show (if j < i then Value.ref (h + 1 + j) else Value.null) = _
    by_cases h1 : j < i
    · rw [if_pos h1, if_pos (by omega)]
    · rw [if_neg h1, if_neg (by omega)]
theorem mw_size (T : State) (cA cB : ClassId) (n k : Nat) (v : Value) : ∀ i, (mw_st T cA cB n k v i).heap.size = T.heap.size + 1 + i
  | 0 => by simp [mw_st]
  | i + 1 => by
    have h := mw_size T cA cB n k v i
    simp [mw_st, State.setCell, h]
    omega
theorem mw_top (T : State) (cA cB : ClassId) (n k : Nat) (v : Value) (i : Nat) : (mw_st T cA cB n k v i).heap[T.heap.size]? = some (mw_out cA n T.heap.size i) := by
  cases i with
  | zero => simp [mw_st]
  | succ i =>
    have h := mw_size T cA cB n k v i
    have hlt : T.heap.size < ((mw_st T cA cB n k v i).pushCell (mw_in cB k v)).heap.size := by rw [State.heap_size_pushCell, h]; omega
    simp only [mw_st, State.setCell]
    rw [Array.getElem?_setIfInBounds_self_of_lt hlt]
theorem mw_vm (T : State) (cA cB : ClassId) (n k : Nat) (v : Value) : ∀ i, (mw_st T cA cB n k v i).vm = T.vm
  | 0 => rfl
  | i + 1 => mw_vm T cA cB n k v i
theorem mw_used (T : State) (cA cB : ClassId) (n k : Nat) (v : Value) : ∀ i, (mw_st T cA cB n k v i).slotsUsed = T.slotsUsed + n + i * k
  | 0 => by simp [mw_st, mw_out, arrV]
  | i + 1 => by
    have h := mw_used T cA cB n k v i
    simp [mw_st, h, mw_in, Nat.succ_mul]
    omega
theorem mw_old (T : State) (cA cB : ClassId) (n k : Nat) (v : Value) {a : Nat} (ha : a < T.heap.size) : ∀ i, (mw_st T cA cB n k v i).heap[a]? = T.heap[a]?
  | 0 => State.heap_pushCell_of_lt _ _ ha
  | i + 1 => by
    have h := mw_size T cA cB n k v i
    have hlt : a < (mw_st T cA cB n k v i).heap.size := by rw [h]; omega
    show (((mw_st T cA cB n k v i).pushCell _).setCell T.heap.size _).heap[a]? = _
    rw [State.heap_setCell_other (Nat.ne_of_gt ha), State.heap_pushCell_of_lt (h := hlt)]
    exact mw_old T cA cB n k v ha i
theorem mw_row (T : State) (cA cB : ClassId) (n k : Nat) (v : Value) : ∀ i j, j < i → (mw_st T cA cB n k v i).heap[T.heap.size + 1 + j]? = some (mw_in cB k v)
  | 0, j, h => by omega
  | i + 1, j, h => by
    have hs := mw_size T cA cB n k v i
    show (((mw_st T cA cB n k v i).pushCell _).setCell T.heap.size _).heap[T.heap.size + 1 + j]? = _
    rw [State.heap_setCell_other (show T.heap.size ≠ T.heap.size + 1 + j by omega)]
    by_cases hj : j < i
    · have hlt : T.heap.size + 1 + j < (mw_st T cA cB n k v i).heap.size := by rw [hs]; omega
      rw [State.heap_pushCell_of_lt (h := hlt)]
      exact mw_row T cA cB n k v i j hj
    · rw [show T.heap.size + 1 + j = (mw_st T cA cB n k v i).heap.size by rw [hs]; omega]
      exact State.heap_pushCell_size _ _
theorem mw_setTop (T : State) (g : JFrame) (cA cB : ClassId) (n k : Nat) (v : Value) : ∀ i, mw_st (T.setTop g) cA cB n k v i = (mw_st T cA cB n k v i).setTop g
  | 0 => rfl
  | i + 1 => by simp only [mw_st, mw_setTop T g cA cB n k v i, State.heap_setTop, State.pushCell_setTop, State.setCell_setTop]
section MWW
variable {E : CtlPost} {e : Env} {d : Bool} {acts : List Action} {s : State}
theorem mw_fit {t : FieldType} (h : t.isReference = true) (v : Value) (hv : v = .null ∨ ∃ a, v = .ref a) : fits t v = true := by
  rcases hv with rfl | ⟨a, rfl⟩ <;> cases t <;> simp [FieldType.isReference] at h <;> rfl
theorem mw_make {cA cB cc : ClassId} {kA kB : Class} {t0 ty : FieldType} {n k : Int32} (hk : s.vm.classes[cA]? = some kA) (hkind : kA.kind = .array cB t0) (href : t0.isReference = true)
    (hkB : s.vm.classes[cB]? = some kB) (hkindB : kB.kind = .array cc ty) (hn : ¬ n < 0) (hm : ¬ k < 0)
    (hl1 : ¬ n.toNatClampNeg > e.platform.arrayLengthLimit) (hh1 : ¬ n.toNatClampNeg * componentBytes t0 > e.platform.maxHeapBytes)
    (hl2 : ¬ k.toNatClampNeg > e.platform.arrayLengthLimit) (hh2 : ¬ k.toNatClampNeg * componentBytes ty > e.platform.maxHeapBytes)
    (hdf : fits ty (defaultValue ty) = true)
    (hc : s.heap.size + 1 + n.toNatClampNeg ≤ e.platform.maxCells) (hs : s.slotsUsed + n.toNatClampNeg + n.toNatClampNeg * k.toNatClampNeg ≤ e.platform.maxSlots)
    {Q : Addr → Pre} (hq : ∀ d' acts', Q s.heap.size d' acts' (mw_st s cA cB n.toNatClampNeg k.toNatClampNeg (defaultValue ty) n.toNatClampNeg)) :
    wp (multianewarray.make cA [n, k]) Q E e d acts s := by
  have hfind : ([k].find? (· < 0)) = none := by simp [hm]
  rw [multianewarray.make]
  simp only [wp_bind', Jvm.W.ite, hn, if_false, wp_pure', Jvm.W.theClass, hk, hkind, Option.some.injEq, exists_eq_left']
  refine Jvm.W.newArray_of hk hkind hl1 hh1 (by omega) (by have := Nat.zero_le (n.toNatClampNeg * k.toNatClampNeg); omega) (mw_fit href _ (Or.inl rfl)) (fun acts1 => ?_)
  simp only [hfind]
  rw [ite_self, wp_bind', Std.Legacy.Range.forIn_eq_forIn_range']
  rw [show ([:n.toNatClampNeg] : Std.Legacy.Range).size = n.toNatClampNeg by simp [Std.Legacy.Range.size]]
  show wp (forIn (List.range' 0 n.toNatClampNeg 1) PUnit.unit _) _ E e d acts1 _
  refine wp_forIn_inv (fun xs s' => ∃ i, i ≤ n.toNatClampNeg ∧ xs = List.range' i (n.toNatClampNeg - i) ∧ s' = mw_st s cA cB n.toNatClampNeg k.toNatClampNeg (defaultValue ty) i) _ _ ⟨0, Nat.zero_le _, rfl, by rw [mw_st, mw_out_0]⟩ ?_ ?_
  · rintro x xs s' d' acts' Q' ⟨i, hi, hl, rfl⟩ hnext
    have hlt : i < n.toNatClampNeg := by
      rcases Nat.lt_or_ge i n.toNatClampNeg with h | h
      · exact h
      · rw [show n.toNatClampNeg - i = 0 by omega] at hl
        cases hl
    rw [show n.toNatClampNeg - i = (n.toNatClampNeg - (i + 1)) + 1 by omega, List.range'_succ] at hl
    obtain ⟨rfl, hxs⟩ := List.cons.inj hl
    have f1 := mw_size s cA cB n.toNatClampNeg k.toNatClampNeg (defaultValue ty) x
    have f2 := mw_top s cA cB n.toNatClampNeg k.toNatClampNeg (defaultValue ty) x
    have f3 := mw_vm s cA cB n.toNatClampNeg k.toNatClampNeg (defaultValue ty) x
    have f4 := mw_used s cA cB n.toNatClampNeg k.toNatClampNeg (defaultValue ty) x
    have hmul : x * k.toNatClampNeg + k.toNatClampNeg ≤ n.toNatClampNeg * k.toNatClampNeg := by
      have := Nat.mul_le_mul_right k.toNatClampNeg (show x + 1 ≤ n.toNatClampNeg from hlt)
      rwa [Nat.succ_mul] at this
    simp only [wp_bind']
    rw [multianewarray.make]
    simp only [wp_bind', Jvm.W.ite, hm, if_false, wp_pure', Jvm.W.theClass, f3, hkB, hkindB, Option.some.injEq, exists_eq_left']
    refine Jvm.W.newArray_of (by rw [f3]; exact hkB) hkindB hl2 hh2 (by rw [f1]; omega) (by rw [f4]; omega) hdf (fun acts2 => ?_)
    have hlt0 : s.heap.size < (mw_st s cA cB n.toNatClampNeg k.toNatClampNeg (defaultValue ty) x).heap.size := by rw [f1]; omega
    simp only [wp_bind', Jvm.W.writeLoc, wp_pure']
    refine ⟨mw_out cA n.toNatClampNeg s.heap.size x, by rw [State.heap_pushCell_of_lt (h := hlt0)]; exact f2, by simp [mw_out, arrV], by simp [mw_out, arrV]; exact hlt, ?_, hnext _ _ _ ⟨x + 1, hlt, hxs, ?_⟩⟩
    · simp [mw_out, arrV, State.fitsSlot, State.slotType?, f3, hk, hkind, mw_fit href _ (Or.inr ⟨_, rfl⟩)]
    · rw [mw_st, f1, mw_out_s]
      rfl
  · rintro s' d' acts' ⟨i, hi, hl, rfl⟩
    have hiN : i = n.toNatClampNeg := by
      rcases Nat.lt_or_ge i n.toNatClampNeg with h | h
      · rw [show n.toNatClampNeg - i = (n.toNatClampNeg - (i + 1)) + 1 by omega, List.range'_succ] at hl
        cases hl
      · omega
    subst hiN
    simp only [wp_pure']
    exact hq _ _
end MWW
section MWS
variable {p : Program} {l : Launch} {e : Env} {R : Room} {s : State} {m : MethodId} {args : Array Value} {below : List Frame} {meth : Method} {c : Code} {locs : List Loc} {cells slots : Nat}
theorem mw_stand {T : State} (X : Stand p l e R s m args below meth c T locs cells slots) (cA cB : ClassId) (n k : Nat) (v : Value) :
    ∀ i, Stand p l e R s m args below meth c (mw_st T cA cB n k v i) (locs ++ (List.range i).map fun j => ⟨T.heap.size, j⟩) (cells + 1 + i) (slots + n + i * k)
  | 0 => by
    have h := X.pushed (mw_out cA n T.heap.size 0)
    rw [show (mw_out cA n T.heap.size 0).slots.size = n from arrV_size _ _ _] at h
    simpa [mw_st] using h
  | i + 1 => by
    have Xi := mw_stand X cA cB n k v i
    have f1 := mw_size T cA cB n k v i
    have hlt0 : T.heap.size < (mw_st T cA cB n k v i).heap.size := by rw [f1]; omega
    have hcell : ((mw_st T cA cB n k v i).pushCell (mw_in cB k v)).heap[T.heap.size]? = some (mw_out cA n T.heap.size i) := by rw [State.heap_pushCell_of_lt (h := hlt0)]; exact mw_top T cA cB n k v i
    have h := (Xi.pushed (mw_in cB k v)).stored hcell i (.ref (T.heap.size + 1 + i))
    rw [show (mw_in cB k v).slots.size = k by simp [mw_in], mw_out_s] at h
    have e2 : (locs ++ (List.range (i + 1)).map fun j => (⟨T.heap.size, j⟩ : Loc)) = (locs ++ (List.range i).map fun j => (⟨T.heap.size, j⟩ : Loc)) ++ [⟨T.heap.size, i⟩] := by simp [List.range_succ, List.append_assoc]
    rw [e2, show slots + n + (i + 1) * k = slots + n + i * k + k by rw [Nat.succ_mul]; omega]
    exact h
theorem mw_step {T : State} (X : Stand p l e R s m args below meth c T locs cells slots) (hexec : p.tables.exec = Jvm.exec) {own : String} {index : Nat} {ty : FieldType}
    (hown : s.vm.findClass own = some m.cls) (hclink : (Cond.classLink own index ("[" ++ (FieldType.array ty).toString)).before args s = true)
    (hover : (Cond.arrayOver (.array ty)).before args s = true) (harr : (Cond.arrayClass ty).before args s = true)
    {g : JFrame} (hg : g.method = m) (hdg : decode c.code g.pc = .ok (.multianewarray index 2, 4)) {n k : Int32} {rest : List Value} (hstack : g.stack = .int k :: .int n :: rest)
    (hn : ¬ n < 0) (hk : ¬ k < 0) (hb1 : n.toNatClampNeg * 4 ≤ 536870912) (hb2 : k.toNatClampNeg * componentBytes ty ≤ 536870912) (hb3 : k.toNatClampNeg ≤ 536870912) (hdf : fits ty (defaultValue ty) = true)
    (hcells : cells + (1 + n.toNatClampNeg) ≤ R.cells) (hslots : slots + (n.toNatClampNeg + n.toNatClampNeg * k.toNatClampNeg) ≤ R.slots) :
    ∃ (vm₁ : Vm) (cA cB : ClassId), s.vm.findClass ("[" ++ (FieldType.array ty).toString) = some cA ∧ s.vm.findClass (FieldType.array ty).toString = some cB ∧
      Stand p l e R s m args below meth c (mw_st (T.setVm vm₁) cA cB n.toNatClampNeg k.toNatClampNeg (defaultValue ty) n.toNatClampNeg) (locs ++ (List.range n.toNatClampNeg).map fun j => ⟨T.heap.size, j⟩) (cells + 1 + n.toNatClampNeg) (slots + n.toNatClampNeg + n.toNatClampNeg * k.toNatClampNeg) ∧
      ∀ target, Steps p.tables e below ((mw_st (T.setVm vm₁) cA cB n.toNatClampNeg k.toNatClampNeg (defaultValue ty) n.toNatClampNeg).setTop { g with pc := g.pc + 4, stack := .ref T.heap.size :: rest }) target → Steps p.tables e below (T.setTop g) target := by
  subst hg
  have hpl : e.platform.magicAccessors = ({} : Platform).magicAccessors := by rw [X.admits.platform]
  obtain ⟨cB, cA, kA, hB, -, hkA, hkindA, hA⟩ := arrayOverA_spec hover
  obtain ⟨cB', kB, cc, hB', hkB, hkindB⟩ := Cond.arrayClass_spec harr
  obtain rfl : cB' = cB := Option.some.inj (hB'.symm.trans hB)
  obtain ⟨c0, hfc0, hcl⟩ := Cond.classLink_spec hown hclink e.platform hpl
  obtain rfl : c0 = cA := Option.some.inj (hfc0.symm.trans hA)
  obtain ⟨hg₁, hwarm₁, hready₁⟩ := State.classEntry (e := e) X.warmed hcl
  generalize T.vm.noted g.method.cls index (.cls c0) = vm₁ at hg₁ hwarm₁ hready₁
  obtain ⟨kA₁, hkA₁, heA⟩ := hwarm₁.alike.2.2 _ _ hkA
  obtain ⟨kB₁, hkB₁, heB⟩ := hwarm₁.alike.2.2 _ _ hkB
  have X₁ := X.noted hwarm₁
  obtain ⟨hr1, hr2⟩ := X.roomAbove hcells hslots
  refine ⟨vm₁, c0, cB', hA, hB, mw_stand X₁ c0 cB' _ _ _ _, fun target hrest => ?_⟩
  have hl1 : ¬ n.toNatClampNeg > e.platform.arrayLengthLimit := by rw [Launch.admits_arrayLengthLimit X.admits]; omega
  have hh1 : ¬ n.toNatClampNeg * componentBytes (.array ty) > e.platform.maxHeapBytes := by
    rw [Launch.admits_maxHeapBytes X.admits]; show ¬ n.toNatClampNeg * 4 > 536870912; omega
  have hl2 : ¬ k.toNatClampNeg > e.platform.arrayLengthLimit := by rw [Launch.admits_arrayLengthLimit X.admits]; omega
  have hh2 : ¬ k.toNatClampNeg * componentBytes ty > e.platform.maxHeapBytes := by rw [Launch.admits_maxHeapBytes X.admits]; omega
  jvm_step X.here [hexec, hdg]
  simp only [multianewarray.sem, wp_bind', Jvm.W.resolveClassAt_links (State.method?_setTop g X.here.top) hg₁]
  rw [Jvm.W.popN, if_neg (by decide)]
  refine ⟨g, State.topJava?_setTop' (s := T.setVm vm₁) g X.here.top, [.int n, .int k], rest, rfl, hstack, ?_⟩
  simp only [List.mapM_cons, List.mapM_nil, wp_bind', wp_pure']
  refine mw_make (kA := kA₁) (kB := kB₁) (cB := cB') (cc := cc) (t0 := .array ty) (ty := ty) hkA₁ (by rw [heA]; exact hkindA) rfl hkB₁ (by rw [heB]; exact hkindB) hn hk hl1 hh1 hl2 hh2 hdf (by show T.heap.size + 1 + _ ≤ _; omega) (by show T.slotsUsed + _ + _ ≤ _; omega) (fun d' acts' => ?_)
  have XF := mw_stand X₁ c0 cB' n.toNatClampNeg k.toNatClampNeg (defaultValue ty) n.toNatClampNeg
  have eS : ((T.setTop g).setVm vm₁).setTop { g with stack := rest } = (T.setVm vm₁).setTop { g with stack := rest } := by
    show ((T.setVm vm₁).setTop g).setTop _ = _
    rw [State.setTop_setTop]
  rw [eS, mw_setTop]
  simp only [wp_bind', Jvm.W.mark, Jvm.W.pushRef, State.topJava?_setTop' _ XF.here.top, Option.some.injEq, exists_eq_left', State.setTop_setTop, State.heap_setTop]
  intro acts
  simp [jvm, XF.here.top]
  exact hrest
end MWS
end
section
/-! Cells that came all at once, into the pool. -/
theorem pw_move {D : va_G} {A : Nat → Prop} {H0 H H1 : Heap} {L : List Nat} {f : Nat → va_E} {locs locs1 : List Loc} (hw : pw_W D A H0 L f H locs) (hsz : H.size ≤ H1.size) (hk : ∀ q : Nat, q < H.size → H1[q]? = H[q]?) (hl : ∀ x ∈ locs1, A x.base) : pw_W D A H0 L f H1 locs1 :=
  ⟨hw.1.kept (fun k q hq => hk q.1 ((hw.1 k q hq).lt)), hw.2.1, ⟨Nat.le_trans hw.2.2.1.1 hsz, fun q h1 h2 => (hk q (Nat.lt_of_lt_of_le h1 hw.2.2.1.1)).trans (hw.2.2.1.2.1 q h1 h2), hl⟩, hw.2.2.2⟩
theorem pw_grow1 {D : va_G} {A : Nat → Prop} {H0 H : Heap} {L : List Nat} {f : Nat → va_E} {locs : List Loc} {q : Nat} {e : va_E} (hw : pw_W D A H0 L f H locs) (hq : q ∉ L) (he : va_at D vwCl (q, e) H) (hA : A q) : pw_W D A H0 (L ++ [q]) (va_up f q e) H locs := by
  have h1 : va_P D vwCl (va_pl L f ++ [(q, e)]) H := hw.1.app (fun k x hx => by
    have hz : k < 1 := (List.getElem?_eq_some_iff.mp hx).1
    rw [show k = 0 by omega] at hx
    cases hx
    exact he)
  have h2 : va_D A (va_pl L f ++ [(q, e)]) := va_D.app hw.2.1 ⟨fun i j x y hx hy _ => by
      have h3 : i < 1 := (List.getElem?_eq_some_iff.mp hx).1
      have h4 : j < 1 := (List.getElem?_eq_some_iff.mp hy).1
      omega, fun k x hx => by
      have hz : k < 1 := (List.getElem?_eq_some_iff.mp hx).1
      rw [show k = 0 by omega] at hx
      cases hx
      exact hA⟩ (fun i j x y hx hy hxy => by
    have hz : j < 1 := (List.getElem?_eq_some_iff.mp hy).1
    rw [show j = 0 by omega] at hy
    cases hy
    have h3 : x ∈ va_pl L f := List.mem_of_getElem? hx
    obtain ⟨a, ha, hax⟩ := List.mem_map.mp h3
    rw [← hax] at hxy
    exact hq (by rw [← show a = q from hxy]; exact ha))
  rw [va_pl_push hq] at h1 h2
  exact ⟨h1, h2, hw.2.2.1, hw.2.2.2⟩
theorem pw_growN {D : va_G} {A : Nat → Prop} {H0 H : Heap} {locs : List Loc} {h0 ci : Nat} {L0 : List Nat} {f0 : Nat → va_E} {fs : List Value} : ∀ (ns : List (Nat × va_E)) {L : List Nat} {f : Nat → va_E} {news : List (Nat × va_E)}, pw_W D A H0 L f H locs → pw_N h0 ci L0 f0 L f fs news → (∀ x ∈ ns, x.1 ∉ L) → (ns.map Prod.fst).Nodup → (∀ x ∈ ns, va_at D vwCl x H ∧ A x.1) →
    ∃ (L1 : List Nat) (f1 : Nat → va_E), pw_W D A H0 L1 f1 H locs ∧ pw_N h0 ci L0 f0 L1 f1 fs (news ++ ns)
  | [], L, f, news, hw, hN, _, _, _ => ⟨L, f, hw, by rw [List.append_nil]; exact hN⟩
  | (q, e) :: ns, L, f, news, hw, hN, hq, hd, ha => by
    have hq0 : q ∉ L := hq (q, e) List.mem_cons_self
    have hd2 := List.nodup_cons.mp hd
    obtain ⟨L1, f1, h1, h2⟩ := pw_growN ns (pw_grow1 hw hq0 (ha (q, e) List.mem_cons_self).1 (ha (q, e) List.mem_cons_self).2) (hN.new hq0) (fun x hx h3 => by
      rcases List.mem_append.mp h3 with h4 | h4
      · exact hq x (List.mem_cons_of_mem _ hx) h4
      · exact hd2.1 (by rw [← List.mem_singleton.mp h4]; exact List.mem_map.mpr ⟨x, hx, rfl⟩)) hd2.2 (fun x hx => ha x (List.mem_cons_of_mem _ hx))
    exact ⟨L1, f1, h1, by rw [List.append_cons]; exact h2⟩
section PWA
variable {p : Program} {l : Launch} {e : Env} {R : Room} {s : State} {m : MethodId} {args : Array Value} {below : List Frame} {meth : Method} {c : Code} {H : Heap} {locs : List Loc} {cells slots : Nat} {Q : State → Prop}
variable {cc : ByteArray} {pc : Nat} {ls : Array Slot} {rest : List Value} {D : va_G} {cy : Nat → ClassId} {A : Nat → Prop} {h0 ci : Nat} {H0 : Heap} {L0 L : List Nat} {f0 f : Nat → va_E} {fs : List Value} {news : List (Nat × va_E)}
/-- new T[n][]: an array of arrays, empty -/
theorem pw_cnewA (hexec : p.tables.exec = Jvm.exec) (hb : c.code = cc) {own nm : String} {index t0 : Nat} {t : FieldType} {cA : ClassId} (hown : s.vm.findClass own = some m.cls) (hnm : (FieldType.array t).toString = nm) (hclink : (Cond.classLink own index nm).before args s = true) (hover : pw_AA t s) (hG : pw_G D cy s) (ht : (pw_T cy)[t0]? = some (cA, .array t)) (hw : pw_W D A H0 L f H locs) (hN : pw_N h0 ci L0 f0 L f fs news)
    {n : Int32} {N' : Nat} (hn : ¬ n < 0) (hN' : n.toNatClampNeg = N') (hbytes : N' * 4 ≤ 536870912) (hcells : cells + 1 ≤ R.cells) (hslots : slots + N' ≤ R.slots) (hdg : decode cc pc = .ok (.anewarray index, 3))
    (kk : ∀ (q : Nat) (L1 : List Nat) (f1 : Nat → va_E) (H1 : Heap), pw_W D A H0 L1 f1 H1 locs → pw_N h0 ci L0 f0 L1 f1 fs (news ++ [(q, .inl (cA, N', .inr (.inr (.inr (.inr (fun _ => none))))))]) → W p l e R s m args below meth c H1 locs (cells + 1) (slots + N') Q (F0 m (pc + 3) ls (.ref q :: rest))) : W p l e R s m args below meth c H locs cells slots Q (F0 m pc ls (.int n :: rest)) := by
  subst hN'
  subst hnm
  refine W.anewA hexec hb hown hclink hover rfl hdg rfl hn hbytes hcells hslots fun cA1 kA comp f1 f2 f3 f4 => ?_
  have hcA : cA1 = cA := Option.some.inj (f1.symm.trans (hG.1.2 t0 _ ht).2)
  subst hcA
  generalize hH1 : H.push ({ cls := cA1, slots := Array.replicate n.toNatClampNeg .null, vm := .none } : Cell) = H1
  have z1 : H1.size = H.size + 1 := by rw [← hH1, Array.size_push]
  have e1 : H1[H.size]? = some (arrV cA1 n.toNatClampNeg (fun _ => .null)) := by rw [← hH1, Array.getElem?_push_size, ← arrV_new]
  have o1 : ∀ q : Nat, q < H.size → H1[q]? = H[q]? := fun q hq => by rw [← hH1, Array.getElem?_push, if_neg (Nat.ne_of_lt hq)]
  have hq : H.size ∉ L := fun h => Nat.lt_irrefl _ (pw_lt hw h)
  have hw1 := pw_grow1 (e := .inl (cA1, n.toNatClampNeg, .inr (.inr (.inr (.inr (fun _ => none)))))) (pw_move hw (by omega) o1 hw.2.2.1.2.2) hq (by show H1[H.size]? = some (vp_cell _ _); rw [vp_cell_q]; exact e1) (hw.2.2.2 _ hw.2.2.1.1)
  exact kk H.size _ _ H1 hw1 (hN.new hq)
/-- new T[n][k] -/
theorem pw_cmna (hexec : p.tables.exec = Jvm.exec) (hb : c.code = cc) {own nm : String} {index t0 t1 : Nat} {ty : FieldType} {cA cB : ClassId} (hown : s.vm.findClass own = some m.cls) (hnm : "[" ++ (FieldType.array ty).toString = nm) (hclink : (Cond.classLink own index nm).before args s = true) (hover : pw_AA ty s) (harr : (Cond.arrayClass ty).before args s = true) (hG : pw_G D cy s) (ht : (pw_T cy)[t0]? = some (cA, .array ty)) (ht1 : (pw_T cy)[t1]? = some (cB, ty)) (hra : ∀ U : State, va_RA U cB ty → U.vm.findClass (FieldType.array ty).toString = some cB) (hw : pw_W D A s.heap L f H locs) (hN : pw_N h0 ci L0 f0 L f fs news)
    {n k : Int32} {N' K' : Nat} {a0 : vp_A} (ha : ∀ cX : ClassId, vp_cell cX a0 = arrV cX K' (fun _ => defaultValue ty)) (hn : ¬ n < 0) (hk : ¬ k < 0) (hN' : n.toNatClampNeg = N') (hK' : k.toNatClampNeg = K') (hb1 : N' * 4 ≤ 536870912) (hb2 : K' * componentBytes ty ≤ 536870912) (hb3 : K' ≤ 536870912) (hdf : fits ty (defaultValue ty) = true) (hcells : cells + (1 + N') ≤ R.cells) (hslots : slots + (N' + N' * K') ≤ R.slots) (hdg : decode cc pc = .ok (.multianewarray index 2, 4))
    (kk : ∀ (q : Nat) (L1 : List Nat) (f1 : Nat → va_E) (H1 : Heap) (locs1 : List Loc), pw_W D A s.heap L1 f1 H1 locs1 → pw_N h0 ci L0 f0 L1 f1 fs (news ++ (q, .inl (cA, N', .inr (.inr (.inr (.inr (fun j => if j < N' then some (q + 1 + j) else none)))))) :: (List.range N').map (fun j => (q + 1 + j, .inl (cB, a0)))) → W p l e R s m args below meth c H1 locs1 (cells + 1 + N') (slots + N' + N' * K') Q (F0 m (pc + 4) ls (.ref q :: rest))) : W p l e R s m args below meth c H locs cells slots Q (F0 m pc ls (.int k :: .int n :: rest)) := by
  subst hN'
  subst hK'
  subst hnm
  intro T hT X
  obtain ⟨vm₁, cA1, cB1, fA, fB, X', step⟩ := mw_step X hexec hown hclink hover harr (g := F0 m pc ls (.int k :: .int n :: rest)) rfl (by rw [hb]; exact hdg) rfl hn hk hb1 hb2 hb3 hdf hcells hslots
  have hcA : cA1 = cA := Option.some.inj (fA.symm.trans (hG.1.2 t0 _ ht).2)
  have hcB : cB1 = cB := Option.some.inj (fB.symm.trans (hra s (hG.1.2 t1 _ ht1).2))
  subst hcA
  subst hcB
  have hTs : (T.setVm vm₁).heap.size = H.size := by show T.heap.size = _; rw [hT]
  have f1 := mw_size (T.setVm vm₁) cA1 cB1 n.toNatClampNeg k.toNatClampNeg (defaultValue ty) n.toNatClampNeg
  have f2 := mw_top (T.setVm vm₁) cA1 cB1 n.toNatClampNeg k.toNatClampNeg (defaultValue ty) n.toNatClampNeg
  have f3 : ∀ a : Nat, a < H.size → (mw_st (T.setVm vm₁) cA1 cB1 n.toNatClampNeg k.toNatClampNeg (defaultValue ty) n.toNatClampNeg).heap[a]? = H[a]? := fun a h => by
    rw [mw_old (T.setVm vm₁) cA1 cB1 _ _ _ (by rw [hTs]; exact h)]
    show T.heap[a]? = _
    rw [hT]
  have f4 := mw_row (T.setVm vm₁) cA1 cB1 n.toNatClampNeg k.toNatClampNeg (defaultValue ty) n.toNatClampNeg
  rw [hTs] at f1 f2 f4
  have hTh : T.heap.size = H.size := by rw [hT]
  rw [hTh] at X' step
  generalize mw_st (T.setVm vm₁) cA1 cB1 n.toNatClampNeg k.toNatClampNeg (defaultValue ty) n.toNatClampNeg = T1 at f1 f2 f3 f4 X' step
  have hAH : ∀ q : Nat, H.size ≤ q → A q := fun q h => hw.2.2.2 q (Nat.le_trans hw.2.2.1.1 h)
  have hw1 : pw_W D A s.heap L f T1.heap (locs ++ (List.range n.toNatClampNeg).map fun j => (⟨H.size, j⟩ : Loc)) := pw_move hw (by omega) f3 (fun x hx => by
    rcases List.mem_append.mp hx with h | h
    · exact hw.2.2.1.2.2 x h
    · obtain ⟨j, -, rfl⟩ := List.mem_map.mp h
      exact hAH _ (Nat.le_refl _))
  obtain ⟨L1, f5, h1, h2⟩ := pw_growN ((H.size, .inl (cA1, n.toNatClampNeg, .inr (.inr (.inr (.inr (fun j => if j < n.toNatClampNeg then some (H.size + 1 + j) else none)))))) :: (List.range n.toNatClampNeg).map (fun j => (H.size + 1 + j, .inl (cB1, a0)))) hw1 hN
    (fun x hx h => by
      have h3 := pw_lt hw h
      rcases List.mem_cons.mp hx with rfl | hx
      · exact Nat.lt_irrefl _ h3
      · obtain ⟨j, -, rfl⟩ := List.mem_map.mp hx
        dsimp only at h3
        omega)
    (by
      rw [List.map_cons, List.map_map, List.nodup_cons]
      refine ⟨fun h => ?_, ?_⟩
      · obtain ⟨j, -, hj⟩ := List.mem_map.mp h
        have hj : H.size + 1 + j = H.size := hj
        omega
      · refine List.Pairwise.map _ (fun a b hab => ?_) (List.nodup_range (n := n.toNatClampNeg))
        show H.size + 1 + a ≠ H.size + 1 + b
        omega)
    (fun x hx => by
      rcases List.mem_cons.mp hx with rfl | hx
      · refine ⟨?_, hAH _ (Nat.le_refl _)⟩
        show T1.heap[H.size]? = some (vp_cell _ _)
        rw [f2, vp_cell_q]
        refine congrArg some ?_
        unfold mw_out
        refine congrArg (arrV cA1 _) (funext fun j => ?_)
        by_cases hj : j < n.toNatClampNeg
        · simp [hj, va_rf]
        · simp [hj, va_rf]
      · obtain ⟨j, hj, rfl⟩ := List.mem_map.mp hx
        refine ⟨?_, hAH _ (by show H.size ≤ H.size + 1 + j; omega)⟩
        show T1.heap[H.size + 1 + j]? = some (vp_cell _ _)
        rw [f4 j (List.mem_range.mp hj), ha]
        unfold mw_in
        rw [arrV_new])
  obtain ⟨t, a1, b1⟩ := kk H.size L1 f5 T1.heap _ h1 h2 T1 rfl X'
  exact ⟨t, step t a1, b1⟩
end PWA
end
section
theorem dX0_init_0 : decode cX0_init 0 = .ok (.aload_n 0, 1) := by decide +kernel
theorem dX0_init_1 : decode cX0_init 1 = .ok (.invokespecial 3, 3) := by decide +kernel
theorem dX0_init_4 : decode cX0_init 4 = .ok (.aload_n 0, 1) := by decide +kernel
theorem dX0_init_5 : decode cX0_init 5 = .ok (.sipush 18432, 3) := by decide +kernel
theorem dX0_init_8 : decode cX0_init 8 = .ok (.newarray .int, 2) := by decide +kernel
theorem dX0_init_10 : decode cX0_init 10 = .ok (.putfield 9, 3) := by decide +kernel
theorem dX0_init_13 : decode cX0_init 13 = .ok (.aload_n 0, 1) := by decide +kernel
theorem dX0_init_14 : decode cX0_init 14 = .ok (.sipush 18432, 3) := by decide +kernel
theorem dX0_init_17 : decode cX0_init 17 = .ok (.newarray .int, 2) := by decide +kernel
theorem dX0_init_19 : decode cX0_init 19 = .ok (.putfield 15, 3) := by decide +kernel
theorem dX0_init_22 : decode cX0_init 22 = .ok (.aload_n 0, 1) := by decide +kernel
theorem dX0_init_23 : decode cX0_init 23 = .ok (.sipush 3000, 3) := by decide +kernel
theorem dX0_init_26 : decode cX0_init 26 = .ok (.newarray .int, 2) := by decide +kernel
theorem dX0_init_28 : decode cX0_init 28 = .ok (.putfield 18, 3) := by decide +kernel
theorem dX0_init_31 : decode cX0_init 31 = .ok (.aload_n 0, 1) := by decide +kernel
theorem dX0_init_32 : decode cX0_init 32 = .ok (.sipush 3000, 3) := by decide +kernel
theorem dX0_init_35 : decode cX0_init 35 = .ok (.newarray .int, 2) := by decide +kernel
theorem dX0_init_37 : decode cX0_init 37 = .ok (.putfield 21, 3) := by decide +kernel
theorem dX0_init_40 : decode cX0_init 40 = .ok (.aload_n 0, 1) := by decide +kernel
theorem dX0_init_41 : decode cX0_init 41 = .ok (.sipush 9000, 3) := by decide +kernel
theorem dX0_init_44 : decode cX0_init 44 = .ok (.newarray .int, 2) := by decide +kernel
theorem dX0_init_46 : decode cX0_init 46 = .ok (.putfield 24, 3) := by decide +kernel
theorem dX0_init_49 : decode cX0_init 49 = .ok (.aload_n 0, 1) := by decide +kernel
theorem dX0_init_50 : decode cX0_init 50 = .ok (.sipush 9000, 3) := by decide +kernel
theorem dX0_init_53 : decode cX0_init 53 = .ok (.newarray .int, 2) := by decide +kernel
theorem dX0_init_55 : decode cX0_init 55 = .ok (.putfield 27, 3) := by decide +kernel
theorem dX0_init_58 : decode cX0_init 58 = .ok (.aload_n 0, 1) := by decide +kernel
theorem dX0_init_59 : decode cX0_init 59 = .ok (.ldc 30, 2) := by decide +kernel
theorem dX0_init_61 : decode cX0_init 61 = .ok (.newarray .int, 2) := by decide +kernel
theorem dX0_init_63 : decode cX0_init 63 = .ok (.putfield 31, 3) := by decide +kernel
theorem dX0_init_66 : decode cX0_init 66 = .ok (.aload_n 0, 1) := by decide +kernel
theorem dX0_init_67 : decode cX0_init 67 = .ok (.bipush 33, 2) := by decide +kernel
theorem dX0_init_69 : decode cX0_init 69 = .ok (.newarray .int, 2) := by decide +kernel
theorem dX0_init_71 : decode cX0_init 71 = .ok (.putfield 34, 3) := by decide +kernel
theorem dX0_init_74 : decode cX0_init 74 = .ok (.aload_n 0, 1) := by decide +kernel
theorem dX0_init_75 : decode cX0_init 75 = .ok (.sipush 384, 3) := by decide +kernel
theorem dX0_init_78 : decode cX0_init 78 = .ok (.newarray .int, 2) := by decide +kernel
theorem dX0_init_80 : decode cX0_init 80 = .ok (.putfield 37, 3) := by decide +kernel
theorem dX0_init_83 : decode cX0_init 83 = .ok (.aload_n 0, 1) := by decide +kernel
theorem dX0_init_84 : decode cX0_init 84 = .ok (.iconst 4, 1) := by decide +kernel
theorem dX0_init_85 : decode cX0_init 85 = .ok (.newarray .int, 2) := by decide +kernel
theorem dX0_init_87 : decode cX0_init 87 = .ok (.putfield 40, 3) := by decide +kernel
theorem dX0_init_90 : decode cX0_init 90 = .ok (.aload_n 0, 1) := by decide +kernel
theorem dX0_init_91 : decode cX0_init 91 = .ok (.iconst 4, 1) := by decide +kernel
theorem dX0_init_92 : decode cX0_init 92 = .ok (.newarray .int, 2) := by decide +kernel
theorem dX0_init_94 : decode cX0_init 94 = .ok (.putfield 43, 3) := by decide +kernel
theorem dX0_init_97 : decode cX0_init 97 = .ok (.aload_n 0, 1) := by decide +kernel
theorem dX0_init_98 : decode cX0_init 98 = .ok (.iconst 4, 1) := by decide +kernel
theorem dX0_init_99 : decode cX0_init 99 = .ok (.newarray .int, 2) := by decide +kernel
theorem dX0_init_101 : decode cX0_init 101 = .ok (.putfield 46, 3) := by decide +kernel
theorem dX0_init_104 : decode cX0_init 104 = .ok (.aload_n 0, 1) := by decide +kernel
theorem dX0_init_105 : decode cX0_init 105 = .ok (.aload_n 1, 1) := by decide +kernel
theorem dX0_init_106 : decode cX0_init 106 = .ok (.putfield 49, 3) := by decide +kernel
theorem dX0_init_109 : decode cX0_init 109 = .ok (.return_, 1) := by decide +kernel
set_option maxRecDepth 20000 in
theorem ggX1_init_X9_init : GoodIn wsX1_init wsX9_init := goodIn_r _ [21, 22, 2, 3, 23, 24, 4, 25, 26, 46, 47, 48, 49, 50, 51, 52, 53, 54, 55] (by decide +kernel) (by decide +kernel)
set_option maxRecDepth 20000 in
theorem gX1_init_X9_init_n32 : GoodIn wsX1_init (wsX9_init) := ggX1_init_X9_init
theorem dX1_init_0 : decode cX1_init 0 = .ok (.aload_n 0, 1) := by decide +kernel
theorem dX1_init_1 : decode cX1_init 1 = .ok (.invokespecial 3, 3) := by decide +kernel
theorem dX1_init_4 : decode cX1_init 4 = .ok (.aload_n 0, 1) := by decide +kernel
theorem dX1_init_5 : decode cX1_init 5 = .ok (.sipush 1536, 3) := by decide +kernel
theorem dX1_init_8 : decode cX1_init 8 = .ok (.newarray .int, 2) := by decide +kernel
theorem dX1_init_10 : decode cX1_init 10 = .ok (.putfield 9, 3) := by decide +kernel
theorem dX1_init_13 : decode cX1_init 13 = .ok (.aload_n 0, 1) := by decide +kernel
theorem dX1_init_14 : decode cX1_init 14 = .ok (.bipush 24, 2) := by decide +kernel
theorem dX1_init_16 : decode cX1_init 16 = .ok (.newarray .int, 2) := by decide +kernel
theorem dX1_init_18 : decode cX1_init 18 = .ok (.putfield 15, 3) := by decide +kernel
theorem dX1_init_21 : decode cX1_init 21 = .ok (.aload_n 0, 1) := by decide +kernel
theorem dX1_init_22 : decode cX1_init 22 = .ok (.bipush 24, 2) := by decide +kernel
theorem dX1_init_24 : decode cX1_init 24 = .ok (.newarray .int, 2) := by decide +kernel
theorem dX1_init_26 : decode cX1_init 26 = .ok (.putfield 18, 3) := by decide +kernel
theorem dX1_init_29 : decode cX1_init 29 = .ok (.aload_n 0, 1) := by decide +kernel
theorem dX1_init_30 : decode cX1_init 30 = .ok (.bipush 100, 2) := by decide +kernel
theorem dX1_init_32 : decode cX1_init 32 = .ok (.anewarray 21, 3) := by decide +kernel
theorem dX1_init_35 : decode cX1_init 35 = .ok (.putfield 23, 3) := by decide +kernel
theorem dX1_init_38 : decode cX1_init 38 = .ok (.aload_n 0, 1) := by decide +kernel
theorem dX1_init_39 : decode cX1_init 39 = .ok (.bipush 100, 2) := by decide +kernel
theorem dX1_init_41 : decode cX1_init 41 = .ok (.newarray .int, 2) := by decide +kernel
theorem dX1_init_43 : decode cX1_init 43 = .ok (.putfield 27, 3) := by decide +kernel
theorem dX1_init_46 : decode cX1_init 46 = .ok (.aload_n 0, 1) := by decide +kernel
theorem dX1_init_47 : decode cX1_init 47 = .ok (.new 30, 3) := by decide +kernel
theorem dX1_init_50 : decode cX1_init 50 = .ok (.dup, 1) := by decide +kernel
theorem dX1_init_51 : decode cX1_init 51 = .ok (.invokespecial 32, 3) := by decide +kernel
theorem dX1_init_54 : decode cX1_init 54 = .ok (.putfield 33, 3) := by decide +kernel
theorem dX1_init_57 : decode cX1_init 57 = .ok (.aload_n 0, 1) := by decide +kernel
theorem dX1_init_58 : decode cX1_init 58 = .ok (.bipush 24, 2) := by decide +kernel
theorem dX1_init_60 : decode cX1_init 60 = .ok (.newarray .int, 2) := by decide +kernel
theorem dX1_init_62 : decode cX1_init 62 = .ok (.putfield 37, 3) := by decide +kernel
theorem dX1_init_65 : decode cX1_init 65 = .ok (.aload_n 0, 1) := by decide +kernel
theorem dX1_init_66 : decode cX1_init 66 = .ok (.sipush 2400, 3) := by decide +kernel
theorem dX1_init_69 : decode cX1_init 69 = .ok (.newarray .int, 2) := by decide +kernel
theorem dX1_init_71 : decode cX1_init 71 = .ok (.putfield 40, 3) := by decide +kernel
theorem dX1_init_74 : decode cX1_init 74 = .ok (.aload_n 0, 1) := by decide +kernel
theorem dX1_init_75 : decode cX1_init 75 = .ok (.sipush 2400, 3) := by decide +kernel
theorem dX1_init_78 : decode cX1_init 78 = .ok (.newarray .int, 2) := by decide +kernel
theorem dX1_init_80 : decode cX1_init 80 = .ok (.putfield 43, 3) := by decide +kernel
theorem dX1_init_83 : decode cX1_init 83 = .ok (.aload_n 0, 1) := by decide +kernel
theorem dX1_init_84 : decode cX1_init 84 = .ok (.bipush 24, 2) := by decide +kernel
theorem dX1_init_86 : decode cX1_init 86 = .ok (.newarray .int, 2) := by decide +kernel
theorem dX1_init_88 : decode cX1_init 88 = .ok (.putfield 46, 3) := by decide +kernel
theorem dX1_init_91 : decode cX1_init 91 = .ok (.aload_n 0, 1) := by decide +kernel
theorem dX1_init_92 : decode cX1_init 92 = .ok (.aload_n 1, 1) := by decide +kernel
theorem dX1_init_93 : decode cX1_init 93 = .ok (.putfield 49, 3) := by decide +kernel
theorem dX1_init_96 : decode cX1_init 96 = .ok (.return_, 1) := by decide +kernel
theorem dX4_init_0 : decode cX4_init 0 = .ok (.aload_n 0, 1) := by decide +kernel
theorem dX4_init_1 : decode cX4_init 1 = .ok (.invokespecial 3, 3) := by decide +kernel
theorem dX4_init_4 : decode cX4_init 4 = .ok (.aload_n 0, 1) := by decide +kernel
theorem dX4_init_5 : decode cX4_init 5 = .ok (.iload_n 1, 1) := by decide +kernel
theorem dX4_init_6 : decode cX4_init 6 = .ok (.newarray .long, 2) := by decide +kernel
theorem dX4_init_8 : decode cX4_init 8 = .ok (.putfield 9, 3) := by decide +kernel
theorem dX4_init_11 : decode cX4_init 11 = .ok (.return_, 1) := by decide +kernel
theorem dX5_init_0 : decode cX5_init 0 = .ok (.aload_n 0, 1) := by decide +kernel
theorem dX5_init_1 : decode cX5_init 1 = .ok (.invokespecial 3, 3) := by decide +kernel
theorem dX5_init_4 : decode cX5_init 4 = .ok (.aload_n 0, 1) := by decide +kernel
theorem dX5_init_5 : decode cX5_init 5 = .ok (.bipush 96, 2) := by decide +kernel
theorem dX5_init_7 : decode cX5_init 7 = .ok (.newarray .boolean, 2) := by decide +kernel
theorem dX5_init_9 : decode cX5_init 9 = .ok (.putfield 9, 3) := by decide +kernel
theorem dX5_init_12 : decode cX5_init 12 = .ok (.aload_n 0, 1) := by decide +kernel
theorem dX5_init_13 : decode cX5_init 13 = .ok (.sipush 3000, 3) := by decide +kernel
theorem dX5_init_16 : decode cX5_init 16 = .ok (.newarray .long, 2) := by decide +kernel
theorem dX5_init_18 : decode cX5_init 18 = .ok (.putfield 17, 3) := by decide +kernel
theorem dX5_init_21 : decode cX5_init 21 = .ok (.aload_n 0, 1) := by decide +kernel
theorem dX5_init_22 : decode cX5_init 22 = .ok (.sipush 3000, 3) := by decide +kernel
theorem dX5_init_25 : decode cX5_init 25 = .ok (.newarray .boolean, 2) := by decide +kernel
theorem dX5_init_27 : decode cX5_init 27 = .ok (.putfield 21, 3) := by decide +kernel
theorem dX5_init_30 : decode cX5_init 30 = .ok (.aload_n 0, 1) := by decide +kernel
theorem dX5_init_31 : decode cX5_init 31 = .ok (.sipush 9000, 3) := by decide +kernel
theorem dX5_init_34 : decode cX5_init 34 = .ok (.newarray .int, 2) := by decide +kernel
theorem dX5_init_36 : decode cX5_init 36 = .ok (.putfield 24, 3) := by decide +kernel
theorem dX5_init_39 : decode cX5_init 39 = .ok (.aload_n 0, 1) := by decide +kernel
theorem dX5_init_40 : decode cX5_init 40 = .ok (.sipush 9000, 3) := by decide +kernel
theorem dX5_init_43 : decode cX5_init 43 = .ok (.newarray .int, 2) := by decide +kernel
theorem dX5_init_45 : decode cX5_init 45 = .ok (.putfield 28, 3) := by decide +kernel
theorem dX5_init_48 : decode cX5_init 48 = .ok (.aload_n 0, 1) := by decide +kernel
theorem dX5_init_49 : decode cX5_init 49 = .ok (.sipush 3000, 3) := by decide +kernel
theorem dX5_init_52 : decode cX5_init 52 = .ok (.newarray .int, 2) := by decide +kernel
theorem dX5_init_54 : decode cX5_init 54 = .ok (.putfield 31, 3) := by decide +kernel
theorem dX5_init_57 : decode cX5_init 57 = .ok (.aload_n 0, 1) := by decide +kernel
theorem dX5_init_58 : decode cX5_init 58 = .ok (.ldc 34, 2) := by decide +kernel
theorem dX5_init_60 : decode cX5_init 60 = .ok (.newarray .int, 2) := by decide +kernel
theorem dX5_init_62 : decode cX5_init 62 = .ok (.putfield 35, 3) := by decide +kernel
theorem dX5_init_65 : decode cX5_init 65 = .ok (.aload_n 0, 1) := by decide +kernel
theorem dX5_init_66 : decode cX5_init 66 = .ok (.ldc 34, 2) := by decide +kernel
theorem dX5_init_68 : decode cX5_init 68 = .ok (.newarray .int, 2) := by decide +kernel
theorem dX5_init_70 : decode cX5_init 70 = .ok (.putfield 38, 3) := by decide +kernel
theorem dX5_init_73 : decode cX5_init 73 = .ok (.aload_n 0, 1) := by decide +kernel
theorem dX5_init_74 : decode cX5_init 74 = .ok (.ldc 34, 2) := by decide +kernel
theorem dX5_init_76 : decode cX5_init 76 = .ok (.newarray .int, 2) := by decide +kernel
theorem dX5_init_78 : decode cX5_init 78 = .ok (.putfield 41, 3) := by decide +kernel
theorem dX5_init_81 : decode cX5_init 81 = .ok (.aload_n 0, 1) := by decide +kernel
theorem dX5_init_82 : decode cX5_init 82 = .ok (.bipush 16, 2) := by decide +kernel
theorem dX5_init_84 : decode cX5_init 84 = .ok (.newarray .int, 2) := by decide +kernel
theorem dX5_init_86 : decode cX5_init 86 = .ok (.putfield 44, 3) := by decide +kernel
theorem dX5_init_89 : decode cX5_init 89 = .ok (.aload_n 0, 1) := by decide +kernel
theorem dX5_init_90 : decode cX5_init 90 = .ok (.bipush 16, 2) := by decide +kernel
theorem dX5_init_92 : decode cX5_init 92 = .ok (.newarray .int, 2) := by decide +kernel
theorem dX5_init_94 : decode cX5_init 94 = .ok (.putfield 47, 3) := by decide +kernel
theorem dX5_init_97 : decode cX5_init 97 = .ok (.aload_n 0, 1) := by decide +kernel
theorem dX5_init_98 : decode cX5_init 98 = .ok (.sipush 244, 3) := by decide +kernel
theorem dX5_init_101 : decode cX5_init 101 = .ok (.newarray .int, 2) := by decide +kernel
theorem dX5_init_103 : decode cX5_init 103 = .ok (.putfield 50, 3) := by decide +kernel
theorem dX5_init_106 : decode cX5_init 106 = .ok (.aload_n 0, 1) := by decide +kernel
theorem dX5_init_107 : decode cX5_init 107 = .ok (.aload_n 1, 1) := by decide +kernel
theorem dX5_init_108 : decode cX5_init 108 = .ok (.putfield 53, 3) := by decide +kernel
theorem dX5_init_111 : decode cX5_init 111 = .ok (.aload_n 0, 1) := by decide +kernel
theorem dX5_init_112 : decode cX5_init 112 = .ok (.aload_n 2, 1) := by decide +kernel
theorem dX5_init_113 : decode cX5_init 113 = .ok (.putfield 57, 3) := by decide +kernel
theorem dX5_init_116 : decode cX5_init 116 = .ok (.return_, 1) := by decide +kernel
theorem dX6_init_0 : decode cX6_init 0 = .ok (.aload_n 0, 1) := by decide +kernel
theorem dX6_init_1 : decode cX6_init 1 = .ok (.invokespecial 3, 3) := by decide +kernel
theorem dX6_init_4 : decode cX6_init 4 = .ok (.aload_n 0, 1) := by decide +kernel
theorem dX6_init_5 : decode cX6_init 5 = .ok (.bipush 72, 2) := by decide +kernel
theorem dX6_init_7 : decode cX6_init 7 = .ok (.newarray .int, 2) := by decide +kernel
theorem dX6_init_9 : decode cX6_init 9 = .ok (.putfield 11, 3) := by decide +kernel
theorem dX6_init_12 : decode cX6_init 12 = .ok (.aload_n 0, 1) := by decide +kernel
theorem dX6_init_13 : decode cX6_init 13 = .ok (.bipush 25, 2) := by decide +kernel
theorem dX6_init_15 : decode cX6_init 15 = .ok (.newarray .int, 2) := by decide +kernel
theorem dX6_init_17 : decode cX6_init 17 = .ok (.putfield 17, 3) := by decide +kernel
theorem dX6_init_20 : decode cX6_init 20 = .ok (.aload_n 0, 1) := by decide +kernel
theorem dX6_init_21 : decode cX6_init 21 = .ok (.bipush 6, 2) := by decide +kernel
theorem dX6_init_23 : decode cX6_init 23 = .ok (.newarray .long, 2) := by decide +kernel
theorem dX6_init_25 : decode cX6_init 25 = .ok (.putfield 20, 3) := by decide +kernel
theorem dX6_init_28 : decode cX6_init 28 = .ok (.aload_n 0, 1) := by decide +kernel
theorem dX6_init_29 : decode cX6_init 29 = .ok (.bipush 40, 2) := by decide +kernel
theorem dX6_init_31 : decode cX6_init 31 = .ok (.newarray .int, 2) := by decide +kernel
theorem dX6_init_33 : decode cX6_init 33 = .ok (.putfield 24, 3) := by decide +kernel
theorem dX6_init_36 : decode cX6_init 36 = .ok (.aload_n 0, 1) := by decide +kernel
theorem dX6_init_37 : decode cX6_init 37 = .ok (.bipush 40, 2) := by decide +kernel
theorem dX6_init_39 : decode cX6_init 39 = .ok (.newarray .long, 2) := by decide +kernel
theorem dX6_init_41 : decode cX6_init 41 = .ok (.putfield 27, 3) := by decide +kernel
theorem dX6_init_44 : decode cX6_init 44 = .ok (.aload_n 0, 1) := by decide +kernel
theorem dX6_init_45 : decode cX6_init 45 = .ok (.bipush 41, 2) := by decide +kernel
theorem dX6_init_47 : decode cX6_init 47 = .ok (.newarray .long, 2) := by decide +kernel
theorem dX6_init_49 : decode cX6_init 49 = .ok (.putfield 30, 3) := by decide +kernel
theorem dX6_init_52 : decode cX6_init 52 = .ok (.aload_n 0, 1) := by decide +kernel
theorem dX6_init_53 : decode cX6_init 53 = .ok (.bipush 60, 2) := by decide +kernel
theorem dX6_init_55 : decode cX6_init 55 = .ok (.newarray .int, 2) := by decide +kernel
theorem dX6_init_57 : decode cX6_init 57 = .ok (.putfield 33, 3) := by decide +kernel
theorem dX6_init_60 : decode cX6_init 60 = .ok (.aload_n 0, 1) := by decide +kernel
theorem dX6_init_61 : decode cX6_init 61 = .ok (.bipush 60, 2) := by decide +kernel
theorem dX6_init_63 : decode cX6_init 63 = .ok (.newarray .int, 2) := by decide +kernel
theorem dX6_init_65 : decode cX6_init 65 = .ok (.putfield 36, 3) := by decide +kernel
theorem dX6_init_68 : decode cX6_init 68 = .ok (.aload_n 0, 1) := by decide +kernel
theorem dX6_init_69 : decode cX6_init 69 = .ok (.aload_n 1, 1) := by decide +kernel
theorem dX6_init_70 : decode cX6_init 70 = .ok (.putfield 39, 3) := by decide +kernel
theorem dX6_init_73 : decode cX6_init 73 = .ok (.aload_n 0, 1) := by decide +kernel
theorem dX6_init_74 : decode cX6_init 74 = .ok (.aload_n 2, 1) := by decide +kernel
theorem dX6_init_75 : decode cX6_init 75 = .ok (.putfield 43, 3) := by decide +kernel
theorem dX6_init_78 : decode cX6_init 78 = .ok (.return_, 1) := by decide +kernel
theorem dX7_init_0 : decode cX7_init 0 = .ok (.aload_n 0, 1) := by decide +kernel
theorem dX7_init_1 : decode cX7_init 1 = .ok (.invokespecial 3, 3) := by decide +kernel
theorem dX7_init_4 : decode cX7_init 4 = .ok (.aload_n 0, 1) := by decide +kernel
theorem dX7_init_5 : decode cX7_init 5 = .ok (.sipush 240, 3) := by decide +kernel
theorem dX7_init_8 : decode cX7_init 8 = .ok (.newarray .int, 2) := by decide +kernel
theorem dX7_init_10 : decode cX7_init 10 = .ok (.putfield 9, 3) := by decide +kernel
theorem dX7_init_13 : decode cX7_init 13 = .ok (.aload_n 0, 1) := by decide +kernel
theorem dX7_init_14 : decode cX7_init 14 = .ok (.bipush 60, 2) := by decide +kernel
theorem dX7_init_16 : decode cX7_init 16 = .ok (.newarray .int, 2) := by decide +kernel
theorem dX7_init_18 : decode cX7_init 18 = .ok (.putfield 15, 3) := by decide +kernel
theorem dX7_init_21 : decode cX7_init 21 = .ok (.aload_n 0, 1) := by decide +kernel
theorem dX7_init_22 : decode cX7_init 22 = .ok (.sipush 1440, 3) := by decide +kernel
theorem dX7_init_25 : decode cX7_init 25 = .ok (.newarray .int, 2) := by decide +kernel
theorem dX7_init_27 : decode cX7_init 27 = .ok (.putfield 18, 3) := by decide +kernel
theorem dX7_init_30 : decode cX7_init 30 = .ok (.aload_n 0, 1) := by decide +kernel
theorem dX7_init_31 : decode cX7_init 31 = .ok (.sipush 1440, 3) := by decide +kernel
theorem dX7_init_34 : decode cX7_init 34 = .ok (.newarray .int, 2) := by decide +kernel
theorem dX7_init_36 : decode cX7_init 36 = .ok (.putfield 21, 3) := by decide +kernel
theorem dX7_init_39 : decode cX7_init 39 = .ok (.aload_n 0, 1) := by decide +kernel
theorem dX7_init_40 : decode cX7_init 40 = .ok (.sipush 1440, 3) := by decide +kernel
theorem dX7_init_43 : decode cX7_init 43 = .ok (.newarray .int, 2) := by decide +kernel
theorem dX7_init_45 : decode cX7_init 45 = .ok (.putfield 24, 3) := by decide +kernel
theorem dX7_init_48 : decode cX7_init 48 = .ok (.aload_n 0, 1) := by decide +kernel
theorem dX7_init_49 : decode cX7_init 49 = .ok (.sipush 1440, 3) := by decide +kernel
theorem dX7_init_52 : decode cX7_init 52 = .ok (.newarray .int, 2) := by decide +kernel
theorem dX7_init_54 : decode cX7_init 54 = .ok (.putfield 27, 3) := by decide +kernel
theorem dX7_init_57 : decode cX7_init 57 = .ok (.aload_n 0, 1) := by decide +kernel
theorem dX7_init_58 : decode cX7_init 58 = .ok (.sipush 1440, 3) := by decide +kernel
theorem dX7_init_61 : decode cX7_init 61 = .ok (.newarray .int, 2) := by decide +kernel
theorem dX7_init_63 : decode cX7_init 63 = .ok (.putfield 30, 3) := by decide +kernel
theorem dX7_init_66 : decode cX7_init 66 = .ok (.aload_n 0, 1) := by decide +kernel
theorem dX7_init_67 : decode cX7_init 67 = .ok (.iconst 4, 1) := by decide +kernel
theorem dX7_init_68 : decode cX7_init 68 = .ok (.newarray .int, 2) := by decide +kernel
theorem dX7_init_70 : decode cX7_init 70 = .ok (.putfield 33, 3) := by decide +kernel
theorem dX7_init_73 : decode cX7_init 73 = .ok (.aload_n 0, 1) := by decide +kernel
theorem dX7_init_74 : decode cX7_init 74 = .ok (.iconst 4, 1) := by decide +kernel
theorem dX7_init_75 : decode cX7_init 75 = .ok (.newarray .int, 2) := by decide +kernel
theorem dX7_init_77 : decode cX7_init 77 = .ok (.putfield 36, 3) := by decide +kernel
theorem dX7_init_80 : decode cX7_init 80 = .ok (.aload_n 0, 1) := by decide +kernel
theorem dX7_init_81 : decode cX7_init 81 = .ok (.bipush 60, 2) := by decide +kernel
theorem dX7_init_83 : decode cX7_init 83 = .ok (.newarray .int, 2) := by decide +kernel
theorem dX7_init_85 : decode cX7_init 85 = .ok (.putfield 39, 3) := by decide +kernel
theorem dX7_init_88 : decode cX7_init 88 = .ok (.aload_n 0, 1) := by decide +kernel
theorem dX7_init_89 : decode cX7_init 89 = .ok (.bipush 60, 2) := by decide +kernel
theorem dX7_init_91 : decode cX7_init 91 = .ok (.newarray .int, 2) := by decide +kernel
theorem dX7_init_93 : decode cX7_init 93 = .ok (.putfield 42, 3) := by decide +kernel
theorem dX7_init_96 : decode cX7_init 96 = .ok (.aload_n 0, 1) := by decide +kernel
theorem dX7_init_97 : decode cX7_init 97 = .ok (.aload_n 1, 1) := by decide +kernel
theorem dX7_init_98 : decode cX7_init 98 = .ok (.putfield 45, 3) := by decide +kernel
theorem dX7_init_101 : decode cX7_init 101 = .ok (.return_, 1) := by decide +kernel
set_option maxRecDepth 20000 in
theorem ggX8_init_X4_init : GoodIn wsX8_init wsX4_init := goodIn_r _ [31, 32, 2, 3, 21, 33, 34, 35] (by decide +kernel) (by decide +kernel)
set_option maxRecDepth 20000 in
theorem gX8_init_X4_init : GoodIn wsX8_init (wsX4_init) := ggX8_init_X4_init
theorem dX8_init_0 : decode cX8_init 0 = .ok (.aload_n 0, 1) := by decide +kernel
theorem dX8_init_1 : decode cX8_init 1 = .ok (.invokespecial 7, 3) := by decide +kernel
theorem dX8_init_4 : decode cX8_init 4 = .ok (.aload_n 0, 1) := by decide +kernel
theorem dX8_init_5 : decode cX8_init 5 = .ok (.new 13, 3) := by decide +kernel
theorem dX8_init_8 : decode cX8_init 8 = .ok (.dup, 1) := by decide +kernel
theorem dX8_init_9 : decode cX8_init 9 = .ok (.bipush 32, 2) := by decide +kernel
theorem dX8_init_11 : decode cX8_init 11 = .ok (.invokespecial 15, 3) := by decide +kernel
theorem dX8_init_14 : decode cX8_init 14 = .ok (.putfield 18, 3) := by decide +kernel
theorem dX8_init_17 : decode cX8_init 17 = .ok (.aload_n 0, 1) := by decide +kernel
theorem dX8_init_18 : decode cX8_init 18 = .ok (.new 13, 3) := by decide +kernel
theorem dX8_init_21 : decode cX8_init 21 = .ok (.dup, 1) := by decide +kernel
theorem dX8_init_22 : decode cX8_init 22 = .ok (.bipush 96, 2) := by decide +kernel
theorem dX8_init_24 : decode cX8_init 24 = .ok (.invokespecial 15, 3) := by decide +kernel
theorem dX8_init_27 : decode cX8_init 27 = .ok (.putfield 22, 3) := by decide +kernel
theorem dX8_init_30 : decode cX8_init 30 = .ok (.aload_n 0, 1) := by decide +kernel
theorem dX8_init_31 : decode cX8_init 31 = .ok (.new 13, 3) := by decide +kernel
theorem dX8_init_34 : decode cX8_init 34 = .ok (.dup, 1) := by decide +kernel
theorem dX8_init_35 : decode cX8_init 35 = .ok (.bipush 8, 2) := by decide +kernel
theorem dX8_init_37 : decode cX8_init 37 = .ok (.invokespecial 15, 3) := by decide +kernel
theorem dX8_init_40 : decode cX8_init 40 = .ok (.putfield 25, 3) := by decide +kernel
theorem dX8_init_43 : decode cX8_init 43 = .ok (.aload_n 0, 1) := by decide +kernel
theorem dX8_init_44 : decode cX8_init 44 = .ok (.new 13, 3) := by decide +kernel
theorem dX8_init_47 : decode cX8_init 47 = .ok (.dup, 1) := by decide +kernel
theorem dX8_init_48 : decode cX8_init 48 = .ok (.bipush 8, 2) := by decide +kernel
theorem dX8_init_50 : decode cX8_init 50 = .ok (.invokespecial 15, 3) := by decide +kernel
theorem dX8_init_53 : decode cX8_init 53 = .ok (.putfield 28, 3) := by decide +kernel
theorem dX8_init_56 : decode cX8_init 56 = .ok (.aload_n 0, 1) := by decide +kernel
theorem dX8_init_57 : decode cX8_init 57 = .ok (.bipush 8, 2) := by decide +kernel
theorem dX8_init_59 : decode cX8_init 59 = .ok (.anewarray 3, 3) := by decide +kernel
theorem dX8_init_62 : decode cX8_init 62 = .ok (.putfield 31, 3) := by decide +kernel
theorem dX8_init_65 : decode cX8_init 65 = .ok (.aload_n 0, 1) := by decide +kernel
theorem dX8_init_66 : decode cX8_init 66 = .ok (.iconst (-1), 1) := by decide +kernel
theorem dX8_init_67 : decode cX8_init 67 = .ok (.putfield 35, 3) := by decide +kernel
theorem dX8_init_70 : decode cX8_init 70 = .ok (.aload_n 0, 1) := by decide +kernel
theorem dX8_init_71 : decode cX8_init 71 = .ok (.bipush 96, 2) := by decide +kernel
theorem dX8_init_73 : decode cX8_init 73 = .ok (.newarray .int, 2) := by decide +kernel
theorem dX8_init_75 : decode cX8_init 75 = .ok (.putfield 39, 3) := by decide +kernel
theorem dX8_init_78 : decode cX8_init 78 = .ok (.aload_n 0, 1) := by decide +kernel
theorem dX8_init_79 : decode cX8_init 79 = .ok (.bipush 96, 2) := by decide +kernel
theorem dX8_init_81 : decode cX8_init 81 = .ok (.newarray .int, 2) := by decide +kernel
theorem dX8_init_83 : decode cX8_init 83 = .ok (.putfield 43, 3) := by decide +kernel
theorem dX8_init_86 : decode cX8_init 86 = .ok (.aload_n 0, 1) := by decide +kernel
theorem dX8_init_87 : decode cX8_init 87 = .ok (.sipush 384, 3) := by decide +kernel
theorem dX8_init_90 : decode cX8_init 90 = .ok (.newarray .int, 2) := by decide +kernel
theorem dX8_init_92 : decode cX8_init 92 = .ok (.putfield 46, 3) := by decide +kernel
theorem dX8_init_95 : decode cX8_init 95 = .ok (.aload_n 0, 1) := by decide +kernel
theorem dX8_init_96 : decode cX8_init 96 = .ok (.bipush 96, 2) := by decide +kernel
theorem dX8_init_98 : decode cX8_init 98 = .ok (.newarray .int, 2) := by decide +kernel
theorem dX8_init_100 : decode cX8_init 100 = .ok (.putfield 49, 3) := by decide +kernel
theorem dX8_init_103 : decode cX8_init 103 = .ok (.aload_n 0, 1) := by decide +kernel
theorem dX8_init_104 : decode cX8_init 104 = .ok (.bipush 96, 2) := by decide +kernel
theorem dX8_init_106 : decode cX8_init 106 = .ok (.newarray .int, 2) := by decide +kernel
theorem dX8_init_108 : decode cX8_init 108 = .ok (.putfield 52, 3) := by decide +kernel
theorem dX8_init_111 : decode cX8_init 111 = .ok (.aload_n 0, 1) := by decide +kernel
theorem dX8_init_112 : decode cX8_init 112 = .ok (.sipush 3840, 3) := by decide +kernel
theorem dX8_init_115 : decode cX8_init 115 = .ok (.newarray .int, 2) := by decide +kernel
theorem dX8_init_117 : decode cX8_init 117 = .ok (.putfield 55, 3) := by decide +kernel
theorem dX8_init_120 : decode cX8_init 120 = .ok (.aload_n 0, 1) := by decide +kernel
theorem dX8_init_121 : decode cX8_init 121 = .ok (.sipush 3840, 3) := by decide +kernel
theorem dX8_init_124 : decode cX8_init 124 = .ok (.newarray .long, 2) := by decide +kernel
theorem dX8_init_126 : decode cX8_init 126 = .ok (.putfield 58, 3) := by decide +kernel
theorem dX8_init_129 : decode cX8_init 129 = .ok (.aload_n 0, 1) := by decide +kernel
theorem dX8_init_130 : decode cX8_init 130 = .ok (.bipush 64, 2) := by decide +kernel
theorem dX8_init_132 : decode cX8_init 132 = .ok (.newarray .long, 2) := by decide +kernel
theorem dX8_init_134 : decode cX8_init 134 = .ok (.putfield 62, 3) := by decide +kernel
theorem dX8_init_137 : decode cX8_init 137 = .ok (.aload_n 0, 1) := by decide +kernel
theorem dX8_init_138 : decode cX8_init 138 = .ok (.sipush 128, 3) := by decide +kernel
theorem dX8_init_141 : decode cX8_init 141 = .ok (.newarray .int, 2) := by decide +kernel
theorem dX8_init_143 : decode cX8_init 143 = .ok (.putfield 65, 3) := by decide +kernel
theorem dX8_init_146 : decode cX8_init 146 = .ok (.aload_n 0, 1) := by decide +kernel
theorem dX8_init_147 : decode cX8_init 147 = .ok (.sipush 12000, 3) := by decide +kernel
theorem dX8_init_150 : decode cX8_init 150 = .ok (.newarray .byte, 2) := by decide +kernel
theorem dX8_init_152 : decode cX8_init 152 = .ok (.putfield 68, 3) := by decide +kernel
theorem dX8_init_155 : decode cX8_init 155 = .ok (.aload_n 0, 1) := by decide +kernel
theorem dX8_init_156 : decode cX8_init 156 = .ok (.sipush 159, 3) := by decide +kernel
theorem dX8_init_159 : decode cX8_init 159 = .ok (.newarray .int, 2) := by decide +kernel
theorem dX8_init_161 : decode cX8_init 161 = .ok (.putfield 72, 3) := by decide +kernel
theorem dX8_init_164 : decode cX8_init 164 = .ok (.aload_n 0, 1) := by decide +kernel
theorem dX8_init_165 : decode cX8_init 165 = .ok (.bipush 60, 2) := by decide +kernel
theorem dX8_init_167 : decode cX8_init 167 = .ok (.newarray .int, 2) := by decide +kernel
theorem dX8_init_169 : decode cX8_init 169 = .ok (.putfield 75, 3) := by decide +kernel
theorem dX8_init_172 : decode cX8_init 172 = .ok (.return_, 1) := by decide +kernel
theorem dX9_init_0 : decode cX9_init 0 = .ok (.aload_n 0, 1) := by decide +kernel
theorem dX9_init_1 : decode cX9_init 1 = .ok (.invokespecial 3, 3) := by decide +kernel
theorem dX9_init_4 : decode cX9_init 4 = .ok (.aload_n 0, 1) := by decide +kernel
theorem dX9_init_5 : decode cX9_init 5 = .ok (.sipush 1000, 3) := by decide +kernel
theorem dX9_init_8 : decode cX9_init 8 = .ok (.newarray .byte, 2) := by decide +kernel
theorem dX9_init_10 : decode cX9_init 10 = .ok (.putfield 11, 3) := by decide +kernel
theorem dX9_init_13 : decode cX9_init 13 = .ok (.aload_n 0, 1) := by decide +kernel
theorem dX9_init_14 : decode cX9_init 14 = .ok (.bipush 24, 2) := by decide +kernel
theorem dX9_init_16 : decode cX9_init 16 = .ok (.newarray .int, 2) := by decide +kernel
theorem dX9_init_18 : decode cX9_init 18 = .ok (.putfield 15, 3) := by decide +kernel
theorem dX9_init_21 : decode cX9_init 21 = .ok (.aload_n 0, 1) := by decide +kernel
theorem dX9_init_22 : decode cX9_init 22 = .ok (.bipush 24, 2) := by decide +kernel
theorem dX9_init_24 : decode cX9_init 24 = .ok (.newarray .int, 2) := by decide +kernel
theorem dX9_init_26 : decode cX9_init 26 = .ok (.putfield 19, 3) := by decide +kernel
theorem dX9_init_29 : decode cX9_init 29 = .ok (.return_, 1) := by decide +kernel
theorem dX10_init_0 : decode cX10_init 0 = .ok (.aload_n 0, 1) := by decide +kernel
theorem dX10_init_1 : decode cX10_init 1 = .ok (.invokespecial 3, 3) := by decide +kernel
theorem dX10_init_4 : decode cX10_init 4 = .ok (.aload_n 0, 1) := by decide +kernel
theorem dX10_init_5 : decode cX10_init 5 = .ok (.sipush 300, 3) := by decide +kernel
theorem dX10_init_8 : decode cX10_init 8 = .ok (.newarray .int, 2) := by decide +kernel
theorem dX10_init_10 : decode cX10_init 10 = .ok (.putfield 11, 3) := by decide +kernel
theorem dX10_init_13 : decode cX10_init 13 = .ok (.aload_n 0, 1) := by decide +kernel
theorem dX10_init_14 : decode cX10_init 14 = .ok (.sipush 300, 3) := by decide +kernel
theorem dX10_init_17 : decode cX10_init 17 = .ok (.newarray .long, 2) := by decide +kernel
theorem dX10_init_19 : decode cX10_init 19 = .ok (.putfield 15, 3) := by decide +kernel
theorem dX10_init_22 : decode cX10_init 22 = .ok (.aload_n 0, 1) := by decide +kernel
theorem dX10_init_23 : decode cX10_init 23 = .ok (.sipush 300, 3) := by decide +kernel
theorem dX10_init_26 : decode cX10_init 26 = .ok (.newarray .int, 2) := by decide +kernel
theorem dX10_init_28 : decode cX10_init 28 = .ok (.putfield 19, 3) := by decide +kernel
theorem dX10_init_31 : decode cX10_init 31 = .ok (.aload_n 0, 1) := by decide +kernel
theorem dX10_init_32 : decode cX10_init 32 = .ok (.sipush 300, 3) := by decide +kernel
theorem dX10_init_35 : decode cX10_init 35 = .ok (.newarray .long, 2) := by decide +kernel
theorem dX10_init_37 : decode cX10_init 37 = .ok (.putfield 22, 3) := by decide +kernel
theorem dX10_init_40 : decode cX10_init 40 = .ok (.aload_n 0, 1) := by decide +kernel
theorem dX10_init_41 : decode cX10_init 41 = .ok (.sipush 240, 3) := by decide +kernel
theorem dX10_init_44 : decode cX10_init 44 = .ok (.newarray .int, 2) := by decide +kernel
theorem dX10_init_46 : decode cX10_init 46 = .ok (.putfield 25, 3) := by decide +kernel
theorem dX10_init_49 : decode cX10_init 49 = .ok (.aload_n 0, 1) := by decide +kernel
theorem dX10_init_50 : decode cX10_init 50 = .ok (.sipush 300, 3) := by decide +kernel
theorem dX10_init_53 : decode cX10_init 53 = .ok (.newarray .int, 2) := by decide +kernel
theorem dX10_init_55 : decode cX10_init 55 = .ok (.putfield 28, 3) := by decide +kernel
theorem dX10_init_58 : decode cX10_init 58 = .ok (.aload_n 0, 1) := by decide +kernel
theorem dX10_init_59 : decode cX10_init 59 = .ok (.sipush 300, 3) := by decide +kernel
theorem dX10_init_62 : decode cX10_init 62 = .ok (.newarray .int, 2) := by decide +kernel
theorem dX10_init_64 : decode cX10_init 64 = .ok (.putfield 31, 3) := by decide +kernel
theorem dX10_init_67 : decode cX10_init 67 = .ok (.aload_n 0, 1) := by decide +kernel
theorem dX10_init_68 : decode cX10_init 68 = .ok (.sipush 300, 3) := by decide +kernel
theorem dX10_init_71 : decode cX10_init 71 = .ok (.newarray .long, 2) := by decide +kernel
theorem dX10_init_73 : decode cX10_init 73 = .ok (.putfield 34, 3) := by decide +kernel
theorem dX10_init_76 : decode cX10_init 76 = .ok (.aload_n 0, 1) := by decide +kernel
theorem dX10_init_77 : decode cX10_init 77 = .ok (.sipush 300, 3) := by decide +kernel
theorem dX10_init_80 : decode cX10_init 80 = .ok (.newarray .int, 2) := by decide +kernel
theorem dX10_init_82 : decode cX10_init 82 = .ok (.putfield 37, 3) := by decide +kernel
theorem dX10_init_85 : decode cX10_init 85 = .ok (.aload_n 0, 1) := by decide +kernel
theorem dX10_init_86 : decode cX10_init 86 = .ok (.sipush 300, 3) := by decide +kernel
theorem dX10_init_89 : decode cX10_init 89 = .ok (.newarray .int, 2) := by decide +kernel
theorem dX10_init_91 : decode cX10_init 91 = .ok (.putfield 40, 3) := by decide +kernel
theorem dX10_init_94 : decode cX10_init 94 = .ok (.aload_n 0, 1) := by decide +kernel
theorem dX10_init_95 : decode cX10_init 95 = .ok (.sipush 300, 3) := by decide +kernel
theorem dX10_init_98 : decode cX10_init 98 = .ok (.newarray .int, 2) := by decide +kernel
theorem dX10_init_100 : decode cX10_init 100 = .ok (.putfield 43, 3) := by decide +kernel
theorem dX10_init_103 : decode cX10_init 103 = .ok (.aload_n 0, 1) := by decide +kernel
theorem dX10_init_104 : decode cX10_init 104 = .ok (.sipush 300, 3) := by decide +kernel
theorem dX10_init_107 : decode cX10_init 107 = .ok (.newarray .int, 2) := by decide +kernel
theorem dX10_init_109 : decode cX10_init 109 = .ok (.putfield 46, 3) := by decide +kernel
theorem dX10_init_112 : decode cX10_init 112 = .ok (.aload_n 0, 1) := by decide +kernel
theorem dX10_init_113 : decode cX10_init 113 = .ok (.sipush 301, 3) := by decide +kernel
theorem dX10_init_116 : decode cX10_init 116 = .ok (.newarray .int, 2) := by decide +kernel
theorem dX10_init_118 : decode cX10_init 118 = .ok (.putfield 49, 3) := by decide +kernel
theorem dX10_init_121 : decode cX10_init 121 = .ok (.aload_n 0, 1) := by decide +kernel
theorem dX10_init_122 : decode cX10_init 122 = .ok (.aload_n 1, 1) := by decide +kernel
theorem dX10_init_123 : decode cX10_init 123 = .ok (.putfield 52, 3) := by decide +kernel
theorem dX10_init_126 : decode cX10_init 126 = .ok (.return_, 1) := by decide +kernel
set_option maxRecDepth 20000 in
theorem ggX12_init_X8_init : GoodIn wsX12_init wsX8_init := goodIn_r _ [49, 50, 2, 3, 51, 52, 53, 54, 55, 56, 57, 58, 59, 60, 40, 61, 62, 63, 64, 65, 66, 67, 68, 69, 70, 44, 71, 72, 73, 74, 75, 76, 77, 78, 348, 349, 188, 189, 190, 191, 192, 193, 194, 195, 196, 197, 198, 199, 200, 201, 202, 203, 204, 205, 206, 207, 208] (by decide +kernel) (by decide +kernel)
set_option maxRecDepth 20000 in
theorem gX12_init_X8_init_n11 : GoodIn wsX12_init (wsX8_init) := ggX12_init_X8_init
set_option maxRecDepth 20000 in
theorem ggX12_init_X9_init : GoodIn wsX12_init wsX9_init := goodIn_r _ [80, 81, 2, 3, 44, 82, 40, 83, 84, 226, 227, 228, 229, 230, 231, 232, 233, 234, 235] (by decide +kernel) (by decide +kernel)
set_option maxRecDepth 20000 in
theorem gX12_init_X9_init_n18 : GoodIn wsX12_init (wsX9_init) := ggX12_init_X9_init
set_option maxRecDepth 20000 in
theorem ggX12_init_X6_init : GoodIn wsX12_init wsX6_init := goodIn_r _ [87, 88, 2, 3, 40, 89, 90, 67, 91, 92, 93, 94, 95, 96, 97, 98, 236, 237, 238, 239, 240, 241, 242, 243, 244, 245, 246, 247, 248, 249, 250, 251, 252, 253, 254] (by decide +kernel) (by decide +kernel)
set_option maxRecDepth 20000 in
theorem gX12_init_X6_init : GoodIn wsX12_init (wsX6_init) := ggX12_init_X6_init
set_option maxRecDepth 20000 in
theorem ggX12_init_X0_init : GoodIn wsX12_init wsX0_init := goodIn_r _ [101, 102, 2, 3, 40, 103, 104, 105, 106, 107, 108, 109, 110, 111, 112, 113, 114, 115, 116, 255, 256, 257, 258, 259, 260, 261, 262, 263, 264, 265, 266, 267, 268, 269, 270, 271, 272, 273, 274, 275, 276] (by decide +kernel) (by decide +kernel)
set_option maxRecDepth 20000 in
theorem gX12_init_X0_init : GoodIn wsX12_init (wsX0_init) := ggX12_init_X0_init
set_option maxRecDepth 20000 in
theorem ggX12_init_X5_init : GoodIn wsX12_init wsX5_init := goodIn_r _ [119, 120, 2, 3, 121, 122, 67, 123, 124, 40, 125, 126, 127, 128, 129, 130, 131, 132, 133, 134, 135, 136, 277, 278, 279, 280, 281, 282, 283, 284, 285, 286, 287, 288, 289, 290, 291, 292, 293, 294, 295] (by decide +kernel) (by decide +kernel)
set_option maxRecDepth 20000 in
theorem gX12_init_X5_init : GoodIn wsX12_init (wsX5_init) := ggX12_init_X5_init
set_option maxRecDepth 20000 in
theorem ggX12_init_X7_init : GoodIn wsX12_init wsX7_init := goodIn_r _ [139, 140, 2, 3, 40, 141, 142, 143, 144, 145, 146, 147, 148, 149, 150, 151, 152, 296, 297, 298, 299, 300, 301, 302, 303, 304, 305, 306, 307, 308, 309] (by decide +kernel) (by decide +kernel)
set_option maxRecDepth 20000 in
theorem gX12_init_X7_init : GoodIn wsX12_init (wsX7_init) := ggX12_init_X7_init
set_option maxRecDepth 20000 in
theorem ggX12_init_X10_init : GoodIn wsX12_init wsX10_init := goodIn_r _ [155, 156, 2, 3, 40, 157, 67, 158, 159, 160, 161, 162, 163, 164, 165, 166, 167, 168, 169, 170, 310, 311, 312, 313, 314, 315, 316, 317, 318, 319, 320, 321, 322, 323, 324, 325, 326, 327, 328] (by decide +kernel) (by decide +kernel)
set_option maxRecDepth 20000 in
theorem gX12_init_X10_init : GoodIn wsX12_init (wsX10_init) := ggX12_init_X10_init
set_option maxRecDepth 20000 in
theorem ggX12_init_X1_init : GoodIn wsX12_init wsX1_init := goodIn_r _ [173, 174, 2, 3, 40, 175, 176, 177, 178, 179, 180, 181, 9, 10, 182, 183, 184, 185, 186, 187, 79, 80, 81, 44, 82, 83, 84, 329, 330, 331, 332, 333, 334, 335, 336, 337, 338, 339, 340, 341, 342, 343, 344, 345, 346, 347, 226, 227, 228, 229, 230, 231, 232, 233, 234, 235] (by decide +kernel) (by decide +kernel)
set_option maxRecDepth 20000 in
theorem gX12_init_X1_init : GoodIn wsX12_init (wsX1_init) := ggX12_init_X1_init
theorem dX12_init_0 : decode cX12_init 0 = .ok (.aload_n 0, 1) := by decide +kernel
theorem dX12_init_1 : decode cX12_init 1 = .ok (.invokespecial 3, 3) := by decide +kernel
theorem dX12_init_4 : decode cX12_init 4 = .ok (.aload_n 0, 1) := by decide +kernel
theorem dX12_init_5 : decode cX12_init 5 = .ok (.new 9, 3) := by decide +kernel
theorem dX12_init_8 : decode cX12_init 8 = .ok (.dup, 1) := by decide +kernel
theorem dX12_init_9 : decode cX12_init 9 = .ok (.invokespecial 11, 3) := by decide +kernel
theorem dX12_init_12 : decode cX12_init 12 = .ok (.putfield 12, 3) := by decide +kernel
theorem dX12_init_15 : decode cX12_init 15 = .ok (.aload_n 0, 1) := by decide +kernel
theorem dX12_init_16 : decode cX12_init 16 = .ok (.new 16, 3) := by decide +kernel
theorem dX12_init_19 : decode cX12_init 19 = .ok (.dup, 1) := by decide +kernel
theorem dX12_init_20 : decode cX12_init 20 = .ok (.invokespecial 18, 3) := by decide +kernel
theorem dX12_init_23 : decode cX12_init 23 = .ok (.putfield 19, 3) := by decide +kernel
theorem dX12_init_26 : decode cX12_init 26 = .ok (.aload_n 0, 1) := by decide +kernel
theorem dX12_init_27 : decode cX12_init 27 = .ok (.new 16, 3) := by decide +kernel
theorem dX12_init_30 : decode cX12_init 30 = .ok (.dup, 1) := by decide +kernel
theorem dX12_init_31 : decode cX12_init 31 = .ok (.invokespecial 18, 3) := by decide +kernel
theorem dX12_init_34 : decode cX12_init 34 = .ok (.putfield 23, 3) := by decide +kernel
theorem dX12_init_37 : decode cX12_init 37 = .ok (.aload_n 0, 1) := by decide +kernel
theorem dX12_init_38 : decode cX12_init 38 = .ok (.new 16, 3) := by decide +kernel
theorem dX12_init_41 : decode cX12_init 41 = .ok (.dup, 1) := by decide +kernel
theorem dX12_init_42 : decode cX12_init 42 = .ok (.invokespecial 18, 3) := by decide +kernel
theorem dX12_init_45 : decode cX12_init 45 = .ok (.putfield 26, 3) := by decide +kernel
theorem dX12_init_48 : decode cX12_init 48 = .ok (.aload_n 0, 1) := by decide +kernel
theorem dX12_init_49 : decode cX12_init 49 = .ok (.new 16, 3) := by decide +kernel
theorem dX12_init_52 : decode cX12_init 52 = .ok (.dup, 1) := by decide +kernel
theorem dX12_init_53 : decode cX12_init 53 = .ok (.invokespecial 18, 3) := by decide +kernel
theorem dX12_init_56 : decode cX12_init 56 = .ok (.putfield 29, 3) := by decide +kernel
theorem dX12_init_59 : decode cX12_init 59 = .ok (.aload_n 0, 1) := by decide +kernel
theorem dX12_init_60 : decode cX12_init 60 = .ok (.new 32, 3) := by decide +kernel
theorem dX12_init_63 : decode cX12_init 63 = .ok (.dup, 1) := by decide +kernel
theorem dX12_init_64 : decode cX12_init 64 = .ok (.aload_n 0, 1) := by decide +kernel
theorem dX12_init_65 : decode cX12_init 65 = .ok (.getfield 12, 3) := by decide +kernel
theorem dX12_init_68 : decode cX12_init 68 = .ok (.aload_n 0, 1) := by decide +kernel
theorem dX12_init_69 : decode cX12_init 69 = .ok (.getfield 19, 3) := by decide +kernel
theorem dX12_init_72 : decode cX12_init 72 = .ok (.invokespecial 34, 3) := by decide +kernel
theorem dX12_init_75 : decode cX12_init 75 = .ok (.putfield 37, 3) := by decide +kernel
theorem dX12_init_78 : decode cX12_init 78 = .ok (.aload_n 0, 1) := by decide +kernel
theorem dX12_init_79 : decode cX12_init 79 = .ok (.new 41, 3) := by decide +kernel
theorem dX12_init_82 : decode cX12_init 82 = .ok (.dup, 1) := by decide +kernel
theorem dX12_init_83 : decode cX12_init 83 = .ok (.aload_n 0, 1) := by decide +kernel
theorem dX12_init_84 : decode cX12_init 84 = .ok (.getfield 12, 3) := by decide +kernel
theorem dX12_init_87 : decode cX12_init 87 = .ok (.invokespecial 43, 3) := by decide +kernel
theorem dX12_init_90 : decode cX12_init 90 = .ok (.putfield 46, 3) := by decide +kernel
theorem dX12_init_93 : decode cX12_init 93 = .ok (.aload_n 0, 1) := by decide +kernel
theorem dX12_init_94 : decode cX12_init 94 = .ok (.new 50, 3) := by decide +kernel
theorem dX12_init_97 : decode cX12_init 97 = .ok (.dup, 1) := by decide +kernel
theorem dX12_init_98 : decode cX12_init 98 = .ok (.aload_n 0, 1) := by decide +kernel
theorem dX12_init_99 : decode cX12_init 99 = .ok (.getfield 12, 3) := by decide +kernel
theorem dX12_init_102 : decode cX12_init 102 = .ok (.aload_n 0, 1) := by decide +kernel
theorem dX12_init_103 : decode cX12_init 103 = .ok (.getfield 46, 3) := by decide +kernel
theorem dX12_init_106 : decode cX12_init 106 = .ok (.invokespecial 52, 3) := by decide +kernel
theorem dX12_init_109 : decode cX12_init 109 = .ok (.putfield 55, 3) := by decide +kernel
theorem dX12_init_112 : decode cX12_init 112 = .ok (.aload_n 0, 1) := by decide +kernel
theorem dX12_init_113 : decode cX12_init 113 = .ok (.new 59, 3) := by decide +kernel
theorem dX12_init_116 : decode cX12_init 116 = .ok (.dup, 1) := by decide +kernel
theorem dX12_init_117 : decode cX12_init 117 = .ok (.aload_n 0, 1) := by decide +kernel
theorem dX12_init_118 : decode cX12_init 118 = .ok (.getfield 12, 3) := by decide +kernel
theorem dX12_init_121 : decode cX12_init 121 = .ok (.invokespecial 61, 3) := by decide +kernel
theorem dX12_init_124 : decode cX12_init 124 = .ok (.putfield 62, 3) := by decide +kernel
theorem dX12_init_127 : decode cX12_init 127 = .ok (.aload_n 0, 1) := by decide +kernel
theorem dX12_init_128 : decode cX12_init 128 = .ok (.new 66, 3) := by decide +kernel
theorem dX12_init_131 : decode cX12_init 131 = .ok (.dup, 1) := by decide +kernel
theorem dX12_init_132 : decode cX12_init 132 = .ok (.aload_n 0, 1) := by decide +kernel
theorem dX12_init_133 : decode cX12_init 133 = .ok (.getfield 12, 3) := by decide +kernel
theorem dX12_init_136 : decode cX12_init 136 = .ok (.invokespecial 68, 3) := by decide +kernel
theorem dX12_init_139 : decode cX12_init 139 = .ok (.putfield 69, 3) := by decide +kernel
theorem dX12_init_142 : decode cX12_init 142 = .ok (.aload_n 0, 1) := by decide +kernel
theorem dX12_init_143 : decode cX12_init 143 = .ok (.new 73, 3) := by decide +kernel
theorem dX12_init_146 : decode cX12_init 146 = .ok (.dup, 1) := by decide +kernel
theorem dX12_init_147 : decode cX12_init 147 = .ok (.aload_n 0, 1) := by decide +kernel
theorem dX12_init_148 : decode cX12_init 148 = .ok (.getfield 12, 3) := by decide +kernel
theorem dX12_init_151 : decode cX12_init 151 = .ok (.invokespecial 75, 3) := by decide +kernel
theorem dX12_init_154 : decode cX12_init 154 = .ok (.putfield 76, 3) := by decide +kernel
theorem dX12_init_157 : decode cX12_init 157 = .ok (.aload_n 0, 1) := by decide +kernel
theorem dX12_init_158 : decode cX12_init 158 = .ok (.bipush 9, 2) := by decide +kernel
theorem dX12_init_160 : decode cX12_init 160 = .ok (.bipush 60, 2) := by decide +kernel
theorem dX12_init_162 : decode cX12_init 162 = .ok (.multianewarray 80 2, 4) := by decide +kernel
theorem dX12_init_166 : decode cX12_init 166 = .ok (.putfield 82, 3) := by decide +kernel
theorem dX12_init_169 : decode cX12_init 169 = .ok (.aload_n 0, 1) := by decide +kernel
theorem dX12_init_170 : decode cX12_init 170 = .ok (.bipush 9, 2) := by decide +kernel
theorem dX12_init_172 : decode cX12_init 172 = .ok (.newarray .int, 2) := by decide +kernel
theorem dX12_init_174 : decode cX12_init 174 = .ok (.putfield 85, 3) := by decide +kernel
theorem dX12_init_177 : decode cX12_init 177 = .ok (.aload_n 0, 1) := by decide +kernel
theorem dX12_init_178 : decode cX12_init 178 = .ok (.bipush 16, 2) := by decide +kernel
theorem dX12_init_180 : decode cX12_init 180 = .ok (.sipush 200, 3) := by decide +kernel
theorem dX12_init_183 : decode cX12_init 183 = .ok (.multianewarray 89 2, 4) := by decide +kernel
theorem dX12_init_187 : decode cX12_init 187 = .ok (.putfield 91, 3) := by decide +kernel
theorem dX12_init_190 : decode cX12_init 190 = .ok (.aload_n 0, 1) := by decide +kernel
theorem dX12_init_191 : decode cX12_init 191 = .ok (.bipush 16, 2) := by decide +kernel
theorem dX12_init_193 : decode cX12_init 193 = .ok (.newarray .int, 2) := by decide +kernel
theorem dX12_init_195 : decode cX12_init 195 = .ok (.putfield 94, 3) := by decide +kernel
theorem dX12_init_198 : decode cX12_init 198 = .ok (.aload_n 0, 1) := by decide +kernel
theorem dX12_init_199 : decode cX12_init 199 = .ok (.sipush 1000, 3) := by decide +kernel
theorem dX12_init_202 : decode cX12_init 202 = .ok (.newarray .int, 2) := by decide +kernel
theorem dX12_init_204 : decode cX12_init 204 = .ok (.putfield 97, 3) := by decide +kernel
theorem dX12_init_207 : decode cX12_init 207 = .ok (.return_, 1) := by decide +kernel
end
section
theorem bl_X4 : ∀ j, j < 2 → defaultValue (tyX4 j) = vp_V [.null, .int 0] j := by decide +kernel
set_option maxHeartbeats 4000000 in
set_option maxRecDepth 100000 in
/-- TongueHouse$Names(..): 1 cells come -/
theorem c_X4_init (l : Launch) (D : va_G) (cy : Nat → ClassId) (h0 sz : Nat) (L : List Nat) (f : Nat → va_E) (n1 : Int32) (hn1 : ¬ n1 < 0) (N1 : Nat) (hN1 : n1.toNatClampNeg = N1) (hB1 : N1 ≤ 1000000) (ha : h0 ∈ L) (he : f h0 = .inr (4, [.null, .int 0])) : Met l yX4_init wsX4_init ({ frames := 1, cells := 1, slots := N1, locals := 12 }) (pw_Pc D cy [.ref h0, .int n1] sz L f) (va_Qv (fun u : List Nat × (Nat → va_E) => ∃ q1 : Nat, pw_N h0 4 L f u.1 u.2 [.ref q1, .int 0] [(q1, .inl (cy 2, N1, .inr (.inl (fun _ => 0))))]) (pw_B D (pw_A L f sz)) (pw_A L f sz)) 1 (N1) (pw_A L f sz) := by
  refine Met.ofW (cc := cX4_init) (maxL := 2) (ret := none) (by decide) rfl ?_
  intro p e s m args below meth c s₁ B hml hv
  obtain ⟨rfl, hsz, hG, hP, hD0⟩ := hv
  have hx := B.exec
  have hb := B.bytes
  have hr := B.returns
  have hts := atoms_spec (ws := wsX4_init) B.pre
  have hown : s.vm.findClass RX4 = some m.cls := findClass_of_methodNamed B.named
  have hlocks := B.notSynchronized
  have hin : meth.name = "<init>" := (name_of_methodNamed B.named B.method).1
  have hw := pw_start (cy := cy) hsz hP hD0
  have hN := pw_N.rf ha he
  have hl := lv_entry ([.ref h0, .int n1]) (n := 2) (Nat.le_of_ble_eq_true rfl)
  rw [lg_entry_eq]
  generalize (lg_sl ([.ref h0, .int n1]) ++ List.replicate (2 - (lg_sl ([.ref h0, .int n1])).length) Slot.unset).toArray = ls at hl ⊢
  have hl : lv_has ls 2 [(0, .ref h0), (1, .int n1)] := hl
  have hi4 : ∀ w ∈ u_ws RX4 TX4 2, w ∈ wsX4_init := (fun _ h => List.mem_cons_of_mem _ (List.mem_append_right _ h))
  refine lv_aload_n hx hb dX4_init_0 rfl (lv_at hl 0 rfl) ?_
  refine W.objInit hx hb hown (hts (.methodLink RX4 3 objectInit) (by decide +kernel)) (hts (.instanceMethod objectInit) (by decide +kernel)) (hts _ (show Cond.code objectInit ⟨#[0xb1]⟩ 1 none ∈ wsX4_init by decide +kernel)) rfl (by rw [hml]; exact hl.1) rfl dX4_init_1 (Nat.le_of_ble_eq_true rfl) (Nat.le_of_ble_eq_true rfl) ?_
  refine W.eq (g2 := F0 m 4 ls []) rfl ?_
  refine lv_aload_n hx hb dX4_init_4 rfl (lv_at hl 0 rfl) ?_
  refine lv_iload_n hx hb dX4_init_5 rfl (lv_at hl 1 rfl) ?_
  refine pw_cnewa (atype := .long) (t0 := 2) (cA := cy 2) (ty := .long) (N' := N1) (a0 := (N1, .inr (.inl (fun _ => 0)))) hx hb (hts (.arrayClass .long) (by decide +kernel)) rfl hG rfl (fun _ h => h) hw hN (fun _ => rfl) hn1 hN1 (show N1 * 8 ≤ 536870912 by have := hB1; omega) (Nat.le_of_ble_eq_true rfl) (show 0 + N1 ≤ N1 by omega) dX4_init_6 (fun q1 L1 f1 H hw hN => ?_)
  have hN : pw_N h0 4 L f _ _ [.null, .int 0] [(q1, .inl (cy 2, N1, .inr (.inl (fun _ => 0))))] := hN
  refine pw_cputF (ci := 4) (v := .ref q1) (C := RX4) (T := TX4) (N := 2) hx hb hts hi4 tyX4 tyX4_ok nmX4 hown hG hw hN rfl 0 (by decide) (hts (.fieldLink RX4 9 "TongueHouse$Names" "name" "[J") (by decide +kernel)) (fun _ h9 => h9) rfl hin rfl rfl rfl (Nat.le_of_ble_eq_true rfl) dX4_init_8 (fun f1 H locs hw hN => ?_)
  have hN : pw_N h0 4 L f _ _ [.ref q1, .int 0] [(q1, .inl (cy 2, N1, .inr (.inl (fun _ => 0))))] := hN
  refine W.widen (k := 1) (n := N1) (Nat.le_of_ble_eq_true rfl) (by omega) ?_
  exact pw_vret hx hb hr hlocks hsz hw ⟨q1, hN⟩ dX4_init_11
theorem bl_X9 : ∀ j, j < 10 → defaultValue (tyX9 j) = vp_V [.null, .int 0, .null, .null, .int 0, .int 0, .int 0, .int 0, .int 0, .long 0] j := by decide +kernel
set_option maxHeartbeats 4000000 in
set_option maxRecDepth 100000 in
/-- TongueHouse$Text(..): 3 cells come -/
theorem c_X9_init (l : Launch) (D : va_G) (cy : Nat → ClassId) (h0 sz : Nat) (L : List Nat) (f : Nat → va_E) (ha : h0 ∈ L) (he : f h0 = .inr (9, [.null, .int 0, .null, .null, .int 0, .int 0, .int 0, .int 0, .int 0, .long 0])) : Met l yX9_init wsX9_init ({ frames := 1, cells := 3, slots := 1048, locals := 12 }) (pw_Pc D cy [.ref h0] sz L f) (va_Qv (fun u : List Nat × (Nat → va_E) => ∃ q1 q2 q3 : Nat, pw_N h0 9 L f u.1 u.2 [.ref q1, .int 0, .ref q2, .ref q3, .int 0, .int 0, .int 0, .int 0, .int 0, .long 0] [(q1, .inl (cy 0, 1000, .inl (fun _ => 0))), (q2, .inl (cy 1, 24, .inl (fun _ => 0))), (q3, .inl (cy 1, 24, .inl (fun _ => 0)))]) (pw_B D (pw_A L f sz)) (pw_A L f sz)) 3 (1048) (pw_A L f sz) := by
  refine Met.ofW (cc := cX9_init) (maxL := 1) (ret := none) (by decide) rfl ?_
  intro p e s m args below meth c s₁ B hml hv
  obtain ⟨rfl, hsz, hG, hP, hD0⟩ := hv
  have hx := B.exec
  have hb := B.bytes
  have hr := B.returns
  have hts := atoms_spec (ws := wsX9_init) B.pre
  have hown : s.vm.findClass RX9 = some m.cls := findClass_of_methodNamed B.named
  have hlocks := B.notSynchronized
  have hin : meth.name = "<init>" := (name_of_methodNamed B.named B.method).1
  have hw := pw_start (cy := cy) hsz hP hD0
  have hN := pw_N.rf ha he
  have hl := lv_entry ([.ref h0]) (n := 1) (Nat.le_of_ble_eq_true rfl)
  rw [lg_entry_eq]
  generalize (lg_sl ([.ref h0]) ++ List.replicate (1 - (lg_sl ([.ref h0])).length) Slot.unset).toArray = ls at hl ⊢
  have hl : lv_has ls 1 [(0, .ref h0)] := hl
  have hi9 : ∀ w ∈ u_ws RX9 TX9 10, w ∈ wsX9_init := (fun _ h => List.mem_cons_of_mem _ (List.mem_append_right _ h))
  refine lv_aload_n hx hb dX9_init_0 rfl (lv_at hl 0 rfl) ?_
  refine W.objInit hx hb hown (hts (.methodLink RX9 3 objectInit) (by decide +kernel)) (hts (.instanceMethod objectInit) (by decide +kernel)) (hts _ (show Cond.code objectInit ⟨#[0xb1]⟩ 1 none ∈ wsX9_init by decide +kernel)) rfl (by rw [hml]; exact hl.1) rfl dX9_init_1 (Nat.le_of_ble_eq_true rfl) (Nat.le_of_ble_eq_true rfl) ?_
  refine W.eq (g2 := F0 m 4 ls []) rfl ?_
  refine lv_aload_n hx hb dX9_init_4 rfl (lv_at hl 0 rfl) ?_
  refine lv_sipush (v := 1000) hx hb dX9_init_5 (by decide) ?_
  refine pw_cnewa (atype := .byte) (t0 := 0) (cA := cy 0) (ty := .byte) (N' := 1000) (a0 := (1000, .inl (fun _ => 0))) hx hb (hts (.arrayClass .byte) (by decide +kernel)) rfl hG rfl (fun _ h => h) hw hN (fun _ => rfl) (by decide) (by decide) (Nat.le_of_ble_eq_true rfl) (Nat.le_of_ble_eq_true rfl) (Nat.le_of_ble_eq_true rfl) dX9_init_8 (fun q1 L1 f1 H hw hN => ?_)
  have hN : pw_N h0 9 L f _ _ [.null, .int 0, .null, .null, .int 0, .int 0, .int 0, .int 0, .int 0, .long 0] [(q1, .inl (cy 0, 1000, .inl (fun _ => 0)))] := hN
  refine pw_cputF (ci := 9) (v := .ref q1) (C := RX9) (T := TX9) (N := 10) hx hb hts hi9 tyX9 tyX9_ok nmX9 hown hG hw hN rfl 0 (by decide) (hts (.fieldLink RX9 11 "TongueHouse$Text" "bytes" "[B") (by decide +kernel)) (fun _ h9 => h9) rfl hin rfl rfl rfl (Nat.le_of_ble_eq_true rfl) dX9_init_10 (fun f1 H locs hw hN => ?_)
  have hN : pw_N h0 9 L f _ _ [.ref q1, .int 0, .null, .null, .int 0, .int 0, .int 0, .int 0, .int 0, .long 0] [(q1, .inl (cy 0, 1000, .inl (fun _ => 0)))] := hN
  refine lv_aload_n hx hb dX9_init_13 rfl (lv_at hl 0 rfl) ?_
  refine lv_bipush (v := 24) hx hb dX9_init_14 (by decide) ?_
  refine pw_cnewa (atype := .int) (t0 := 1) (cA := cy 1) (ty := .int) (N' := 24) (a0 := (24, .inl (fun _ => 0))) hx hb (hts (.arrayClass .int) (by decide +kernel)) rfl hG rfl (fun _ h => h) hw hN (fun _ => rfl) (by decide) (by decide) (Nat.le_of_ble_eq_true rfl) (Nat.le_of_ble_eq_true rfl) (Nat.le_of_ble_eq_true rfl) dX9_init_16 (fun q2 L1 f1 H hw hN => ?_)
  have hN : pw_N h0 9 L f _ _ [.ref q1, .int 0, .null, .null, .int 0, .int 0, .int 0, .int 0, .int 0, .long 0] [(q1, .inl (cy 0, 1000, .inl (fun _ => 0))), (q2, .inl (cy 1, 24, .inl (fun _ => 0)))] := hN
  refine pw_cputF (ci := 9) (v := .ref q2) (C := RX9) (T := TX9) (N := 10) hx hb hts hi9 tyX9 tyX9_ok nmX9 hown hG hw hN rfl 2 (by decide) (hts (.fieldLink RX9 15 "TongueHouse$Text" "start" "[I") (by decide +kernel)) (fun _ h9 => h9) rfl hin rfl rfl rfl (Nat.le_of_ble_eq_true rfl) dX9_init_18 (fun f1 H locs hw hN => ?_)
  have hN : pw_N h0 9 L f _ _ [.ref q1, .int 0, .ref q2, .null, .int 0, .int 0, .int 0, .int 0, .int 0, .long 0] [(q1, .inl (cy 0, 1000, .inl (fun _ => 0))), (q2, .inl (cy 1, 24, .inl (fun _ => 0)))] := hN
  refine lv_aload_n hx hb dX9_init_21 rfl (lv_at hl 0 rfl) ?_
  refine lv_bipush (v := 24) hx hb dX9_init_22 (by decide) ?_
  refine pw_cnewa (atype := .int) (t0 := 1) (cA := cy 1) (ty := .int) (N' := 24) (a0 := (24, .inl (fun _ => 0))) hx hb (hts (.arrayClass .int) (by decide +kernel)) rfl hG rfl (fun _ h => h) hw hN (fun _ => rfl) (by decide) (by decide) (Nat.le_of_ble_eq_true rfl) (Nat.le_of_ble_eq_true rfl) (Nat.le_of_ble_eq_true rfl) dX9_init_24 (fun q3 L1 f1 H hw hN => ?_)
  have hN : pw_N h0 9 L f _ _ [.ref q1, .int 0, .ref q2, .null, .int 0, .int 0, .int 0, .int 0, .int 0, .long 0] [(q1, .inl (cy 0, 1000, .inl (fun _ => 0))), (q2, .inl (cy 1, 24, .inl (fun _ => 0))), (q3, .inl (cy 1, 24, .inl (fun _ => 0)))] := hN
  refine pw_cputF (ci := 9) (v := .ref q3) (C := RX9) (T := TX9) (N := 10) hx hb hts hi9 tyX9 tyX9_ok nmX9 hown hG hw hN rfl 3 (by decide) (hts (.fieldLink RX9 19 "TongueHouse$Text" "len" "[I") (by decide +kernel)) (fun _ h9 => h9) rfl hin rfl rfl rfl (Nat.le_of_ble_eq_true rfl) dX9_init_26 (fun f1 H locs hw hN => ?_)
  have hN : pw_N h0 9 L f _ _ [.ref q1, .int 0, .ref q2, .ref q3, .int 0, .int 0, .int 0, .int 0, .int 0, .long 0] [(q1, .inl (cy 0, 1000, .inl (fun _ => 0))), (q2, .inl (cy 1, 24, .inl (fun _ => 0))), (q3, .inl (cy 1, 24, .inl (fun _ => 0)))] := hN
  refine W.widen (k := 3) (n := 1048) (Nat.le_of_ble_eq_true rfl) (Nat.le_of_ble_eq_true rfl) ?_
  exact pw_vret hx hb hr hlocks hsz hw ⟨q1, q2, q3, hN⟩ dX9_init_29
end
section
theorem bl_X6 : ∀ j, j < 19 → defaultValue (tyX6 j) = vp_V [.null, .null, .null, .int 0, .int 0, .int 0, .int 0, .int 0, .int 0, .null, .null, .null, .int 0, .null, .null, .int 0, .null, .null, .null] j := by decide +kernel
set_option maxHeartbeats 4000000 in
set_option maxRecDepth 100000 in
/-- TongueHouse$Reader(..): 8 cells come -/
theorem c_X6_init (l : Launch) (D : va_G) (cy : Nat → ClassId) (h0 sz : Nat) (L : List Nat) (f : Nat → va_E) (p1 : Nat) (p2 : Nat) (ha : h0 ∈ L) (he : f h0 = .inr (6, [.null, .null, .null, .int 0, .int 0, .int 0, .int 0, .int 0, .int 0, .null, .null, .null, .int 0, .null, .null, .int 0, .null, .null, .null])) : Met l yX6_init wsX6_init ({ frames := 1, cells := 8, slots := 344, locals := 12 }) (pw_Pc D cy [.ref h0, .ref p1, .ref p2] sz L f) (va_Qv (fun u : List Nat × (Nat → va_E) => ∃ q1 q2 q3 q4 q5 q6 q7 q8 : Nat, pw_N h0 6 L f u.1 u.2 [.ref p1, .ref p2, .null, .int 0, .int 0, .int 0, .int 0, .int 0, .int 0, .ref q1, .ref q2, .ref q3, .int 0, .ref q4, .ref q5, .int 0, .ref q6, .ref q7, .ref q8] [(q1, .inl (cy 1, 72, .inl (fun _ => 0))), (q2, .inl (cy 1, 25, .inl (fun _ => 0))), (q3, .inl (cy 2, 6, .inr (.inl (fun _ => 0)))), (q4, .inl (cy 1, 40, .inl (fun _ => 0))), (q5, .inl (cy 2, 40, .inr (.inl (fun _ => 0)))), (q6, .inl (cy 2, 41, .inr (.inl (fun _ => 0)))), (q7, .inl (cy 1, 60, .inl (fun _ => 0))), (q8, .inl (cy 1, 60, .inl (fun _ => 0)))]) (pw_B D (pw_A L f sz)) (pw_A L f sz)) 8 (344) (pw_A L f sz) := by
  refine Met.ofW (cc := cX6_init) (maxL := 3) (ret := none) (by decide) rfl ?_
  intro p e s m args below meth c s₁ B hml hv
  obtain ⟨rfl, hsz, hG, hP, hD0⟩ := hv
  have hx := B.exec
  have hb := B.bytes
  have hr := B.returns
  have hts := atoms_spec (ws := wsX6_init) B.pre
  have hown : s.vm.findClass RX6 = some m.cls := findClass_of_methodNamed B.named
  have hlocks := B.notSynchronized
  have hin : meth.name = "<init>" := (name_of_methodNamed B.named B.method).1
  have hw := pw_start (cy := cy) hsz hP hD0
  have hN := pw_N.rf ha he
  have hl := lv_entry ([.ref h0, .ref p1, .ref p2]) (n := 3) (Nat.le_of_ble_eq_true rfl)
  rw [lg_entry_eq]
  generalize (lg_sl ([.ref h0, .ref p1, .ref p2]) ++ List.replicate (3 - (lg_sl ([.ref h0, .ref p1, .ref p2])).length) Slot.unset).toArray = ls at hl ⊢
  have hl : lv_has ls 3 [(0, .ref h0), (1, .ref p1), (2, .ref p2)] := hl
  have hi6 : ∀ w ∈ u_ws RX6 TX6 19, w ∈ wsX6_init := (fun _ h => List.mem_cons_of_mem _ (List.mem_append_right _ h))
  refine lv_aload_n hx hb dX6_init_0 rfl (lv_at hl 0 rfl) ?_
  refine W.objInit hx hb hown (hts (.methodLink RX6 3 objectInit) (by decide +kernel)) (hts (.instanceMethod objectInit) (by decide +kernel)) (hts _ (show Cond.code objectInit ⟨#[0xb1]⟩ 1 none ∈ wsX6_init by decide +kernel)) rfl (by rw [hml]; exact hl.1) rfl dX6_init_1 (Nat.le_of_ble_eq_true rfl) (Nat.le_of_ble_eq_true rfl) ?_
  refine W.eq (g2 := F0 m 4 ls []) rfl ?_
  refine lv_aload_n hx hb dX6_init_4 rfl (lv_at hl 0 rfl) ?_
  refine lv_bipush (v := 72) hx hb dX6_init_5 (by decide) ?_
  refine pw_cnewa (atype := .int) (t0 := 1) (cA := cy 1) (ty := .int) (N' := 72) (a0 := (72, .inl (fun _ => 0))) hx hb (hts (.arrayClass .int) (by decide +kernel)) rfl hG rfl (fun _ h => h) hw hN (fun _ => rfl) (by decide) (by decide) (Nat.le_of_ble_eq_true rfl) (Nat.le_of_ble_eq_true rfl) (Nat.le_of_ble_eq_true rfl) dX6_init_7 (fun q1 L1 f1 H hw hN => ?_)
  have hN : pw_N h0 6 L f _ _ [.null, .null, .null, .int 0, .int 0, .int 0, .int 0, .int 0, .int 0, .null, .null, .null, .int 0, .null, .null, .int 0, .null, .null, .null] [(q1, .inl (cy 1, 72, .inl (fun _ => 0)))] := hN
  refine pw_cputF (ci := 6) (v := .ref q1) (C := RX6) (T := TX6) (N := 19) hx hb hts hi6 tyX6 tyX6_ok nmX6 hown hG hw hN rfl 9 (by decide) (hts (.fieldLink RX6 11 "TongueHouse$Reader" "cell" "[I") (by decide +kernel)) (fun _ h9 => h9) rfl hin rfl rfl rfl (Nat.le_of_ble_eq_true rfl) dX6_init_9 (fun f1 H locs hw hN => ?_)
  have hN : pw_N h0 6 L f _ _ [.null, .null, .null, .int 0, .int 0, .int 0, .int 0, .int 0, .int 0, .ref q1, .null, .null, .int 0, .null, .null, .int 0, .null, .null, .null] [(q1, .inl (cy 1, 72, .inl (fun _ => 0)))] := hN
  refine lv_aload_n hx hb dX6_init_12 rfl (lv_at hl 0 rfl) ?_
  refine lv_bipush (v := 25) hx hb dX6_init_13 (by decide) ?_
  refine pw_cnewa (atype := .int) (t0 := 1) (cA := cy 1) (ty := .int) (N' := 25) (a0 := (25, .inl (fun _ => 0))) hx hb (hts (.arrayClass .int) (by decide +kernel)) rfl hG rfl (fun _ h => h) hw hN (fun _ => rfl) (by decide) (by decide) (Nat.le_of_ble_eq_true rfl) (Nat.le_of_ble_eq_true rfl) (Nat.le_of_ble_eq_true rfl) dX6_init_15 (fun q2 L1 f1 H hw hN => ?_)
  have hN : pw_N h0 6 L f _ _ [.null, .null, .null, .int 0, .int 0, .int 0, .int 0, .int 0, .int 0, .ref q1, .null, .null, .int 0, .null, .null, .int 0, .null, .null, .null] [(q1, .inl (cy 1, 72, .inl (fun _ => 0))), (q2, .inl (cy 1, 25, .inl (fun _ => 0)))] := hN
  refine pw_cputF (ci := 6) (v := .ref q2) (C := RX6) (T := TX6) (N := 19) hx hb hts hi6 tyX6 tyX6_ok nmX6 hown hG hw hN rfl 10 (by decide) (hts (.fieldLink RX6 17 "TongueHouse$Reader" "row" "[I") (by decide +kernel)) (fun _ h9 => h9) rfl hin rfl rfl rfl (Nat.le_of_ble_eq_true rfl) dX6_init_17 (fun f1 H locs hw hN => ?_)
  have hN : pw_N h0 6 L f _ _ [.null, .null, .null, .int 0, .int 0, .int 0, .int 0, .int 0, .int 0, .ref q1, .ref q2, .null, .int 0, .null, .null, .int 0, .null, .null, .null] [(q1, .inl (cy 1, 72, .inl (fun _ => 0))), (q2, .inl (cy 1, 25, .inl (fun _ => 0)))] := hN
  refine lv_aload_n hx hb dX6_init_20 rfl (lv_at hl 0 rfl) ?_
  refine lv_bipush (v := 6) hx hb dX6_init_21 (by decide) ?_
  refine pw_cnewa (atype := .long) (t0 := 2) (cA := cy 2) (ty := .long) (N' := 6) (a0 := (6, .inr (.inl (fun _ => 0)))) hx hb (hts (.arrayClass .long) (by decide +kernel)) rfl hG rfl (fun _ h => h) hw hN (fun _ => rfl) (by decide) (by decide) (Nat.le_of_ble_eq_true rfl) (Nat.le_of_ble_eq_true rfl) (Nat.le_of_ble_eq_true rfl) dX6_init_23 (fun q3 L1 f1 H hw hN => ?_)
  have hN : pw_N h0 6 L f _ _ [.null, .null, .null, .int 0, .int 0, .int 0, .int 0, .int 0, .int 0, .ref q1, .ref q2, .null, .int 0, .null, .null, .int 0, .null, .null, .null] [(q1, .inl (cy 1, 72, .inl (fun _ => 0))), (q2, .inl (cy 1, 25, .inl (fun _ => 0))), (q3, .inl (cy 2, 6, .inr (.inl (fun _ => 0))))] := hN
  refine pw_cputF (ci := 6) (v := .ref q3) (C := RX6) (T := TX6) (N := 19) hx hb hts hi6 tyX6 tyX6_ok nmX6 hown hG hw hN rfl 11 (by decide) (hts (.fieldLink RX6 20 "TongueHouse$Reader" "names" "[J") (by decide +kernel)) (fun _ h9 => h9) rfl hin rfl rfl rfl (Nat.le_of_ble_eq_true rfl) dX6_init_25 (fun f1 H locs hw hN => ?_)
  have hN : pw_N h0 6 L f _ _ [.null, .null, .null, .int 0, .int 0, .int 0, .int 0, .int 0, .int 0, .ref q1, .ref q2, .ref q3, .int 0, .null, .null, .int 0, .null, .null, .null] [(q1, .inl (cy 1, 72, .inl (fun _ => 0))), (q2, .inl (cy 1, 25, .inl (fun _ => 0))), (q3, .inl (cy 2, 6, .inr (.inl (fun _ => 0))))] := hN
  refine lv_aload_n hx hb dX6_init_28 rfl (lv_at hl 0 rfl) ?_
  refine lv_bipush (v := 40) hx hb dX6_init_29 (by decide) ?_
  refine pw_cnewa (atype := .int) (t0 := 1) (cA := cy 1) (ty := .int) (N' := 40) (a0 := (40, .inl (fun _ => 0))) hx hb (hts (.arrayClass .int) (by decide +kernel)) rfl hG rfl (fun _ h => h) hw hN (fun _ => rfl) (by decide) (by decide) (Nat.le_of_ble_eq_true rfl) (Nat.le_of_ble_eq_true rfl) (Nat.le_of_ble_eq_true rfl) dX6_init_31 (fun q4 L1 f1 H hw hN => ?_)
  have hN : pw_N h0 6 L f _ _ [.null, .null, .null, .int 0, .int 0, .int 0, .int 0, .int 0, .int 0, .ref q1, .ref q2, .ref q3, .int 0, .null, .null, .int 0, .null, .null, .null] [(q1, .inl (cy 1, 72, .inl (fun _ => 0))), (q2, .inl (cy 1, 25, .inl (fun _ => 0))), (q3, .inl (cy 2, 6, .inr (.inl (fun _ => 0)))), (q4, .inl (cy 1, 40, .inl (fun _ => 0)))] := hN
  refine pw_cputF (ci := 6) (v := .ref q4) (C := RX6) (T := TX6) (N := 19) hx hb hts hi6 tyX6 tyX6_ok nmX6 hown hG hw hN rfl 13 (by decide) (hts (.fieldLink RX6 24 "TongueHouse$Reader" "termOp" "[I") (by decide +kernel)) (fun _ h9 => h9) rfl hin rfl rfl rfl (Nat.le_of_ble_eq_true rfl) dX6_init_33 (fun f1 H locs hw hN => ?_)
  have hN : pw_N h0 6 L f _ _ [.null, .null, .null, .int 0, .int 0, .int 0, .int 0, .int 0, .int 0, .ref q1, .ref q2, .ref q3, .int 0, .ref q4, .null, .int 0, .null, .null, .null] [(q1, .inl (cy 1, 72, .inl (fun _ => 0))), (q2, .inl (cy 1, 25, .inl (fun _ => 0))), (q3, .inl (cy 2, 6, .inr (.inl (fun _ => 0)))), (q4, .inl (cy 1, 40, .inl (fun _ => 0)))] := hN
  refine lv_aload_n hx hb dX6_init_36 rfl (lv_at hl 0 rfl) ?_
  refine lv_bipush (v := 40) hx hb dX6_init_37 (by decide) ?_
  refine pw_cnewa (atype := .long) (t0 := 2) (cA := cy 2) (ty := .long) (N' := 40) (a0 := (40, .inr (.inl (fun _ => 0)))) hx hb (hts (.arrayClass .long) (by decide +kernel)) rfl hG rfl (fun _ h => h) hw hN (fun _ => rfl) (by decide) (by decide) (Nat.le_of_ble_eq_true rfl) (Nat.le_of_ble_eq_true rfl) (Nat.le_of_ble_eq_true rfl) dX6_init_39 (fun q5 L1 f1 H hw hN => ?_)
  have hN : pw_N h0 6 L f _ _ [.null, .null, .null, .int 0, .int 0, .int 0, .int 0, .int 0, .int 0, .ref q1, .ref q2, .ref q3, .int 0, .ref q4, .null, .int 0, .null, .null, .null] [(q1, .inl (cy 1, 72, .inl (fun _ => 0))), (q2, .inl (cy 1, 25, .inl (fun _ => 0))), (q3, .inl (cy 2, 6, .inr (.inl (fun _ => 0)))), (q4, .inl (cy 1, 40, .inl (fun _ => 0))), (q5, .inl (cy 2, 40, .inr (.inl (fun _ => 0))))] := hN
  refine pw_cputF (ci := 6) (v := .ref q5) (C := RX6) (T := TX6) (N := 19) hx hb hts hi6 tyX6 tyX6_ok nmX6 hown hG hw hN rfl 14 (by decide) (hts (.fieldLink RX6 27 "TongueHouse$Reader" "termName" "[J") (by decide +kernel)) (fun _ h9 => h9) rfl hin rfl rfl rfl (Nat.le_of_ble_eq_true rfl) dX6_init_41 (fun f1 H locs hw hN => ?_)
  have hN : pw_N h0 6 L f _ _ [.null, .null, .null, .int 0, .int 0, .int 0, .int 0, .int 0, .int 0, .ref q1, .ref q2, .ref q3, .int 0, .ref q4, .ref q5, .int 0, .null, .null, .null] [(q1, .inl (cy 1, 72, .inl (fun _ => 0))), (q2, .inl (cy 1, 25, .inl (fun _ => 0))), (q3, .inl (cy 2, 6, .inr (.inl (fun _ => 0)))), (q4, .inl (cy 1, 40, .inl (fun _ => 0))), (q5, .inl (cy 2, 40, .inr (.inl (fun _ => 0))))] := hN
  refine lv_aload_n hx hb dX6_init_44 rfl (lv_at hl 0 rfl) ?_
  refine lv_bipush (v := 41) hx hb dX6_init_45 (by decide) ?_
  refine pw_cnewa (atype := .long) (t0 := 2) (cA := cy 2) (ty := .long) (N' := 41) (a0 := (41, .inr (.inl (fun _ => 0)))) hx hb (hts (.arrayClass .long) (by decide +kernel)) rfl hG rfl (fun _ h => h) hw hN (fun _ => rfl) (by decide) (by decide) (Nat.le_of_ble_eq_true rfl) (Nat.le_of_ble_eq_true rfl) (Nat.le_of_ble_eq_true rfl) dX6_init_47 (fun q6 L1 f1 H hw hN => ?_)
  have hN : pw_N h0 6 L f _ _ [.null, .null, .null, .int 0, .int 0, .int 0, .int 0, .int 0, .int 0, .ref q1, .ref q2, .ref q3, .int 0, .ref q4, .ref q5, .int 0, .null, .null, .null] [(q1, .inl (cy 1, 72, .inl (fun _ => 0))), (q2, .inl (cy 1, 25, .inl (fun _ => 0))), (q3, .inl (cy 2, 6, .inr (.inl (fun _ => 0)))), (q4, .inl (cy 1, 40, .inl (fun _ => 0))), (q5, .inl (cy 2, 40, .inr (.inl (fun _ => 0)))), (q6, .inl (cy 2, 41, .inr (.inl (fun _ => 0))))] := hN
  refine pw_cputF (ci := 6) (v := .ref q6) (C := RX6) (T := TX6) (N := 19) hx hb hts hi6 tyX6 tyX6_ok nmX6 hown hG hw hN rfl 16 (by decide) (hts (.fieldLink RX6 30 "TongueHouse$Reader" "binder" "[J") (by decide +kernel)) (fun _ h9 => h9) rfl hin rfl rfl rfl (Nat.le_of_ble_eq_true rfl) dX6_init_49 (fun f1 H locs hw hN => ?_)
  have hN : pw_N h0 6 L f _ _ [.null, .null, .null, .int 0, .int 0, .int 0, .int 0, .int 0, .int 0, .ref q1, .ref q2, .ref q3, .int 0, .ref q4, .ref q5, .int 0, .ref q6, .null, .null] [(q1, .inl (cy 1, 72, .inl (fun _ => 0))), (q2, .inl (cy 1, 25, .inl (fun _ => 0))), (q3, .inl (cy 2, 6, .inr (.inl (fun _ => 0)))), (q4, .inl (cy 1, 40, .inl (fun _ => 0))), (q5, .inl (cy 2, 40, .inr (.inl (fun _ => 0)))), (q6, .inl (cy 2, 41, .inr (.inl (fun _ => 0))))] := hN
  refine lv_aload_n hx hb dX6_init_52 rfl (lv_at hl 0 rfl) ?_
  refine lv_bipush (v := 60) hx hb dX6_init_53 (by decide) ?_
  refine pw_cnewa (atype := .int) (t0 := 1) (cA := cy 1) (ty := .int) (N' := 60) (a0 := (60, .inl (fun _ => 0))) hx hb (hts (.arrayClass .int) (by decide +kernel)) rfl hG rfl (fun _ h => h) hw hN (fun _ => rfl) (by decide) (by decide) (Nat.le_of_ble_eq_true rfl) (Nat.le_of_ble_eq_true rfl) (Nat.le_of_ble_eq_true rfl) dX6_init_55 (fun q7 L1 f1 H hw hN => ?_)
  have hN : pw_N h0 6 L f _ _ [.null, .null, .null, .int 0, .int 0, .int 0, .int 0, .int 0, .int 0, .ref q1, .ref q2, .ref q3, .int 0, .ref q4, .ref q5, .int 0, .ref q6, .null, .null] [(q1, .inl (cy 1, 72, .inl (fun _ => 0))), (q2, .inl (cy 1, 25, .inl (fun _ => 0))), (q3, .inl (cy 2, 6, .inr (.inl (fun _ => 0)))), (q4, .inl (cy 1, 40, .inl (fun _ => 0))), (q5, .inl (cy 2, 40, .inr (.inl (fun _ => 0)))), (q6, .inl (cy 2, 41, .inr (.inl (fun _ => 0)))), (q7, .inl (cy 1, 60, .inl (fun _ => 0)))] := hN
  refine pw_cputF (ci := 6) (v := .ref q7) (C := RX6) (T := TX6) (N := 19) hx hb hts hi6 tyX6 tyX6_ok nmX6 hown hG hw hN rfl 17 (by decide) (hts (.fieldLink RX6 33 "TongueHouse$Reader" "opened" "[I") (by decide +kernel)) (fun _ h9 => h9) rfl hin rfl rfl rfl (Nat.le_of_ble_eq_true rfl) dX6_init_57 (fun f1 H locs hw hN => ?_)
  have hN : pw_N h0 6 L f _ _ [.null, .null, .null, .int 0, .int 0, .int 0, .int 0, .int 0, .int 0, .ref q1, .ref q2, .ref q3, .int 0, .ref q4, .ref q5, .int 0, .ref q6, .ref q7, .null] [(q1, .inl (cy 1, 72, .inl (fun _ => 0))), (q2, .inl (cy 1, 25, .inl (fun _ => 0))), (q3, .inl (cy 2, 6, .inr (.inl (fun _ => 0)))), (q4, .inl (cy 1, 40, .inl (fun _ => 0))), (q5, .inl (cy 2, 40, .inr (.inl (fun _ => 0)))), (q6, .inl (cy 2, 41, .inr (.inl (fun _ => 0)))), (q7, .inl (cy 1, 60, .inl (fun _ => 0)))] := hN
  refine lv_aload_n hx hb dX6_init_60 rfl (lv_at hl 0 rfl) ?_
  refine lv_bipush (v := 60) hx hb dX6_init_61 (by decide) ?_
  refine pw_cnewa (atype := .int) (t0 := 1) (cA := cy 1) (ty := .int) (N' := 60) (a0 := (60, .inl (fun _ => 0))) hx hb (hts (.arrayClass .int) (by decide +kernel)) rfl hG rfl (fun _ h => h) hw hN (fun _ => rfl) (by decide) (by decide) (Nat.le_of_ble_eq_true rfl) (Nat.le_of_ble_eq_true rfl) (Nat.le_of_ble_eq_true rfl) dX6_init_63 (fun q8 L1 f1 H hw hN => ?_)
  have hN : pw_N h0 6 L f _ _ [.null, .null, .null, .int 0, .int 0, .int 0, .int 0, .int 0, .int 0, .ref q1, .ref q2, .ref q3, .int 0, .ref q4, .ref q5, .int 0, .ref q6, .ref q7, .null] [(q1, .inl (cy 1, 72, .inl (fun _ => 0))), (q2, .inl (cy 1, 25, .inl (fun _ => 0))), (q3, .inl (cy 2, 6, .inr (.inl (fun _ => 0)))), (q4, .inl (cy 1, 40, .inl (fun _ => 0))), (q5, .inl (cy 2, 40, .inr (.inl (fun _ => 0)))), (q6, .inl (cy 2, 41, .inr (.inl (fun _ => 0)))), (q7, .inl (cy 1, 60, .inl (fun _ => 0))), (q8, .inl (cy 1, 60, .inl (fun _ => 0)))] := hN
  refine pw_cputF (ci := 6) (v := .ref q8) (C := RX6) (T := TX6) (N := 19) hx hb hts hi6 tyX6 tyX6_ok nmX6 hown hG hw hN rfl 18 (by decide) (hts (.fieldLink RX6 36 "TongueHouse$Reader" "seen" "[I") (by decide +kernel)) (fun _ h9 => h9) rfl hin rfl rfl rfl (Nat.le_of_ble_eq_true rfl) dX6_init_65 (fun f1 H locs hw hN => ?_)
  have hN : pw_N h0 6 L f _ _ [.null, .null, .null, .int 0, .int 0, .int 0, .int 0, .int 0, .int 0, .ref q1, .ref q2, .ref q3, .int 0, .ref q4, .ref q5, .int 0, .ref q6, .ref q7, .ref q8] [(q1, .inl (cy 1, 72, .inl (fun _ => 0))), (q2, .inl (cy 1, 25, .inl (fun _ => 0))), (q3, .inl (cy 2, 6, .inr (.inl (fun _ => 0)))), (q4, .inl (cy 1, 40, .inl (fun _ => 0))), (q5, .inl (cy 2, 40, .inr (.inl (fun _ => 0)))), (q6, .inl (cy 2, 41, .inr (.inl (fun _ => 0)))), (q7, .inl (cy 1, 60, .inl (fun _ => 0))), (q8, .inl (cy 1, 60, .inl (fun _ => 0)))] := hN
  refine lv_aload_n hx hb dX6_init_68 rfl (lv_at hl 0 rfl) ?_
  refine lv_aload_n hx hb dX6_init_69 rfl (lv_at hl 1 rfl) ?_
  refine pw_cputF (ci := 6) (v := .ref p1) (C := RX6) (T := TX6) (N := 19) hx hb hts hi6 tyX6 tyX6_ok nmX6 hown hG hw hN rfl 0 (by decide) (hts (.fieldLink RX6 39 "TongueHouse$Reader" "store" "LTongueHouse$Store;") (by decide +kernel)) (fun _ h9 => h9) rfl hin rfl rfl rfl (Nat.le_of_ble_eq_true rfl) dX6_init_70 (fun f1 H locs hw hN => ?_)
  have hN : pw_N h0 6 L f _ _ [.ref p1, .null, .null, .int 0, .int 0, .int 0, .int 0, .int 0, .int 0, .ref q1, .ref q2, .ref q3, .int 0, .ref q4, .ref q5, .int 0, .ref q6, .ref q7, .ref q8] [(q1, .inl (cy 1, 72, .inl (fun _ => 0))), (q2, .inl (cy 1, 25, .inl (fun _ => 0))), (q3, .inl (cy 2, 6, .inr (.inl (fun _ => 0)))), (q4, .inl (cy 1, 40, .inl (fun _ => 0))), (q5, .inl (cy 2, 40, .inr (.inl (fun _ => 0)))), (q6, .inl (cy 2, 41, .inr (.inl (fun _ => 0)))), (q7, .inl (cy 1, 60, .inl (fun _ => 0))), (q8, .inl (cy 1, 60, .inl (fun _ => 0)))] := hN
  refine lv_aload_n hx hb dX6_init_73 rfl (lv_at hl 0 rfl) ?_
  refine lv_aload_n hx hb dX6_init_74 rfl (lv_at hl 2 rfl) ?_
  refine pw_cputF (ci := 6) (v := .ref p2) (C := RX6) (T := TX6) (N := 19) hx hb hts hi6 tyX6 tyX6_ok nmX6 hown hG hw hN rfl 1 (by decide) (hts (.fieldLink RX6 43 "TongueHouse$Reader" "tape" "LTongueHouse$Text;") (by decide +kernel)) (fun _ h9 => h9) rfl hin rfl rfl rfl (Nat.le_of_ble_eq_true rfl) dX6_init_75 (fun f1 H locs hw hN => ?_)
  have hN : pw_N h0 6 L f _ _ [.ref p1, .ref p2, .null, .int 0, .int 0, .int 0, .int 0, .int 0, .int 0, .ref q1, .ref q2, .ref q3, .int 0, .ref q4, .ref q5, .int 0, .ref q6, .ref q7, .ref q8] [(q1, .inl (cy 1, 72, .inl (fun _ => 0))), (q2, .inl (cy 1, 25, .inl (fun _ => 0))), (q3, .inl (cy 2, 6, .inr (.inl (fun _ => 0)))), (q4, .inl (cy 1, 40, .inl (fun _ => 0))), (q5, .inl (cy 2, 40, .inr (.inl (fun _ => 0)))), (q6, .inl (cy 2, 41, .inr (.inl (fun _ => 0)))), (q7, .inl (cy 1, 60, .inl (fun _ => 0))), (q8, .inl (cy 1, 60, .inl (fun _ => 0)))] := hN
  refine W.widen (k := 8) (n := 344) (Nat.le_of_ble_eq_true rfl) (Nat.le_of_ble_eq_true rfl) ?_
  exact pw_vret hx hb hr hlocks hsz hw ⟨q1, q2, q3, q4, q5, q6, q7, q8, hN⟩ dX6_init_78
theorem bl_X0 : ∀ j, j < 22 → defaultValue (tyX0 j) = vp_V [.null, .null, .null, .int 0, .null, .null, .int 0, .null, .null, .null, .int 0, .int 0, .int 0, .null, .null, .null, .null, .int 0, .int 0, .null, .null, .null] j := by decide +kernel
set_option maxHeartbeats 4000000 in
set_option maxRecDepth 100000 in
/-- TongueHouse$Chart(..): 12 cells come -/
theorem c_X0_init (l : Launch) (D : va_G) (cy : Nat → ClassId) (h0 sz : Nat) (L : List Nat) (f : Nat → va_E) (p1 : Nat) (ha : h0 ∈ L) (he : f h0 = .inr (0, [.null, .null, .null, .int 0, .null, .null, .int 0, .null, .null, .null, .int 0, .int 0, .int 0, .null, .null, .null, .null, .int 0, .int 0, .null, .null, .null])) : Met l yX0_init wsX0_init ({ frames := 1, cells := 12, slots := 97293, locals := 12 }) (pw_Pc D cy [.ref h0, .ref p1] sz L f) (va_Qv (fun u : List Nat × (Nat → va_E) => ∃ q1 q2 q3 q4 q5 q6 q7 q8 q9 q10 q11 q12 : Nat, pw_N h0 0 L f u.1 u.2 [.ref p1, .ref q1, .ref q2, .int 0, .ref q3, .ref q4, .int 0, .ref q5, .ref q6, .ref q7, .int 0, .int 0, .int 0, .null, .null, .ref q8, .ref q9, .int 0, .int 0, .ref q10, .ref q11, .ref q12] [(q1, .inl (cy 1, 18432, .inl (fun _ => 0))), (q2, .inl (cy 1, 18432, .inl (fun _ => 0))), (q3, .inl (cy 1, 3000, .inl (fun _ => 0))), (q4, .inl (cy 1, 3000, .inl (fun _ => 0))), (q5, .inl (cy 1, 9000, .inl (fun _ => 0))), (q6, .inl (cy 1, 9000, .inl (fun _ => 0))), (q7, .inl (cy 1, 36000, .inl (fun _ => 0))), (q8, .inl (cy 1, 33, .inl (fun _ => 0))), (q9, .inl (cy 1, 384, .inl (fun _ => 0))), (q10, .inl (cy 1, 4, .inl (fun _ => 0))), (q11, .inl (cy 1, 4, .inl (fun _ => 0))), (q12, .inl (cy 1, 4, .inl (fun _ => 0)))]) (pw_B D (pw_A L f sz)) (pw_A L f sz)) 12 (97293) (pw_A L f sz) := by
  refine Met.ofW (cc := cX0_init) (maxL := 2) (ret := none) (by decide) rfl ?_
  intro p e s m args below meth c s₁ B hml hv
  obtain ⟨rfl, hsz, hG, hP, hD0⟩ := hv
  have hx := B.exec
  have hb := B.bytes
  have hr := B.returns
  have hts := atoms_spec (ws := wsX0_init) B.pre
  have hown : s.vm.findClass RX0 = some m.cls := findClass_of_methodNamed B.named
  have hlocks := B.notSynchronized
  have hin : meth.name = "<init>" := (name_of_methodNamed B.named B.method).1
  have hw := pw_start (cy := cy) hsz hP hD0
  have hN := pw_N.rf ha he
  have hl := lv_entry ([.ref h0, .ref p1]) (n := 2) (Nat.le_of_ble_eq_true rfl)
  rw [lg_entry_eq]
  generalize (lg_sl ([.ref h0, .ref p1]) ++ List.replicate (2 - (lg_sl ([.ref h0, .ref p1])).length) Slot.unset).toArray = ls at hl ⊢
  have hl : lv_has ls 2 [(0, .ref h0), (1, .ref p1)] := hl
  have hi0 : ∀ w ∈ u_ws RX0 TX0 22, w ∈ wsX0_init := (fun _ h => List.mem_cons_of_mem _ (List.mem_append_right _ h))
  refine lv_aload_n hx hb dX0_init_0 rfl (lv_at hl 0 rfl) ?_
  refine W.objInit hx hb hown (hts (.methodLink RX0 3 objectInit) (by decide +kernel)) (hts (.instanceMethod objectInit) (by decide +kernel)) (hts _ (show Cond.code objectInit ⟨#[0xb1]⟩ 1 none ∈ wsX0_init by decide +kernel)) rfl (by rw [hml]; exact hl.1) rfl dX0_init_1 (Nat.le_of_ble_eq_true rfl) (Nat.le_of_ble_eq_true rfl) ?_
  refine W.eq (g2 := F0 m 4 ls []) rfl ?_
  refine lv_aload_n hx hb dX0_init_4 rfl (lv_at hl 0 rfl) ?_
  refine lv_sipush (v := 18432) hx hb dX0_init_5 (by decide) ?_
  refine pw_cnewa (atype := .int) (t0 := 1) (cA := cy 1) (ty := .int) (N' := 18432) (a0 := (18432, .inl (fun _ => 0))) hx hb (hts (.arrayClass .int) (by decide +kernel)) rfl hG rfl (fun _ h => h) hw hN (fun _ => rfl) (by decide) (by decide) (Nat.le_of_ble_eq_true rfl) (Nat.le_of_ble_eq_true rfl) (Nat.le_of_ble_eq_true rfl) dX0_init_8 (fun q1 L1 f1 H hw hN => ?_)
  have hN : pw_N h0 0 L f _ _ [.null, .null, .null, .int 0, .null, .null, .int 0, .null, .null, .null, .int 0, .int 0, .int 0, .null, .null, .null, .null, .int 0, .int 0, .null, .null, .null] [(q1, .inl (cy 1, 18432, .inl (fun _ => 0)))] := hN
  refine pw_cputF (ci := 0) (v := .ref q1) (C := RX0) (T := TX0) (N := 22) hx hb hts hi0 tyX0 tyX0_ok nmX0 hown hG hw hN rfl 1 (by decide) (hts (.fieldLink RX0 9 "TongueHouse$Chart" "firstNode" "[I") (by decide +kernel)) (fun _ h9 => h9) rfl hin rfl rfl rfl (Nat.le_of_ble_eq_true rfl) dX0_init_10 (fun f1 H locs hw hN => ?_)
  have hN : pw_N h0 0 L f _ _ [.null, .ref q1, .null, .int 0, .null, .null, .int 0, .null, .null, .null, .int 0, .int 0, .int 0, .null, .null, .null, .null, .int 0, .int 0, .null, .null, .null] [(q1, .inl (cy 1, 18432, .inl (fun _ => 0)))] := hN
  refine lv_aload_n hx hb dX0_init_13 rfl (lv_at hl 0 rfl) ?_
  refine lv_sipush (v := 18432) hx hb dX0_init_14 (by decide) ?_
  refine pw_cnewa (atype := .int) (t0 := 1) (cA := cy 1) (ty := .int) (N' := 18432) (a0 := (18432, .inl (fun _ => 0))) hx hb (hts (.arrayClass .int) (by decide +kernel)) rfl hG rfl (fun _ h => h) hw hN (fun _ => rfl) (by decide) (by decide) (Nat.le_of_ble_eq_true rfl) (Nat.le_of_ble_eq_true rfl) (Nat.le_of_ble_eq_true rfl) dX0_init_17 (fun q2 L1 f1 H hw hN => ?_)
  have hN : pw_N h0 0 L f _ _ [.null, .ref q1, .null, .int 0, .null, .null, .int 0, .null, .null, .null, .int 0, .int 0, .int 0, .null, .null, .null, .null, .int 0, .int 0, .null, .null, .null] [(q1, .inl (cy 1, 18432, .inl (fun _ => 0))), (q2, .inl (cy 1, 18432, .inl (fun _ => 0)))] := hN
  refine pw_cputF (ci := 0) (v := .ref q2) (C := RX0) (T := TX0) (N := 22) hx hb hts hi0 tyX0 tyX0_ok nmX0 hown hG hw hN rfl 2 (by decide) (hts (.fieldLink RX0 15 "TongueHouse$Chart" "nodeCount" "[I") (by decide +kernel)) (fun _ h9 => h9) rfl hin rfl rfl rfl (Nat.le_of_ble_eq_true rfl) dX0_init_19 (fun f1 H locs hw hN => ?_)
  have hN : pw_N h0 0 L f _ _ [.null, .ref q1, .ref q2, .int 0, .null, .null, .int 0, .null, .null, .null, .int 0, .int 0, .int 0, .null, .null, .null, .null, .int 0, .int 0, .null, .null, .null] [(q1, .inl (cy 1, 18432, .inl (fun _ => 0))), (q2, .inl (cy 1, 18432, .inl (fun _ => 0)))] := hN
  refine lv_aload_n hx hb dX0_init_22 rfl (lv_at hl 0 rfl) ?_
  refine lv_sipush (v := 3000) hx hb dX0_init_23 (by decide) ?_
  refine pw_cnewa (atype := .int) (t0 := 1) (cA := cy 1) (ty := .int) (N' := 3000) (a0 := (3000, .inl (fun _ => 0))) hx hb (hts (.arrayClass .int) (by decide +kernel)) rfl hG rfl (fun _ h => h) hw hN (fun _ => rfl) (by decide) (by decide) (Nat.le_of_ble_eq_true rfl) (Nat.le_of_ble_eq_true rfl) (Nat.le_of_ble_eq_true rfl) dX0_init_26 (fun q3 L1 f1 H hw hN => ?_)
  have hN : pw_N h0 0 L f _ _ [.null, .ref q1, .ref q2, .int 0, .null, .null, .int 0, .null, .null, .null, .int 0, .int 0, .int 0, .null, .null, .null, .null, .int 0, .int 0, .null, .null, .null] [(q1, .inl (cy 1, 18432, .inl (fun _ => 0))), (q2, .inl (cy 1, 18432, .inl (fun _ => 0))), (q3, .inl (cy 1, 3000, .inl (fun _ => 0)))] := hN
  refine pw_cputF (ci := 0) (v := .ref q3) (C := RX0) (T := TX0) (N := 22) hx hb hts hi0 tyX0 tyX0_ok nmX0 hown hG hw hN rfl 4 (by decide) (hts (.fieldLink RX0 18 "TongueHouse$Chart" "nodeEnd" "[I") (by decide +kernel)) (fun _ h9 => h9) rfl hin rfl rfl rfl (Nat.le_of_ble_eq_true rfl) dX0_init_28 (fun f1 H locs hw hN => ?_)
  have hN : pw_N h0 0 L f _ _ [.null, .ref q1, .ref q2, .int 0, .ref q3, .null, .int 0, .null, .null, .null, .int 0, .int 0, .int 0, .null, .null, .null, .null, .int 0, .int 0, .null, .null, .null] [(q1, .inl (cy 1, 18432, .inl (fun _ => 0))), (q2, .inl (cy 1, 18432, .inl (fun _ => 0))), (q3, .inl (cy 1, 3000, .inl (fun _ => 0)))] := hN
  refine lv_aload_n hx hb dX0_init_31 rfl (lv_at hl 0 rfl) ?_
  refine lv_sipush (v := 3000) hx hb dX0_init_32 (by decide) ?_
  refine pw_cnewa (atype := .int) (t0 := 1) (cA := cy 1) (ty := .int) (N' := 3000) (a0 := (3000, .inl (fun _ => 0))) hx hb (hts (.arrayClass .int) (by decide +kernel)) rfl hG rfl (fun _ h => h) hw hN (fun _ => rfl) (by decide) (by decide) (Nat.le_of_ble_eq_true rfl) (Nat.le_of_ble_eq_true rfl) (Nat.le_of_ble_eq_true rfl) dX0_init_35 (fun q4 L1 f1 H hw hN => ?_)
  have hN : pw_N h0 0 L f _ _ [.null, .ref q1, .ref q2, .int 0, .ref q3, .null, .int 0, .null, .null, .null, .int 0, .int 0, .int 0, .null, .null, .null, .null, .int 0, .int 0, .null, .null, .null] [(q1, .inl (cy 1, 18432, .inl (fun _ => 0))), (q2, .inl (cy 1, 18432, .inl (fun _ => 0))), (q3, .inl (cy 1, 3000, .inl (fun _ => 0))), (q4, .inl (cy 1, 3000, .inl (fun _ => 0)))] := hN
  refine pw_cputF (ci := 0) (v := .ref q4) (C := RX0) (T := TX0) (N := 22) hx hb hts hi0 tyX0 tyX0_ok nmX0 hown hG hw hN rfl 5 (by decide) (hts (.fieldLink RX0 21 "TongueHouse$Chart" "nodeValues" "[I") (by decide +kernel)) (fun _ h9 => h9) rfl hin rfl rfl rfl (Nat.le_of_ble_eq_true rfl) dX0_init_37 (fun f1 H locs hw hN => ?_)
  have hN : pw_N h0 0 L f _ _ [.null, .ref q1, .ref q2, .int 0, .ref q3, .ref q4, .int 0, .null, .null, .null, .int 0, .int 0, .int 0, .null, .null, .null, .null, .int 0, .int 0, .null, .null, .null] [(q1, .inl (cy 1, 18432, .inl (fun _ => 0))), (q2, .inl (cy 1, 18432, .inl (fun _ => 0))), (q3, .inl (cy 1, 3000, .inl (fun _ => 0))), (q4, .inl (cy 1, 3000, .inl (fun _ => 0)))] := hN
  refine lv_aload_n hx hb dX0_init_40 rfl (lv_at hl 0 rfl) ?_
  refine lv_sipush (v := 9000) hx hb dX0_init_41 (by decide) ?_
  refine pw_cnewa (atype := .int) (t0 := 1) (cA := cy 1) (ty := .int) (N' := 9000) (a0 := (9000, .inl (fun _ => 0))) hx hb (hts (.arrayClass .int) (by decide +kernel)) rfl hG rfl (fun _ h => h) hw hN (fun _ => rfl) (by decide) (by decide) (Nat.le_of_ble_eq_true rfl) (Nat.le_of_ble_eq_true rfl) (Nat.le_of_ble_eq_true rfl) dX0_init_44 (fun q5 L1 f1 H hw hN => ?_)
  have hN : pw_N h0 0 L f _ _ [.null, .ref q1, .ref q2, .int 0, .ref q3, .ref q4, .int 0, .null, .null, .null, .int 0, .int 0, .int 0, .null, .null, .null, .null, .int 0, .int 0, .null, .null, .null] [(q1, .inl (cy 1, 18432, .inl (fun _ => 0))), (q2, .inl (cy 1, 18432, .inl (fun _ => 0))), (q3, .inl (cy 1, 3000, .inl (fun _ => 0))), (q4, .inl (cy 1, 3000, .inl (fun _ => 0))), (q5, .inl (cy 1, 9000, .inl (fun _ => 0)))] := hN
  refine pw_cputF (ci := 0) (v := .ref q5) (C := RX0) (T := TX0) (N := 22) hx hb hts hi0 tyX0 tyX0_ok nmX0 hown hG hw hN rfl 7 (by decide) (hts (.fieldLink RX0 24 "TongueHouse$Chart" "wayNode" "[I") (by decide +kernel)) (fun _ h9 => h9) rfl hin rfl rfl rfl (Nat.le_of_ble_eq_true rfl) dX0_init_46 (fun f1 H locs hw hN => ?_)
  have hN : pw_N h0 0 L f _ _ [.null, .ref q1, .ref q2, .int 0, .ref q3, .ref q4, .int 0, .ref q5, .null, .null, .int 0, .int 0, .int 0, .null, .null, .null, .null, .int 0, .int 0, .null, .null, .null] [(q1, .inl (cy 1, 18432, .inl (fun _ => 0))), (q2, .inl (cy 1, 18432, .inl (fun _ => 0))), (q3, .inl (cy 1, 3000, .inl (fun _ => 0))), (q4, .inl (cy 1, 3000, .inl (fun _ => 0))), (q5, .inl (cy 1, 9000, .inl (fun _ => 0)))] := hN
  refine lv_aload_n hx hb dX0_init_49 rfl (lv_at hl 0 rfl) ?_
  refine lv_sipush (v := 9000) hx hb dX0_init_50 (by decide) ?_
  refine pw_cnewa (atype := .int) (t0 := 1) (cA := cy 1) (ty := .int) (N' := 9000) (a0 := (9000, .inl (fun _ => 0))) hx hb (hts (.arrayClass .int) (by decide +kernel)) rfl hG rfl (fun _ h => h) hw hN (fun _ => rfl) (by decide) (by decide) (Nat.le_of_ble_eq_true rfl) (Nat.le_of_ble_eq_true rfl) (Nat.le_of_ble_eq_true rfl) dX0_init_53 (fun q6 L1 f1 H hw hN => ?_)
  have hN : pw_N h0 0 L f _ _ [.null, .ref q1, .ref q2, .int 0, .ref q3, .ref q4, .int 0, .ref q5, .null, .null, .int 0, .int 0, .int 0, .null, .null, .null, .null, .int 0, .int 0, .null, .null, .null] [(q1, .inl (cy 1, 18432, .inl (fun _ => 0))), (q2, .inl (cy 1, 18432, .inl (fun _ => 0))), (q3, .inl (cy 1, 3000, .inl (fun _ => 0))), (q4, .inl (cy 1, 3000, .inl (fun _ => 0))), (q5, .inl (cy 1, 9000, .inl (fun _ => 0))), (q6, .inl (cy 1, 9000, .inl (fun _ => 0)))] := hN
  refine pw_cputF (ci := 0) (v := .ref q6) (C := RX0) (T := TX0) (N := 22) hx hb hts hi0 tyX0 tyX0_ok nmX0 hown hG hw hN rfl 8 (by decide) (hts (.fieldLink RX0 27 "TongueHouse$Chart" "wayRule" "[I") (by decide +kernel)) (fun _ h9 => h9) rfl hin rfl rfl rfl (Nat.le_of_ble_eq_true rfl) dX0_init_55 (fun f1 H locs hw hN => ?_)
  have hN : pw_N h0 0 L f _ _ [.null, .ref q1, .ref q2, .int 0, .ref q3, .ref q4, .int 0, .ref q5, .ref q6, .null, .int 0, .int 0, .int 0, .null, .null, .null, .null, .int 0, .int 0, .null, .null, .null] [(q1, .inl (cy 1, 18432, .inl (fun _ => 0))), (q2, .inl (cy 1, 18432, .inl (fun _ => 0))), (q3, .inl (cy 1, 3000, .inl (fun _ => 0))), (q4, .inl (cy 1, 3000, .inl (fun _ => 0))), (q5, .inl (cy 1, 9000, .inl (fun _ => 0))), (q6, .inl (cy 1, 9000, .inl (fun _ => 0)))] := hN
  refine lv_aload_n hx hb dX0_init_58 rfl (lv_at hl 0 rfl) ?_
  refine lv_ldc (v := 36000) hx hb hown (hts (.constant RX0 30 36000) (by decide +kernel)) dX0_init_59 ?_
  refine pw_cnewa (atype := .int) (t0 := 1) (cA := cy 1) (ty := .int) (N' := 36000) (a0 := (36000, .inl (fun _ => 0))) hx hb (hts (.arrayClass .int) (by decide +kernel)) rfl hG rfl (fun _ h => h) hw hN (fun _ => rfl) (by decide) (by decide) (Nat.le_of_ble_eq_true rfl) (Nat.le_of_ble_eq_true rfl) (Nat.le_of_ble_eq_true rfl) dX0_init_61 (fun q7 L1 f1 H hw hN => ?_)
  have hN : pw_N h0 0 L f _ _ [.null, .ref q1, .ref q2, .int 0, .ref q3, .ref q4, .int 0, .ref q5, .ref q6, .null, .int 0, .int 0, .int 0, .null, .null, .null, .null, .int 0, .int 0, .null, .null, .null] [(q1, .inl (cy 1, 18432, .inl (fun _ => 0))), (q2, .inl (cy 1, 18432, .inl (fun _ => 0))), (q3, .inl (cy 1, 3000, .inl (fun _ => 0))), (q4, .inl (cy 1, 3000, .inl (fun _ => 0))), (q5, .inl (cy 1, 9000, .inl (fun _ => 0))), (q6, .inl (cy 1, 9000, .inl (fun _ => 0))), (q7, .inl (cy 1, 36000, .inl (fun _ => 0)))] := hN
  refine pw_cputF (ci := 0) (v := .ref q7) (C := RX0) (T := TX0) (N := 22) hx hb hts hi0 tyX0 tyX0_ok nmX0 hown hG hw hN rfl 9 (by decide) (hts (.fieldLink RX0 31 "TongueHouse$Chart" "wayArgs" "[I") (by decide +kernel)) (fun _ h9 => h9) rfl hin rfl rfl rfl (Nat.le_of_ble_eq_true rfl) dX0_init_63 (fun f1 H locs hw hN => ?_)
  have hN : pw_N h0 0 L f _ _ [.null, .ref q1, .ref q2, .int 0, .ref q3, .ref q4, .int 0, .ref q5, .ref q6, .ref q7, .int 0, .int 0, .int 0, .null, .null, .null, .null, .int 0, .int 0, .null, .null, .null] [(q1, .inl (cy 1, 18432, .inl (fun _ => 0))), (q2, .inl (cy 1, 18432, .inl (fun _ => 0))), (q3, .inl (cy 1, 3000, .inl (fun _ => 0))), (q4, .inl (cy 1, 3000, .inl (fun _ => 0))), (q5, .inl (cy 1, 9000, .inl (fun _ => 0))), (q6, .inl (cy 1, 9000, .inl (fun _ => 0))), (q7, .inl (cy 1, 36000, .inl (fun _ => 0)))] := hN
  refine lv_aload_n hx hb dX0_init_66 rfl (lv_at hl 0 rfl) ?_
  refine lv_bipush (v := 33) hx hb dX0_init_67 (by decide) ?_
  refine pw_cnewa (atype := .int) (t0 := 1) (cA := cy 1) (ty := .int) (N' := 33) (a0 := (33, .inl (fun _ => 0))) hx hb (hts (.arrayClass .int) (by decide +kernel)) rfl hG rfl (fun _ h => h) hw hN (fun _ => rfl) (by decide) (by decide) (Nat.le_of_ble_eq_true rfl) (Nat.le_of_ble_eq_true rfl) (Nat.le_of_ble_eq_true rfl) dX0_init_69 (fun q8 L1 f1 H hw hN => ?_)
  have hN : pw_N h0 0 L f _ _ [.null, .ref q1, .ref q2, .int 0, .ref q3, .ref q4, .int 0, .ref q5, .ref q6, .ref q7, .int 0, .int 0, .int 0, .null, .null, .null, .null, .int 0, .int 0, .null, .null, .null] [(q1, .inl (cy 1, 18432, .inl (fun _ => 0))), (q2, .inl (cy 1, 18432, .inl (fun _ => 0))), (q3, .inl (cy 1, 3000, .inl (fun _ => 0))), (q4, .inl (cy 1, 3000, .inl (fun _ => 0))), (q5, .inl (cy 1, 9000, .inl (fun _ => 0))), (q6, .inl (cy 1, 9000, .inl (fun _ => 0))), (q7, .inl (cy 1, 36000, .inl (fun _ => 0))), (q8, .inl (cy 1, 33, .inl (fun _ => 0)))] := hN
  refine pw_cputF (ci := 0) (v := .ref q8) (C := RX0) (T := TX0) (N := 22) hx hb hts hi0 tyX0 tyX0_ok nmX0 hown hG hw hN rfl 15 (by decide) (hts (.fieldLink RX0 34 "TongueHouse$Chart" "kindLins" "[I") (by decide +kernel)) (fun _ h9 => h9) rfl hin rfl rfl rfl (Nat.le_of_ble_eq_true rfl) dX0_init_71 (fun f1 H locs hw hN => ?_)
  have hN : pw_N h0 0 L f _ _ [.null, .ref q1, .ref q2, .int 0, .ref q3, .ref q4, .int 0, .ref q5, .ref q6, .ref q7, .int 0, .int 0, .int 0, .null, .null, .ref q8, .null, .int 0, .int 0, .null, .null, .null] [(q1, .inl (cy 1, 18432, .inl (fun _ => 0))), (q2, .inl (cy 1, 18432, .inl (fun _ => 0))), (q3, .inl (cy 1, 3000, .inl (fun _ => 0))), (q4, .inl (cy 1, 3000, .inl (fun _ => 0))), (q5, .inl (cy 1, 9000, .inl (fun _ => 0))), (q6, .inl (cy 1, 9000, .inl (fun _ => 0))), (q7, .inl (cy 1, 36000, .inl (fun _ => 0))), (q8, .inl (cy 1, 33, .inl (fun _ => 0)))] := hN
  refine lv_aload_n hx hb dX0_init_74 rfl (lv_at hl 0 rfl) ?_
  refine lv_sipush (v := 384) hx hb dX0_init_75 (by decide) ?_
  refine pw_cnewa (atype := .int) (t0 := 1) (cA := cy 1) (ty := .int) (N' := 384) (a0 := (384, .inl (fun _ => 0))) hx hb (hts (.arrayClass .int) (by decide +kernel)) rfl hG rfl (fun _ h => h) hw hN (fun _ => rfl) (by decide) (by decide) (Nat.le_of_ble_eq_true rfl) (Nat.le_of_ble_eq_true rfl) (Nat.le_of_ble_eq_true rfl) dX0_init_78 (fun q9 L1 f1 H hw hN => ?_)
  have hN : pw_N h0 0 L f _ _ [.null, .ref q1, .ref q2, .int 0, .ref q3, .ref q4, .int 0, .ref q5, .ref q6, .ref q7, .int 0, .int 0, .int 0, .null, .null, .ref q8, .null, .int 0, .int 0, .null, .null, .null] [(q1, .inl (cy 1, 18432, .inl (fun _ => 0))), (q2, .inl (cy 1, 18432, .inl (fun _ => 0))), (q3, .inl (cy 1, 3000, .inl (fun _ => 0))), (q4, .inl (cy 1, 3000, .inl (fun _ => 0))), (q5, .inl (cy 1, 9000, .inl (fun _ => 0))), (q6, .inl (cy 1, 9000, .inl (fun _ => 0))), (q7, .inl (cy 1, 36000, .inl (fun _ => 0))), (q8, .inl (cy 1, 33, .inl (fun _ => 0))), (q9, .inl (cy 1, 384, .inl (fun _ => 0)))] := hN
  refine pw_cputF (ci := 0) (v := .ref q9) (C := RX0) (T := TX0) (N := 22) hx hb hts hi0 tyX0 tyX0_ok nmX0 hown hG hw hN rfl 16 (by decide) (hts (.fieldLink RX0 37 "TongueHouse$Chart" "linOrder" "[I") (by decide +kernel)) (fun _ h9 => h9) rfl hin rfl rfl rfl (Nat.le_of_ble_eq_true rfl) dX0_init_80 (fun f1 H locs hw hN => ?_)
  have hN : pw_N h0 0 L f _ _ [.null, .ref q1, .ref q2, .int 0, .ref q3, .ref q4, .int 0, .ref q5, .ref q6, .ref q7, .int 0, .int 0, .int 0, .null, .null, .ref q8, .ref q9, .int 0, .int 0, .null, .null, .null] [(q1, .inl (cy 1, 18432, .inl (fun _ => 0))), (q2, .inl (cy 1, 18432, .inl (fun _ => 0))), (q3, .inl (cy 1, 3000, .inl (fun _ => 0))), (q4, .inl (cy 1, 3000, .inl (fun _ => 0))), (q5, .inl (cy 1, 9000, .inl (fun _ => 0))), (q6, .inl (cy 1, 9000, .inl (fun _ => 0))), (q7, .inl (cy 1, 36000, .inl (fun _ => 0))), (q8, .inl (cy 1, 33, .inl (fun _ => 0))), (q9, .inl (cy 1, 384, .inl (fun _ => 0)))] := hN
  refine lv_aload_n hx hb dX0_init_83 rfl (lv_at hl 0 rfl) ?_
  refine lv_iconst (v := 4) hx hb dX0_init_84 (by decide) ?_
  refine pw_cnewa (atype := .int) (t0 := 1) (cA := cy 1) (ty := .int) (N' := 4) (a0 := (4, .inl (fun _ => 0))) hx hb (hts (.arrayClass .int) (by decide +kernel)) rfl hG rfl (fun _ h => h) hw hN (fun _ => rfl) (by decide) (by decide) (Nat.le_of_ble_eq_true rfl) (Nat.le_of_ble_eq_true rfl) (Nat.le_of_ble_eq_true rfl) dX0_init_85 (fun q10 L1 f1 H hw hN => ?_)
  have hN : pw_N h0 0 L f _ _ [.null, .ref q1, .ref q2, .int 0, .ref q3, .ref q4, .int 0, .ref q5, .ref q6, .ref q7, .int 0, .int 0, .int 0, .null, .null, .ref q8, .ref q9, .int 0, .int 0, .null, .null, .null] [(q1, .inl (cy 1, 18432, .inl (fun _ => 0))), (q2, .inl (cy 1, 18432, .inl (fun _ => 0))), (q3, .inl (cy 1, 3000, .inl (fun _ => 0))), (q4, .inl (cy 1, 3000, .inl (fun _ => 0))), (q5, .inl (cy 1, 9000, .inl (fun _ => 0))), (q6, .inl (cy 1, 9000, .inl (fun _ => 0))), (q7, .inl (cy 1, 36000, .inl (fun _ => 0))), (q8, .inl (cy 1, 33, .inl (fun _ => 0))), (q9, .inl (cy 1, 384, .inl (fun _ => 0))), (q10, .inl (cy 1, 4, .inl (fun _ => 0)))] := hN
  refine pw_cputF (ci := 0) (v := .ref q10) (C := RX0) (T := TX0) (N := 22) hx hb hts hi0 tyX0 tyX0_ok nmX0 hown hG hw hN rfl 19 (by decide) (hts (.fieldLink RX0 40 "TongueHouse$Chart" "chosen" "[I") (by decide +kernel)) (fun _ h9 => h9) rfl hin rfl rfl rfl (Nat.le_of_ble_eq_true rfl) dX0_init_87 (fun f1 H locs hw hN => ?_)
  have hN : pw_N h0 0 L f _ _ [.null, .ref q1, .ref q2, .int 0, .ref q3, .ref q4, .int 0, .ref q5, .ref q6, .ref q7, .int 0, .int 0, .int 0, .null, .null, .ref q8, .ref q9, .int 0, .int 0, .ref q10, .null, .null] [(q1, .inl (cy 1, 18432, .inl (fun _ => 0))), (q2, .inl (cy 1, 18432, .inl (fun _ => 0))), (q3, .inl (cy 1, 3000, .inl (fun _ => 0))), (q4, .inl (cy 1, 3000, .inl (fun _ => 0))), (q5, .inl (cy 1, 9000, .inl (fun _ => 0))), (q6, .inl (cy 1, 9000, .inl (fun _ => 0))), (q7, .inl (cy 1, 36000, .inl (fun _ => 0))), (q8, .inl (cy 1, 33, .inl (fun _ => 0))), (q9, .inl (cy 1, 384, .inl (fun _ => 0))), (q10, .inl (cy 1, 4, .inl (fun _ => 0)))] := hN
  refine lv_aload_n hx hb dX0_init_90 rfl (lv_at hl 0 rfl) ?_
  refine lv_iconst (v := 4) hx hb dX0_init_91 (by decide) ?_
  refine pw_cnewa (atype := .int) (t0 := 1) (cA := cy 1) (ty := .int) (N' := 4) (a0 := (4, .inl (fun _ => 0))) hx hb (hts (.arrayClass .int) (by decide +kernel)) rfl hG rfl (fun _ h => h) hw hN (fun _ => rfl) (by decide) (by decide) (Nat.le_of_ble_eq_true rfl) (Nat.le_of_ble_eq_true rfl) (Nat.le_of_ble_eq_true rfl) dX0_init_92 (fun q11 L1 f1 H hw hN => ?_)
  have hN : pw_N h0 0 L f _ _ [.null, .ref q1, .ref q2, .int 0, .ref q3, .ref q4, .int 0, .ref q5, .ref q6, .ref q7, .int 0, .int 0, .int 0, .null, .null, .ref q8, .ref q9, .int 0, .int 0, .ref q10, .null, .null] [(q1, .inl (cy 1, 18432, .inl (fun _ => 0))), (q2, .inl (cy 1, 18432, .inl (fun _ => 0))), (q3, .inl (cy 1, 3000, .inl (fun _ => 0))), (q4, .inl (cy 1, 3000, .inl (fun _ => 0))), (q5, .inl (cy 1, 9000, .inl (fun _ => 0))), (q6, .inl (cy 1, 9000, .inl (fun _ => 0))), (q7, .inl (cy 1, 36000, .inl (fun _ => 0))), (q8, .inl (cy 1, 33, .inl (fun _ => 0))), (q9, .inl (cy 1, 384, .inl (fun _ => 0))), (q10, .inl (cy 1, 4, .inl (fun _ => 0))), (q11, .inl (cy 1, 4, .inl (fun _ => 0)))] := hN
  refine pw_cputF (ci := 0) (v := .ref q11) (C := RX0) (T := TX0) (N := 22) hx hb hts hi0 tyX0 tyX0_ok nmX0 hown hG hw hN rfl 20 (by decide) (hts (.fieldLink RX0 43 "TongueHouse$Chart" "chosenValues" "[I") (by decide +kernel)) (fun _ h9 => h9) rfl hin rfl rfl rfl (Nat.le_of_ble_eq_true rfl) dX0_init_94 (fun f1 H locs hw hN => ?_)
  have hN : pw_N h0 0 L f _ _ [.null, .ref q1, .ref q2, .int 0, .ref q3, .ref q4, .int 0, .ref q5, .ref q6, .ref q7, .int 0, .int 0, .int 0, .null, .null, .ref q8, .ref q9, .int 0, .int 0, .ref q10, .ref q11, .null] [(q1, .inl (cy 1, 18432, .inl (fun _ => 0))), (q2, .inl (cy 1, 18432, .inl (fun _ => 0))), (q3, .inl (cy 1, 3000, .inl (fun _ => 0))), (q4, .inl (cy 1, 3000, .inl (fun _ => 0))), (q5, .inl (cy 1, 9000, .inl (fun _ => 0))), (q6, .inl (cy 1, 9000, .inl (fun _ => 0))), (q7, .inl (cy 1, 36000, .inl (fun _ => 0))), (q8, .inl (cy 1, 33, .inl (fun _ => 0))), (q9, .inl (cy 1, 384, .inl (fun _ => 0))), (q10, .inl (cy 1, 4, .inl (fun _ => 0))), (q11, .inl (cy 1, 4, .inl (fun _ => 0)))] := hN
  refine lv_aload_n hx hb dX0_init_97 rfl (lv_at hl 0 rfl) ?_
  refine lv_iconst (v := 4) hx hb dX0_init_98 (by decide) ?_
  refine pw_cnewa (atype := .int) (t0 := 1) (cA := cy 1) (ty := .int) (N' := 4) (a0 := (4, .inl (fun _ => 0))) hx hb (hts (.arrayClass .int) (by decide +kernel)) rfl hG rfl (fun _ h => h) hw hN (fun _ => rfl) (by decide) (by decide) (Nat.le_of_ble_eq_true rfl) (Nat.le_of_ble_eq_true rfl) (Nat.le_of_ble_eq_true rfl) dX0_init_99 (fun q12 L1 f1 H hw hN => ?_)
  have hN : pw_N h0 0 L f _ _ [.null, .ref q1, .ref q2, .int 0, .ref q3, .ref q4, .int 0, .ref q5, .ref q6, .ref q7, .int 0, .int 0, .int 0, .null, .null, .ref q8, .ref q9, .int 0, .int 0, .ref q10, .ref q11, .null] [(q1, .inl (cy 1, 18432, .inl (fun _ => 0))), (q2, .inl (cy 1, 18432, .inl (fun _ => 0))), (q3, .inl (cy 1, 3000, .inl (fun _ => 0))), (q4, .inl (cy 1, 3000, .inl (fun _ => 0))), (q5, .inl (cy 1, 9000, .inl (fun _ => 0))), (q6, .inl (cy 1, 9000, .inl (fun _ => 0))), (q7, .inl (cy 1, 36000, .inl (fun _ => 0))), (q8, .inl (cy 1, 33, .inl (fun _ => 0))), (q9, .inl (cy 1, 384, .inl (fun _ => 0))), (q10, .inl (cy 1, 4, .inl (fun _ => 0))), (q11, .inl (cy 1, 4, .inl (fun _ => 0))), (q12, .inl (cy 1, 4, .inl (fun _ => 0)))] := hN
  refine pw_cputF (ci := 0) (v := .ref q12) (C := RX0) (T := TX0) (N := 22) hx hb hts hi0 tyX0 tyX0_ok nmX0 hown hG hw hN rfl 21 (by decide) (hts (.fieldLink RX0 46 "TongueHouse$Chart" "work" "[I") (by decide +kernel)) (fun _ h9 => h9) rfl hin rfl rfl rfl (Nat.le_of_ble_eq_true rfl) dX0_init_101 (fun f1 H locs hw hN => ?_)
  have hN : pw_N h0 0 L f _ _ [.null, .ref q1, .ref q2, .int 0, .ref q3, .ref q4, .int 0, .ref q5, .ref q6, .ref q7, .int 0, .int 0, .int 0, .null, .null, .ref q8, .ref q9, .int 0, .int 0, .ref q10, .ref q11, .ref q12] [(q1, .inl (cy 1, 18432, .inl (fun _ => 0))), (q2, .inl (cy 1, 18432, .inl (fun _ => 0))), (q3, .inl (cy 1, 3000, .inl (fun _ => 0))), (q4, .inl (cy 1, 3000, .inl (fun _ => 0))), (q5, .inl (cy 1, 9000, .inl (fun _ => 0))), (q6, .inl (cy 1, 9000, .inl (fun _ => 0))), (q7, .inl (cy 1, 36000, .inl (fun _ => 0))), (q8, .inl (cy 1, 33, .inl (fun _ => 0))), (q9, .inl (cy 1, 384, .inl (fun _ => 0))), (q10, .inl (cy 1, 4, .inl (fun _ => 0))), (q11, .inl (cy 1, 4, .inl (fun _ => 0))), (q12, .inl (cy 1, 4, .inl (fun _ => 0)))] := hN
  refine lv_aload_n hx hb dX0_init_104 rfl (lv_at hl 0 rfl) ?_
  refine lv_aload_n hx hb dX0_init_105 rfl (lv_at hl 1 rfl) ?_
  refine pw_cputF (ci := 0) (v := .ref p1) (C := RX0) (T := TX0) (N := 22) hx hb hts hi0 tyX0 tyX0_ok nmX0 hown hG hw hN rfl 0 (by decide) (hts (.fieldLink RX0 49 "TongueHouse$Chart" "store" "LTongueHouse$Store;") (by decide +kernel)) (fun _ h9 => h9) rfl hin rfl rfl rfl (Nat.le_of_ble_eq_true rfl) dX0_init_106 (fun f1 H locs hw hN => ?_)
  have hN : pw_N h0 0 L f _ _ [.ref p1, .ref q1, .ref q2, .int 0, .ref q3, .ref q4, .int 0, .ref q5, .ref q6, .ref q7, .int 0, .int 0, .int 0, .null, .null, .ref q8, .ref q9, .int 0, .int 0, .ref q10, .ref q11, .ref q12] [(q1, .inl (cy 1, 18432, .inl (fun _ => 0))), (q2, .inl (cy 1, 18432, .inl (fun _ => 0))), (q3, .inl (cy 1, 3000, .inl (fun _ => 0))), (q4, .inl (cy 1, 3000, .inl (fun _ => 0))), (q5, .inl (cy 1, 9000, .inl (fun _ => 0))), (q6, .inl (cy 1, 9000, .inl (fun _ => 0))), (q7, .inl (cy 1, 36000, .inl (fun _ => 0))), (q8, .inl (cy 1, 33, .inl (fun _ => 0))), (q9, .inl (cy 1, 384, .inl (fun _ => 0))), (q10, .inl (cy 1, 4, .inl (fun _ => 0))), (q11, .inl (cy 1, 4, .inl (fun _ => 0))), (q12, .inl (cy 1, 4, .inl (fun _ => 0)))] := hN
  refine W.widen (k := 12) (n := 97293) (Nat.le_of_ble_eq_true rfl) (Nat.le_of_ble_eq_true rfl) ?_
  exact pw_vret hx hb hr hlocks hsz hw ⟨q1, q2, q3, q4, q5, q6, q7, q8, q9, q10, q11, q12, hN⟩ dX0_init_109
theorem bl_X5 : ∀ j, j < 19 → defaultValue (tyX5 j) = vp_V [.null, .null, .null, .int 0, .int 0, .null, .null, .null, .int 0, .null, .null, .null, .null, .null, .null, .int 0, .null, .null, .null] j := by decide +kernel
set_option maxHeartbeats 4000000 in
set_option maxRecDepth 100000 in
/-- TongueHouse$Ranking(..): 12 cells come -/
theorem c_X5_init (l : Launch) (D : va_G) (cy : Nat → ClassId) (h0 sz : Nat) (L : List Nat) (f : Nat → va_E) (p1 : Nat) (p2 : Nat) (ha : h0 ∈ L) (he : f h0 = .inr (5, [.null, .null, .null, .int 0, .int 0, .null, .null, .null, .int 0, .null, .null, .null, .null, .null, .null, .int 0, .null, .null, .null])) : Met l yX5_init wsX5_init ({ frames := 1, cells := 12, slots := 171372, locals := 12 }) (pw_Pc D cy [.ref h0, .ref p1, .ref p2] sz L f) (va_Qv (fun u : List Nat × (Nat → va_E) => ∃ q1 q2 q3 q4 q5 q6 q7 q8 q9 q10 q11 q12 : Nat, pw_N h0 5 L f u.1 u.2 [.ref p1, .ref p2, .null, .int 0, .int 0, .ref q1, .ref q2, .ref q3, .int 0, .ref q4, .ref q5, .ref q6, .ref q7, .ref q8, .ref q9, .int 0, .ref q10, .ref q11, .ref q12] [(q1, .inl (cy 3, 96, .inl (fun _ => 0))), (q2, .inl (cy 2, 3000, .inr (.inl (fun _ => 0)))), (q3, .inl (cy 3, 3000, .inl (fun _ => 0))), (q4, .inl (cy 1, 9000, .inl (fun _ => 0))), (q5, .inl (cy 1, 9000, .inl (fun _ => 0))), (q6, .inl (cy 1, 3000, .inl (fun _ => 0))), (q7, .inl (cy 1, 48000, .inl (fun _ => 0))), (q8, .inl (cy 1, 48000, .inl (fun _ => 0))), (q9, .inl (cy 1, 48000, .inl (fun _ => 0))), (q10, .inl (cy 1, 16, .inl (fun _ => 0))), (q11, .inl (cy 1, 16, .inl (fun _ => 0))), (q12, .inl (cy 1, 244, .inl (fun _ => 0)))]) (pw_B D (pw_A L f sz)) (pw_A L f sz)) 12 (171372) (pw_A L f sz) := by
  refine Met.ofW (cc := cX5_init) (maxL := 3) (ret := none) (by decide) rfl ?_
  intro p e s m args below meth c s₁ B hml hv
  obtain ⟨rfl, hsz, hG, hP, hD0⟩ := hv
  have hx := B.exec
  have hb := B.bytes
  have hr := B.returns
  have hts := atoms_spec (ws := wsX5_init) B.pre
  have hown : s.vm.findClass RX5 = some m.cls := findClass_of_methodNamed B.named
  have hlocks := B.notSynchronized
  have hin : meth.name = "<init>" := (name_of_methodNamed B.named B.method).1
  have hw := pw_start (cy := cy) hsz hP hD0
  have hN := pw_N.rf ha he
  have hl := lv_entry ([.ref h0, .ref p1, .ref p2]) (n := 3) (Nat.le_of_ble_eq_true rfl)
  rw [lg_entry_eq]
  generalize (lg_sl ([.ref h0, .ref p1, .ref p2]) ++ List.replicate (3 - (lg_sl ([.ref h0, .ref p1, .ref p2])).length) Slot.unset).toArray = ls at hl ⊢
  have hl : lv_has ls 3 [(0, .ref h0), (1, .ref p1), (2, .ref p2)] := hl
  have hi5 : ∀ w ∈ u_ws RX5 TX5 19, w ∈ wsX5_init := (fun _ h => List.mem_cons_of_mem _ (List.mem_append_right _ h))
  refine lv_aload_n hx hb dX5_init_0 rfl (lv_at hl 0 rfl) ?_
  refine W.objInit hx hb hown (hts (.methodLink RX5 3 objectInit) (by decide +kernel)) (hts (.instanceMethod objectInit) (by decide +kernel)) (hts _ (show Cond.code objectInit ⟨#[0xb1]⟩ 1 none ∈ wsX5_init by decide +kernel)) rfl (by rw [hml]; exact hl.1) rfl dX5_init_1 (Nat.le_of_ble_eq_true rfl) (Nat.le_of_ble_eq_true rfl) ?_
  refine W.eq (g2 := F0 m 4 ls []) rfl ?_
  refine lv_aload_n hx hb dX5_init_4 rfl (lv_at hl 0 rfl) ?_
  refine lv_bipush (v := 96) hx hb dX5_init_5 (by decide) ?_
  refine pw_cnewa (atype := .boolean) (t0 := 3) (cA := cy 3) (ty := .boolean) (N' := 96) (a0 := (96, .inl (fun _ => 0))) hx hb (hts (.arrayClass .boolean) (by decide +kernel)) rfl hG rfl (fun _ h => h) hw hN (fun _ => rfl) (by decide) (by decide) (Nat.le_of_ble_eq_true rfl) (Nat.le_of_ble_eq_true rfl) (Nat.le_of_ble_eq_true rfl) dX5_init_7 (fun q1 L1 f1 H hw hN => ?_)
  have hN : pw_N h0 5 L f _ _ [.null, .null, .null, .int 0, .int 0, .null, .null, .null, .int 0, .null, .null, .null, .null, .null, .null, .int 0, .null, .null, .null] [(q1, .inl (cy 3, 96, .inl (fun _ => 0)))] := hN
  refine pw_cputF (ci := 5) (v := .ref q1) (C := RX5) (T := TX5) (N := 19) hx hb hts hi5 tyX5 tyX5_ok nmX5 hown hG hw hN rfl 5 (by decide) (hts (.fieldLink RX5 9 "TongueHouse$Ranking" "barred" "[Z") (by decide +kernel)) (fun _ h9 => h9) rfl hin rfl rfl rfl (Nat.le_of_ble_eq_true rfl) dX5_init_9 (fun f1 H locs hw hN => ?_)
  have hN : pw_N h0 5 L f _ _ [.null, .null, .null, .int 0, .int 0, .ref q1, .null, .null, .int 0, .null, .null, .null, .null, .null, .null, .int 0, .null, .null, .null] [(q1, .inl (cy 3, 96, .inl (fun _ => 0)))] := hN
  refine lv_aload_n hx hb dX5_init_12 rfl (lv_at hl 0 rfl) ?_
  refine lv_sipush (v := 3000) hx hb dX5_init_13 (by decide) ?_
  refine pw_cnewa (atype := .long) (t0 := 2) (cA := cy 2) (ty := .long) (N' := 3000) (a0 := (3000, .inr (.inl (fun _ => 0)))) hx hb (hts (.arrayClass .long) (by decide +kernel)) rfl hG rfl (fun _ h => h) hw hN (fun _ => rfl) (by decide) (by decide) (Nat.le_of_ble_eq_true rfl) (Nat.le_of_ble_eq_true rfl) (Nat.le_of_ble_eq_true rfl) dX5_init_16 (fun q2 L1 f1 H hw hN => ?_)
  have hN : pw_N h0 5 L f _ _ [.null, .null, .null, .int 0, .int 0, .ref q1, .null, .null, .int 0, .null, .null, .null, .null, .null, .null, .int 0, .null, .null, .null] [(q1, .inl (cy 3, 96, .inl (fun _ => 0))), (q2, .inl (cy 2, 3000, .inr (.inl (fun _ => 0))))] := hN
  refine pw_cputF (ci := 5) (v := .ref q2) (C := RX5) (T := TX5) (N := 19) hx hb hts hi5 tyX5 tyX5_ok nmX5 hown hG hw hN rfl 6 (by decide) (hts (.fieldLink RX5 17 "TongueHouse$Ranking" "treeCount" "[J") (by decide +kernel)) (fun _ h9 => h9) rfl hin rfl rfl rfl (Nat.le_of_ble_eq_true rfl) dX5_init_18 (fun f1 H locs hw hN => ?_)
  have hN : pw_N h0 5 L f _ _ [.null, .null, .null, .int 0, .int 0, .ref q1, .ref q2, .null, .int 0, .null, .null, .null, .null, .null, .null, .int 0, .null, .null, .null] [(q1, .inl (cy 3, 96, .inl (fun _ => 0))), (q2, .inl (cy 2, 3000, .inr (.inl (fun _ => 0))))] := hN
  refine lv_aload_n hx hb dX5_init_21 rfl (lv_at hl 0 rfl) ?_
  refine lv_sipush (v := 3000) hx hb dX5_init_22 (by decide) ?_
  refine pw_cnewa (atype := .boolean) (t0 := 3) (cA := cy 3) (ty := .boolean) (N' := 3000) (a0 := (3000, .inl (fun _ => 0))) hx hb (hts (.arrayClass .boolean) (by decide +kernel)) rfl hG rfl (fun _ h => h) hw hN (fun _ => rfl) (by decide) (by decide) (Nat.le_of_ble_eq_true rfl) (Nat.le_of_ble_eq_true rfl) (Nat.le_of_ble_eq_true rfl) dX5_init_25 (fun q3 L1 f1 H hw hN => ?_)
  have hN : pw_N h0 5 L f _ _ [.null, .null, .null, .int 0, .int 0, .ref q1, .ref q2, .null, .int 0, .null, .null, .null, .null, .null, .null, .int 0, .null, .null, .null] [(q1, .inl (cy 3, 96, .inl (fun _ => 0))), (q2, .inl (cy 2, 3000, .inr (.inl (fun _ => 0)))), (q3, .inl (cy 3, 3000, .inl (fun _ => 0)))] := hN
  refine pw_cputF (ci := 5) (v := .ref q3) (C := RX5) (T := TX5) (N := 19) hx hb hts hi5 tyX5 tyX5_ok nmX5 hown hG hw hN rfl 7 (by decide) (hts (.fieldLink RX5 21 "TongueHouse$Ranking" "reached" "[Z") (by decide +kernel)) (fun _ h9 => h9) rfl hin rfl rfl rfl (Nat.le_of_ble_eq_true rfl) dX5_init_27 (fun f1 H locs hw hN => ?_)
  have hN : pw_N h0 5 L f _ _ [.null, .null, .null, .int 0, .int 0, .ref q1, .ref q2, .ref q3, .int 0, .null, .null, .null, .null, .null, .null, .int 0, .null, .null, .null] [(q1, .inl (cy 3, 96, .inl (fun _ => 0))), (q2, .inl (cy 2, 3000, .inr (.inl (fun _ => 0)))), (q3, .inl (cy 3, 3000, .inl (fun _ => 0)))] := hN
  refine lv_aload_n hx hb dX5_init_30 rfl (lv_at hl 0 rfl) ?_
  refine lv_sipush (v := 9000) hx hb dX5_init_31 (by decide) ?_
  refine pw_cnewa (atype := .int) (t0 := 1) (cA := cy 1) (ty := .int) (N' := 9000) (a0 := (9000, .inl (fun _ => 0))) hx hb (hts (.arrayClass .int) (by decide +kernel)) rfl hG rfl (fun _ h => h) hw hN (fun _ => rfl) (by decide) (by decide) (Nat.le_of_ble_eq_true rfl) (Nat.le_of_ble_eq_true rfl) (Nat.le_of_ble_eq_true rfl) dX5_init_34 (fun q4 L1 f1 H hw hN => ?_)
  have hN : pw_N h0 5 L f _ _ [.null, .null, .null, .int 0, .int 0, .ref q1, .ref q2, .ref q3, .int 0, .null, .null, .null, .null, .null, .null, .int 0, .null, .null, .null] [(q1, .inl (cy 3, 96, .inl (fun _ => 0))), (q2, .inl (cy 2, 3000, .inr (.inl (fun _ => 0)))), (q3, .inl (cy 3, 3000, .inl (fun _ => 0))), (q4, .inl (cy 1, 9000, .inl (fun _ => 0)))] := hN
  refine pw_cput (ci := 5) (v := .ref q4) (C := RX5) (T := TX5) (N := 19) hx hb hts hi5 tyX5 tyX5_ok nmX5 hown hG hw hN rfl 9 (by decide) (hts (.fieldLink RX5 24 "TongueHouse$Ranking" "order" "[I") (by decide +kernel)) (fun _ h9 => h9) rfl rfl rfl (Nat.le_of_ble_eq_true rfl) dX5_init_36 (fun f1 H locs hw hN => ?_)
  have hN : pw_N h0 5 L f _ _ [.null, .null, .null, .int 0, .int 0, .ref q1, .ref q2, .ref q3, .int 0, .ref q4, .null, .null, .null, .null, .null, .int 0, .null, .null, .null] [(q1, .inl (cy 3, 96, .inl (fun _ => 0))), (q2, .inl (cy 2, 3000, .inr (.inl (fun _ => 0)))), (q3, .inl (cy 3, 3000, .inl (fun _ => 0))), (q4, .inl (cy 1, 9000, .inl (fun _ => 0)))] := hN
  refine lv_aload_n hx hb dX5_init_39 rfl (lv_at hl 0 rfl) ?_
  refine lv_sipush (v := 9000) hx hb dX5_init_40 (by decide) ?_
  refine pw_cnewa (atype := .int) (t0 := 1) (cA := cy 1) (ty := .int) (N' := 9000) (a0 := (9000, .inl (fun _ => 0))) hx hb (hts (.arrayClass .int) (by decide +kernel)) rfl hG rfl (fun _ h => h) hw hN (fun _ => rfl) (by decide) (by decide) (Nat.le_of_ble_eq_true rfl) (Nat.le_of_ble_eq_true rfl) (Nat.le_of_ble_eq_true rfl) dX5_init_43 (fun q5 L1 f1 H hw hN => ?_)
  have hN : pw_N h0 5 L f _ _ [.null, .null, .null, .int 0, .int 0, .ref q1, .ref q2, .ref q3, .int 0, .ref q4, .null, .null, .null, .null, .null, .int 0, .null, .null, .null] [(q1, .inl (cy 3, 96, .inl (fun _ => 0))), (q2, .inl (cy 2, 3000, .inr (.inl (fun _ => 0)))), (q3, .inl (cy 3, 3000, .inl (fun _ => 0))), (q4, .inl (cy 1, 9000, .inl (fun _ => 0))), (q5, .inl (cy 1, 9000, .inl (fun _ => 0)))] := hN
  refine pw_cput (ci := 5) (v := .ref q5) (C := RX5) (T := TX5) (N := 19) hx hb hts hi5 tyX5 tyX5_ok nmX5 hown hG hw hN rfl 10 (by decide) (hts (.fieldLink RX5 28 "TongueHouse$Ranking" "spare" "[I") (by decide +kernel)) (fun _ h9 => h9) rfl rfl rfl (Nat.le_of_ble_eq_true rfl) dX5_init_45 (fun f1 H locs hw hN => ?_)
  have hN : pw_N h0 5 L f _ _ [.null, .null, .null, .int 0, .int 0, .ref q1, .ref q2, .ref q3, .int 0, .ref q4, .ref q5, .null, .null, .null, .null, .int 0, .null, .null, .null] [(q1, .inl (cy 3, 96, .inl (fun _ => 0))), (q2, .inl (cy 2, 3000, .inr (.inl (fun _ => 0)))), (q3, .inl (cy 3, 3000, .inl (fun _ => 0))), (q4, .inl (cy 1, 9000, .inl (fun _ => 0))), (q5, .inl (cy 1, 9000, .inl (fun _ => 0)))] := hN
  refine lv_aload_n hx hb dX5_init_48 rfl (lv_at hl 0 rfl) ?_
  refine lv_sipush (v := 3000) hx hb dX5_init_49 (by decide) ?_
  refine pw_cnewa (atype := .int) (t0 := 1) (cA := cy 1) (ty := .int) (N' := 3000) (a0 := (3000, .inl (fun _ => 0))) hx hb (hts (.arrayClass .int) (by decide +kernel)) rfl hG rfl (fun _ h => h) hw hN (fun _ => rfl) (by decide) (by decide) (Nat.le_of_ble_eq_true rfl) (Nat.le_of_ble_eq_true rfl) (Nat.le_of_ble_eq_true rfl) dX5_init_52 (fun q6 L1 f1 H hw hN => ?_)
  have hN : pw_N h0 5 L f _ _ [.null, .null, .null, .int 0, .int 0, .ref q1, .ref q2, .ref q3, .int 0, .ref q4, .ref q5, .null, .null, .null, .null, .int 0, .null, .null, .null] [(q1, .inl (cy 3, 96, .inl (fun _ => 0))), (q2, .inl (cy 2, 3000, .inr (.inl (fun _ => 0)))), (q3, .inl (cy 3, 3000, .inl (fun _ => 0))), (q4, .inl (cy 1, 9000, .inl (fun _ => 0))), (q5, .inl (cy 1, 9000, .inl (fun _ => 0))), (q6, .inl (cy 1, 3000, .inl (fun _ => 0)))] := hN
  refine pw_cputF (ci := 5) (v := .ref q6) (C := RX5) (T := TX5) (N := 19) hx hb hts hi5 tyX5 tyX5_ok nmX5 hown hG hw hN rfl 11 (by decide) (hts (.fieldLink RX5 31 "TongueHouse$Ranking" "listSize" "[I") (by decide +kernel)) (fun _ h9 => h9) rfl hin rfl rfl rfl (Nat.le_of_ble_eq_true rfl) dX5_init_54 (fun f1 H locs hw hN => ?_)
  have hN : pw_N h0 5 L f _ _ [.null, .null, .null, .int 0, .int 0, .ref q1, .ref q2, .ref q3, .int 0, .ref q4, .ref q5, .ref q6, .null, .null, .null, .int 0, .null, .null, .null] [(q1, .inl (cy 3, 96, .inl (fun _ => 0))), (q2, .inl (cy 2, 3000, .inr (.inl (fun _ => 0)))), (q3, .inl (cy 3, 3000, .inl (fun _ => 0))), (q4, .inl (cy 1, 9000, .inl (fun _ => 0))), (q5, .inl (cy 1, 9000, .inl (fun _ => 0))), (q6, .inl (cy 1, 3000, .inl (fun _ => 0)))] := hN
  refine lv_aload_n hx hb dX5_init_57 rfl (lv_at hl 0 rfl) ?_
  refine lv_ldc (v := 48000) hx hb hown (hts (.constant RX5 34 48000) (by decide +kernel)) dX5_init_58 ?_
  refine pw_cnewa (atype := .int) (t0 := 1) (cA := cy 1) (ty := .int) (N' := 48000) (a0 := (48000, .inl (fun _ => 0))) hx hb (hts (.arrayClass .int) (by decide +kernel)) rfl hG rfl (fun _ h => h) hw hN (fun _ => rfl) (by decide) (by decide) (Nat.le_of_ble_eq_true rfl) (Nat.le_of_ble_eq_true rfl) (Nat.le_of_ble_eq_true rfl) dX5_init_60 (fun q7 L1 f1 H hw hN => ?_)
  have hN : pw_N h0 5 L f _ _ [.null, .null, .null, .int 0, .int 0, .ref q1, .ref q2, .ref q3, .int 0, .ref q4, .ref q5, .ref q6, .null, .null, .null, .int 0, .null, .null, .null] [(q1, .inl (cy 3, 96, .inl (fun _ => 0))), (q2, .inl (cy 2, 3000, .inr (.inl (fun _ => 0)))), (q3, .inl (cy 3, 3000, .inl (fun _ => 0))), (q4, .inl (cy 1, 9000, .inl (fun _ => 0))), (q5, .inl (cy 1, 9000, .inl (fun _ => 0))), (q6, .inl (cy 1, 3000, .inl (fun _ => 0))), (q7, .inl (cy 1, 48000, .inl (fun _ => 0)))] := hN
  refine pw_cputF (ci := 5) (v := .ref q7) (C := RX5) (T := TX5) (N := 19) hx hb hts hi5 tyX5 tyX5_ok nmX5 hown hG hw hN rfl 12 (by decide) (hts (.fieldLink RX5 35 "TongueHouse$Ranking" "listPrice" "[I") (by decide +kernel)) (fun _ h9 => h9) rfl hin rfl rfl rfl (Nat.le_of_ble_eq_true rfl) dX5_init_62 (fun f1 H locs hw hN => ?_)
  have hN : pw_N h0 5 L f _ _ [.null, .null, .null, .int 0, .int 0, .ref q1, .ref q2, .ref q3, .int 0, .ref q4, .ref q5, .ref q6, .ref q7, .null, .null, .int 0, .null, .null, .null] [(q1, .inl (cy 3, 96, .inl (fun _ => 0))), (q2, .inl (cy 2, 3000, .inr (.inl (fun _ => 0)))), (q3, .inl (cy 3, 3000, .inl (fun _ => 0))), (q4, .inl (cy 1, 9000, .inl (fun _ => 0))), (q5, .inl (cy 1, 9000, .inl (fun _ => 0))), (q6, .inl (cy 1, 3000, .inl (fun _ => 0))), (q7, .inl (cy 1, 48000, .inl (fun _ => 0)))] := hN
  refine lv_aload_n hx hb dX5_init_65 rfl (lv_at hl 0 rfl) ?_
  refine lv_ldc (v := 48000) hx hb hown (hts (.constant RX5 34 48000) (by decide +kernel)) dX5_init_66 ?_
  refine pw_cnewa (atype := .int) (t0 := 1) (cA := cy 1) (ty := .int) (N' := 48000) (a0 := (48000, .inl (fun _ => 0))) hx hb (hts (.arrayClass .int) (by decide +kernel)) rfl hG rfl (fun _ h => h) hw hN (fun _ => rfl) (by decide) (by decide) (Nat.le_of_ble_eq_true rfl) (Nat.le_of_ble_eq_true rfl) (Nat.le_of_ble_eq_true rfl) dX5_init_68 (fun q8 L1 f1 H hw hN => ?_)
  have hN : pw_N h0 5 L f _ _ [.null, .null, .null, .int 0, .int 0, .ref q1, .ref q2, .ref q3, .int 0, .ref q4, .ref q5, .ref q6, .ref q7, .null, .null, .int 0, .null, .null, .null] [(q1, .inl (cy 3, 96, .inl (fun _ => 0))), (q2, .inl (cy 2, 3000, .inr (.inl (fun _ => 0)))), (q3, .inl (cy 3, 3000, .inl (fun _ => 0))), (q4, .inl (cy 1, 9000, .inl (fun _ => 0))), (q5, .inl (cy 1, 9000, .inl (fun _ => 0))), (q6, .inl (cy 1, 3000, .inl (fun _ => 0))), (q7, .inl (cy 1, 48000, .inl (fun _ => 0))), (q8, .inl (cy 1, 48000, .inl (fun _ => 0)))] := hN
  refine pw_cputF (ci := 5) (v := .ref q8) (C := RX5) (T := TX5) (N := 19) hx hb hts hi5 tyX5 tyX5_ok nmX5 hown hG hw hN rfl 13 (by decide) (hts (.fieldLink RX5 38 "TongueHouse$Ranking" "listWay" "[I") (by decide +kernel)) (fun _ h9 => h9) rfl hin rfl rfl rfl (Nat.le_of_ble_eq_true rfl) dX5_init_70 (fun f1 H locs hw hN => ?_)
  have hN : pw_N h0 5 L f _ _ [.null, .null, .null, .int 0, .int 0, .ref q1, .ref q2, .ref q3, .int 0, .ref q4, .ref q5, .ref q6, .ref q7, .ref q8, .null, .int 0, .null, .null, .null] [(q1, .inl (cy 3, 96, .inl (fun _ => 0))), (q2, .inl (cy 2, 3000, .inr (.inl (fun _ => 0)))), (q3, .inl (cy 3, 3000, .inl (fun _ => 0))), (q4, .inl (cy 1, 9000, .inl (fun _ => 0))), (q5, .inl (cy 1, 9000, .inl (fun _ => 0))), (q6, .inl (cy 1, 3000, .inl (fun _ => 0))), (q7, .inl (cy 1, 48000, .inl (fun _ => 0))), (q8, .inl (cy 1, 48000, .inl (fun _ => 0)))] := hN
  refine lv_aload_n hx hb dX5_init_73 rfl (lv_at hl 0 rfl) ?_
  refine lv_ldc (v := 48000) hx hb hown (hts (.constant RX5 34 48000) (by decide +kernel)) dX5_init_74 ?_
  refine pw_cnewa (atype := .int) (t0 := 1) (cA := cy 1) (ty := .int) (N' := 48000) (a0 := (48000, .inl (fun _ => 0))) hx hb (hts (.arrayClass .int) (by decide +kernel)) rfl hG rfl (fun _ h => h) hw hN (fun _ => rfl) (by decide) (by decide) (Nat.le_of_ble_eq_true rfl) (Nat.le_of_ble_eq_true rfl) (Nat.le_of_ble_eq_true rfl) dX5_init_76 (fun q9 L1 f1 H hw hN => ?_)
  have hN : pw_N h0 5 L f _ _ [.null, .null, .null, .int 0, .int 0, .ref q1, .ref q2, .ref q3, .int 0, .ref q4, .ref q5, .ref q6, .ref q7, .ref q8, .null, .int 0, .null, .null, .null] [(q1, .inl (cy 3, 96, .inl (fun _ => 0))), (q2, .inl (cy 2, 3000, .inr (.inl (fun _ => 0)))), (q3, .inl (cy 3, 3000, .inl (fun _ => 0))), (q4, .inl (cy 1, 9000, .inl (fun _ => 0))), (q5, .inl (cy 1, 9000, .inl (fun _ => 0))), (q6, .inl (cy 1, 3000, .inl (fun _ => 0))), (q7, .inl (cy 1, 48000, .inl (fun _ => 0))), (q8, .inl (cy 1, 48000, .inl (fun _ => 0))), (q9, .inl (cy 1, 48000, .inl (fun _ => 0)))] := hN
  refine pw_cputF (ci := 5) (v := .ref q9) (C := RX5) (T := TX5) (N := 19) hx hb hts hi5 tyX5 tyX5_ok nmX5 hown hG hw hN rfl 14 (by decide) (hts (.fieldLink RX5 41 "TongueHouse$Ranking" "listRanks" "[I") (by decide +kernel)) (fun _ h9 => h9) rfl hin rfl rfl rfl (Nat.le_of_ble_eq_true rfl) dX5_init_78 (fun f1 H locs hw hN => ?_)
  have hN : pw_N h0 5 L f _ _ [.null, .null, .null, .int 0, .int 0, .ref q1, .ref q2, .ref q3, .int 0, .ref q4, .ref q5, .ref q6, .ref q7, .ref q8, .ref q9, .int 0, .null, .null, .null] [(q1, .inl (cy 3, 96, .inl (fun _ => 0))), (q2, .inl (cy 2, 3000, .inr (.inl (fun _ => 0)))), (q3, .inl (cy 3, 3000, .inl (fun _ => 0))), (q4, .inl (cy 1, 9000, .inl (fun _ => 0))), (q5, .inl (cy 1, 9000, .inl (fun _ => 0))), (q6, .inl (cy 1, 3000, .inl (fun _ => 0))), (q7, .inl (cy 1, 48000, .inl (fun _ => 0))), (q8, .inl (cy 1, 48000, .inl (fun _ => 0))), (q9, .inl (cy 1, 48000, .inl (fun _ => 0)))] := hN
  refine lv_aload_n hx hb dX5_init_81 rfl (lv_at hl 0 rfl) ?_
  refine lv_bipush (v := 16) hx hb dX5_init_82 (by decide) ?_
  refine pw_cnewa (atype := .int) (t0 := 1) (cA := cy 1) (ty := .int) (N' := 16) (a0 := (16, .inl (fun _ => 0))) hx hb (hts (.arrayClass .int) (by decide +kernel)) rfl hG rfl (fun _ h => h) hw hN (fun _ => rfl) (by decide) (by decide) (Nat.le_of_ble_eq_true rfl) (Nat.le_of_ble_eq_true rfl) (Nat.le_of_ble_eq_true rfl) dX5_init_84 (fun q10 L1 f1 H hw hN => ?_)
  have hN : pw_N h0 5 L f _ _ [.null, .null, .null, .int 0, .int 0, .ref q1, .ref q2, .ref q3, .int 0, .ref q4, .ref q5, .ref q6, .ref q7, .ref q8, .ref q9, .int 0, .null, .null, .null] [(q1, .inl (cy 3, 96, .inl (fun _ => 0))), (q2, .inl (cy 2, 3000, .inr (.inl (fun _ => 0)))), (q3, .inl (cy 3, 3000, .inl (fun _ => 0))), (q4, .inl (cy 1, 9000, .inl (fun _ => 0))), (q5, .inl (cy 1, 9000, .inl (fun _ => 0))), (q6, .inl (cy 1, 3000, .inl (fun _ => 0))), (q7, .inl (cy 1, 48000, .inl (fun _ => 0))), (q8, .inl (cy 1, 48000, .inl (fun _ => 0))), (q9, .inl (cy 1, 48000, .inl (fun _ => 0))), (q10, .inl (cy 1, 16, .inl (fun _ => 0)))] := hN
  refine pw_cputF (ci := 5) (v := .ref q10) (C := RX5) (T := TX5) (N := 19) hx hb hts hi5 tyX5 tyX5_ok nmX5 hown hG hw hN rfl 16 (by decide) (hts (.fieldLink RX5 44 "TongueHouse$Ranking" "topPrice" "[I") (by decide +kernel)) (fun _ h9 => h9) rfl hin rfl rfl rfl (Nat.le_of_ble_eq_true rfl) dX5_init_86 (fun f1 H locs hw hN => ?_)
  have hN : pw_N h0 5 L f _ _ [.null, .null, .null, .int 0, .int 0, .ref q1, .ref q2, .ref q3, .int 0, .ref q4, .ref q5, .ref q6, .ref q7, .ref q8, .ref q9, .int 0, .ref q10, .null, .null] [(q1, .inl (cy 3, 96, .inl (fun _ => 0))), (q2, .inl (cy 2, 3000, .inr (.inl (fun _ => 0)))), (q3, .inl (cy 3, 3000, .inl (fun _ => 0))), (q4, .inl (cy 1, 9000, .inl (fun _ => 0))), (q5, .inl (cy 1, 9000, .inl (fun _ => 0))), (q6, .inl (cy 1, 3000, .inl (fun _ => 0))), (q7, .inl (cy 1, 48000, .inl (fun _ => 0))), (q8, .inl (cy 1, 48000, .inl (fun _ => 0))), (q9, .inl (cy 1, 48000, .inl (fun _ => 0))), (q10, .inl (cy 1, 16, .inl (fun _ => 0)))] := hN
  refine lv_aload_n hx hb dX5_init_89 rfl (lv_at hl 0 rfl) ?_
  refine lv_bipush (v := 16) hx hb dX5_init_90 (by decide) ?_
  refine pw_cnewa (atype := .int) (t0 := 1) (cA := cy 1) (ty := .int) (N' := 16) (a0 := (16, .inl (fun _ => 0))) hx hb (hts (.arrayClass .int) (by decide +kernel)) rfl hG rfl (fun _ h => h) hw hN (fun _ => rfl) (by decide) (by decide) (Nat.le_of_ble_eq_true rfl) (Nat.le_of_ble_eq_true rfl) (Nat.le_of_ble_eq_true rfl) dX5_init_92 (fun q11 L1 f1 H hw hN => ?_)
  have hN : pw_N h0 5 L f _ _ [.null, .null, .null, .int 0, .int 0, .ref q1, .ref q2, .ref q3, .int 0, .ref q4, .ref q5, .ref q6, .ref q7, .ref q8, .ref q9, .int 0, .ref q10, .null, .null] [(q1, .inl (cy 3, 96, .inl (fun _ => 0))), (q2, .inl (cy 2, 3000, .inr (.inl (fun _ => 0)))), (q3, .inl (cy 3, 3000, .inl (fun _ => 0))), (q4, .inl (cy 1, 9000, .inl (fun _ => 0))), (q5, .inl (cy 1, 9000, .inl (fun _ => 0))), (q6, .inl (cy 1, 3000, .inl (fun _ => 0))), (q7, .inl (cy 1, 48000, .inl (fun _ => 0))), (q8, .inl (cy 1, 48000, .inl (fun _ => 0))), (q9, .inl (cy 1, 48000, .inl (fun _ => 0))), (q10, .inl (cy 1, 16, .inl (fun _ => 0))), (q11, .inl (cy 1, 16, .inl (fun _ => 0)))] := hN
  refine pw_cputF (ci := 5) (v := .ref q11) (C := RX5) (T := TX5) (N := 19) hx hb hts hi5 tyX5 tyX5_ok nmX5 hown hG hw hN rfl 17 (by decide) (hts (.fieldLink RX5 47 "TongueHouse$Ranking" "topEntry" "[I") (by decide +kernel)) (fun _ h9 => h9) rfl hin rfl rfl rfl (Nat.le_of_ble_eq_true rfl) dX5_init_94 (fun f1 H locs hw hN => ?_)
  have hN : pw_N h0 5 L f _ _ [.null, .null, .null, .int 0, .int 0, .ref q1, .ref q2, .ref q3, .int 0, .ref q4, .ref q5, .ref q6, .ref q7, .ref q8, .ref q9, .int 0, .ref q10, .ref q11, .null] [(q1, .inl (cy 3, 96, .inl (fun _ => 0))), (q2, .inl (cy 2, 3000, .inr (.inl (fun _ => 0)))), (q3, .inl (cy 3, 3000, .inl (fun _ => 0))), (q4, .inl (cy 1, 9000, .inl (fun _ => 0))), (q5, .inl (cy 1, 9000, .inl (fun _ => 0))), (q6, .inl (cy 1, 3000, .inl (fun _ => 0))), (q7, .inl (cy 1, 48000, .inl (fun _ => 0))), (q8, .inl (cy 1, 48000, .inl (fun _ => 0))), (q9, .inl (cy 1, 48000, .inl (fun _ => 0))), (q10, .inl (cy 1, 16, .inl (fun _ => 0))), (q11, .inl (cy 1, 16, .inl (fun _ => 0)))] := hN
  refine lv_aload_n hx hb dX5_init_97 rfl (lv_at hl 0 rfl) ?_
  refine lv_sipush (v := 244) hx hb dX5_init_98 (by decide) ?_
  refine pw_cnewa (atype := .int) (t0 := 1) (cA := cy 1) (ty := .int) (N' := 244) (a0 := (244, .inl (fun _ => 0))) hx hb (hts (.arrayClass .int) (by decide +kernel)) rfl hG rfl (fun _ h => h) hw hN (fun _ => rfl) (by decide) (by decide) (Nat.le_of_ble_eq_true rfl) (Nat.le_of_ble_eq_true rfl) (Nat.le_of_ble_eq_true rfl) dX5_init_101 (fun q12 L1 f1 H hw hN => ?_)
  have hN : pw_N h0 5 L f _ _ [.null, .null, .null, .int 0, .int 0, .ref q1, .ref q2, .ref q3, .int 0, .ref q4, .ref q5, .ref q6, .ref q7, .ref q8, .ref q9, .int 0, .ref q10, .ref q11, .null] [(q1, .inl (cy 3, 96, .inl (fun _ => 0))), (q2, .inl (cy 2, 3000, .inr (.inl (fun _ => 0)))), (q3, .inl (cy 3, 3000, .inl (fun _ => 0))), (q4, .inl (cy 1, 9000, .inl (fun _ => 0))), (q5, .inl (cy 1, 9000, .inl (fun _ => 0))), (q6, .inl (cy 1, 3000, .inl (fun _ => 0))), (q7, .inl (cy 1, 48000, .inl (fun _ => 0))), (q8, .inl (cy 1, 48000, .inl (fun _ => 0))), (q9, .inl (cy 1, 48000, .inl (fun _ => 0))), (q10, .inl (cy 1, 16, .inl (fun _ => 0))), (q11, .inl (cy 1, 16, .inl (fun _ => 0))), (q12, .inl (cy 1, 244, .inl (fun _ => 0)))] := hN
  refine pw_cputF (ci := 5) (v := .ref q12) (C := RX5) (T := TX5) (N := 19) hx hb hts hi5 tyX5 tyX5_ok nmX5 hown hG hw hN rfl 18 (by decide) (hts (.fieldLink RX5 50 "TongueHouse$Ranking" "stack" "[I") (by decide +kernel)) (fun _ h9 => h9) rfl hin rfl rfl rfl (Nat.le_of_ble_eq_true rfl) dX5_init_103 (fun f1 H locs hw hN => ?_)
  have hN : pw_N h0 5 L f _ _ [.null, .null, .null, .int 0, .int 0, .ref q1, .ref q2, .ref q3, .int 0, .ref q4, .ref q5, .ref q6, .ref q7, .ref q8, .ref q9, .int 0, .ref q10, .ref q11, .ref q12] [(q1, .inl (cy 3, 96, .inl (fun _ => 0))), (q2, .inl (cy 2, 3000, .inr (.inl (fun _ => 0)))), (q3, .inl (cy 3, 3000, .inl (fun _ => 0))), (q4, .inl (cy 1, 9000, .inl (fun _ => 0))), (q5, .inl (cy 1, 9000, .inl (fun _ => 0))), (q6, .inl (cy 1, 3000, .inl (fun _ => 0))), (q7, .inl (cy 1, 48000, .inl (fun _ => 0))), (q8, .inl (cy 1, 48000, .inl (fun _ => 0))), (q9, .inl (cy 1, 48000, .inl (fun _ => 0))), (q10, .inl (cy 1, 16, .inl (fun _ => 0))), (q11, .inl (cy 1, 16, .inl (fun _ => 0))), (q12, .inl (cy 1, 244, .inl (fun _ => 0)))] := hN
  refine lv_aload_n hx hb dX5_init_106 rfl (lv_at hl 0 rfl) ?_
  refine lv_aload_n hx hb dX5_init_107 rfl (lv_at hl 1 rfl) ?_
  refine pw_cputF (ci := 5) (v := .ref p1) (C := RX5) (T := TX5) (N := 19) hx hb hts hi5 tyX5 tyX5_ok nmX5 hown hG hw hN rfl 0 (by decide) (hts (.fieldLink RX5 53 "TongueHouse$Ranking" "store" "LTongueHouse$Store;") (by decide +kernel)) (fun _ h9 => h9) rfl hin rfl rfl rfl (Nat.le_of_ble_eq_true rfl) dX5_init_108 (fun f1 H locs hw hN => ?_)
  have hN : pw_N h0 5 L f _ _ [.ref p1, .null, .null, .int 0, .int 0, .ref q1, .ref q2, .ref q3, .int 0, .ref q4, .ref q5, .ref q6, .ref q7, .ref q8, .ref q9, .int 0, .ref q10, .ref q11, .ref q12] [(q1, .inl (cy 3, 96, .inl (fun _ => 0))), (q2, .inl (cy 2, 3000, .inr (.inl (fun _ => 0)))), (q3, .inl (cy 3, 3000, .inl (fun _ => 0))), (q4, .inl (cy 1, 9000, .inl (fun _ => 0))), (q5, .inl (cy 1, 9000, .inl (fun _ => 0))), (q6, .inl (cy 1, 3000, .inl (fun _ => 0))), (q7, .inl (cy 1, 48000, .inl (fun _ => 0))), (q8, .inl (cy 1, 48000, .inl (fun _ => 0))), (q9, .inl (cy 1, 48000, .inl (fun _ => 0))), (q10, .inl (cy 1, 16, .inl (fun _ => 0))), (q11, .inl (cy 1, 16, .inl (fun _ => 0))), (q12, .inl (cy 1, 244, .inl (fun _ => 0)))] := hN
  refine lv_aload_n hx hb dX5_init_111 rfl (lv_at hl 0 rfl) ?_
  refine lv_aload_n hx hb dX5_init_112 rfl (lv_at hl 2 rfl) ?_
  refine pw_cputF (ci := 5) (v := .ref p2) (C := RX5) (T := TX5) (N := 19) hx hb hts hi5 tyX5 tyX5_ok nmX5 hown hG hw hN rfl 1 (by decide) (hts (.fieldLink RX5 57 "TongueHouse$Ranking" "chart" "LTongueHouse$Chart;") (by decide +kernel)) (fun _ h9 => h9) rfl hin rfl rfl rfl (Nat.le_of_ble_eq_true rfl) dX5_init_113 (fun f1 H locs hw hN => ?_)
  have hN : pw_N h0 5 L f _ _ [.ref p1, .ref p2, .null, .int 0, .int 0, .ref q1, .ref q2, .ref q3, .int 0, .ref q4, .ref q5, .ref q6, .ref q7, .ref q8, .ref q9, .int 0, .ref q10, .ref q11, .ref q12] [(q1, .inl (cy 3, 96, .inl (fun _ => 0))), (q2, .inl (cy 2, 3000, .inr (.inl (fun _ => 0)))), (q3, .inl (cy 3, 3000, .inl (fun _ => 0))), (q4, .inl (cy 1, 9000, .inl (fun _ => 0))), (q5, .inl (cy 1, 9000, .inl (fun _ => 0))), (q6, .inl (cy 1, 3000, .inl (fun _ => 0))), (q7, .inl (cy 1, 48000, .inl (fun _ => 0))), (q8, .inl (cy 1, 48000, .inl (fun _ => 0))), (q9, .inl (cy 1, 48000, .inl (fun _ => 0))), (q10, .inl (cy 1, 16, .inl (fun _ => 0))), (q11, .inl (cy 1, 16, .inl (fun _ => 0))), (q12, .inl (cy 1, 244, .inl (fun _ => 0)))] := hN
  refine W.widen (k := 12) (n := 171372) (Nat.le_of_ble_eq_true rfl) (Nat.le_of_ble_eq_true rfl) ?_
  exact pw_vret hx hb hr hlocks hsz hw ⟨q1, q2, q3, q4, q5, q6, q7, q8, q9, q10, q11, q12, hN⟩ dX5_init_116
theorem bl_X7 : ∀ j, j < 14 → defaultValue (tyX7 j) = vp_V [.null, .null, .null, .null, .null, .null, .null, .null, .null, .int 0, .null, .null, .null, .null] j := by decide +kernel
set_option maxHeartbeats 4000000 in
set_option maxRecDepth 100000 in
/-- TongueHouse$Sayer(..): 11 cells come -/
theorem c_X7_init (l : Launch) (D : va_G) (cy : Nat → ClassId) (h0 sz : Nat) (L : List Nat) (f : Nat → va_E) (p1 : Nat) (ha : h0 ∈ L) (he : f h0 = .inr (7, [.null, .null, .null, .null, .null, .null, .null, .null, .null, .int 0, .null, .null, .null, .null])) : Met l yX7_init wsX7_init ({ frames := 1, cells := 11, slots := 7628, locals := 12 }) (pw_Pc D cy [.ref h0, .ref p1] sz L f) (va_Qv (fun u : List Nat × (Nat → va_E) => ∃ q1 q2 q3 q4 q5 q6 q7 q8 q9 q10 q11 : Nat, pw_N h0 7 L f u.1 u.2 [.ref p1, .null, .ref q1, .ref q2, .ref q3, .ref q4, .ref q5, .ref q6, .ref q7, .int 0, .ref q8, .ref q9, .ref q10, .ref q11] [(q1, .inl (cy 1, 240, .inl (fun _ => 0))), (q2, .inl (cy 1, 60, .inl (fun _ => 0))), (q3, .inl (cy 1, 1440, .inl (fun _ => 0))), (q4, .inl (cy 1, 1440, .inl (fun _ => 0))), (q5, .inl (cy 1, 1440, .inl (fun _ => 0))), (q6, .inl (cy 1, 1440, .inl (fun _ => 0))), (q7, .inl (cy 1, 1440, .inl (fun _ => 0))), (q8, .inl (cy 1, 4, .inl (fun _ => 0))), (q9, .inl (cy 1, 4, .inl (fun _ => 0))), (q10, .inl (cy 1, 60, .inl (fun _ => 0))), (q11, .inl (cy 1, 60, .inl (fun _ => 0)))]) (pw_B D (pw_A L f sz)) (pw_A L f sz)) 11 (7628) (pw_A L f sz) := by
  refine Met.ofW (cc := cX7_init) (maxL := 2) (ret := none) (by decide) rfl ?_
  intro p e s m args below meth c s₁ B hml hv
  obtain ⟨rfl, hsz, hG, hP, hD0⟩ := hv
  have hx := B.exec
  have hb := B.bytes
  have hr := B.returns
  have hts := atoms_spec (ws := wsX7_init) B.pre
  have hown : s.vm.findClass RX7 = some m.cls := findClass_of_methodNamed B.named
  have hlocks := B.notSynchronized
  have hin : meth.name = "<init>" := (name_of_methodNamed B.named B.method).1
  have hw := pw_start (cy := cy) hsz hP hD0
  have hN := pw_N.rf ha he
  have hl := lv_entry ([.ref h0, .ref p1]) (n := 2) (Nat.le_of_ble_eq_true rfl)
  rw [lg_entry_eq]
  generalize (lg_sl ([.ref h0, .ref p1]) ++ List.replicate (2 - (lg_sl ([.ref h0, .ref p1])).length) Slot.unset).toArray = ls at hl ⊢
  have hl : lv_has ls 2 [(0, .ref h0), (1, .ref p1)] := hl
  have hi7 : ∀ w ∈ u_ws RX7 TX7 14, w ∈ wsX7_init := (fun _ h => List.mem_cons_of_mem _ (List.mem_append_right _ h))
  refine lv_aload_n hx hb dX7_init_0 rfl (lv_at hl 0 rfl) ?_
  refine W.objInit hx hb hown (hts (.methodLink RX7 3 objectInit) (by decide +kernel)) (hts (.instanceMethod objectInit) (by decide +kernel)) (hts _ (show Cond.code objectInit ⟨#[0xb1]⟩ 1 none ∈ wsX7_init by decide +kernel)) rfl (by rw [hml]; exact hl.1) rfl dX7_init_1 (Nat.le_of_ble_eq_true rfl) (Nat.le_of_ble_eq_true rfl) ?_
  refine W.eq (g2 := F0 m 4 ls []) rfl ?_
  refine lv_aload_n hx hb dX7_init_4 rfl (lv_at hl 0 rfl) ?_
  refine lv_sipush (v := 240) hx hb dX7_init_5 (by decide) ?_
  refine pw_cnewa (atype := .int) (t0 := 1) (cA := cy 1) (ty := .int) (N' := 240) (a0 := (240, .inl (fun _ => 0))) hx hb (hts (.arrayClass .int) (by decide +kernel)) rfl hG rfl (fun _ h => h) hw hN (fun _ => rfl) (by decide) (by decide) (Nat.le_of_ble_eq_true rfl) (Nat.le_of_ble_eq_true rfl) (Nat.le_of_ble_eq_true rfl) dX7_init_8 (fun q1 L1 f1 H hw hN => ?_)
  have hN : pw_N h0 7 L f _ _ [.null, .null, .null, .null, .null, .null, .null, .null, .null, .int 0, .null, .null, .null, .null] [(q1, .inl (cy 1, 240, .inl (fun _ => 0)))] := hN
  refine pw_cputF (ci := 7) (v := .ref q1) (C := RX7) (T := TX7) (N := 14) hx hb hts hi7 tyX7 tyX7_ok nmX7 hown hG hw hN rfl 2 (by decide) (hts (.fieldLink RX7 9 "TongueHouse$Sayer" "child" "[I") (by decide +kernel)) (fun _ h9 => h9) rfl hin rfl rfl rfl (Nat.le_of_ble_eq_true rfl) dX7_init_10 (fun f1 H locs hw hN => ?_)
  have hN : pw_N h0 7 L f _ _ [.null, .null, .ref q1, .null, .null, .null, .null, .null, .null, .int 0, .null, .null, .null, .null] [(q1, .inl (cy 1, 240, .inl (fun _ => 0)))] := hN
  refine lv_aload_n hx hb dX7_init_13 rfl (lv_at hl 0 rfl) ?_
  refine lv_bipush (v := 60) hx hb dX7_init_14 (by decide) ?_
  refine pw_cnewa (atype := .int) (t0 := 1) (cA := cy 1) (ty := .int) (N' := 60) (a0 := (60, .inl (fun _ => 0))) hx hb (hts (.arrayClass .int) (by decide +kernel)) rfl hG rfl (fun _ h => h) hw hN (fun _ => rfl) (by decide) (by decide) (Nat.le_of_ble_eq_true rfl) (Nat.le_of_ble_eq_true rfl) (Nat.le_of_ble_eq_true rfl) dX7_init_16 (fun q2 L1 f1 H hw hN => ?_)
  have hN : pw_N h0 7 L f _ _ [.null, .null, .ref q1, .null, .null, .null, .null, .null, .null, .int 0, .null, .null, .null, .null] [(q1, .inl (cy 1, 240, .inl (fun _ => 0))), (q2, .inl (cy 1, 60, .inl (fun _ => 0)))] := hN
  refine pw_cputF (ci := 7) (v := .ref q2) (C := RX7) (T := TX7) (N := 14) hx hb hts hi7 tyX7 tyX7_ok nmX7 hown hG hw hN rfl 3 (by decide) (hts (.fieldLink RX7 15 "TongueHouse$Sayer" "options" "[I") (by decide +kernel)) (fun _ h9 => h9) rfl hin rfl rfl rfl (Nat.le_of_ble_eq_true rfl) dX7_init_18 (fun f1 H locs hw hN => ?_)
  have hN : pw_N h0 7 L f _ _ [.null, .null, .ref q1, .ref q2, .null, .null, .null, .null, .null, .int 0, .null, .null, .null, .null] [(q1, .inl (cy 1, 240, .inl (fun _ => 0))), (q2, .inl (cy 1, 60, .inl (fun _ => 0)))] := hN
  refine lv_aload_n hx hb dX7_init_21 rfl (lv_at hl 0 rfl) ?_
  refine lv_sipush (v := 1440) hx hb dX7_init_22 (by decide) ?_
  refine pw_cnewa (atype := .int) (t0 := 1) (cA := cy 1) (ty := .int) (N' := 1440) (a0 := (1440, .inl (fun _ => 0))) hx hb (hts (.arrayClass .int) (by decide +kernel)) rfl hG rfl (fun _ h => h) hw hN (fun _ => rfl) (by decide) (by decide) (Nat.le_of_ble_eq_true rfl) (Nat.le_of_ble_eq_true rfl) (Nat.le_of_ble_eq_true rfl) dX7_init_25 (fun q3 L1 f1 H hw hN => ?_)
  have hN : pw_N h0 7 L f _ _ [.null, .null, .ref q1, .ref q2, .null, .null, .null, .null, .null, .int 0, .null, .null, .null, .null] [(q1, .inl (cy 1, 240, .inl (fun _ => 0))), (q2, .inl (cy 1, 60, .inl (fun _ => 0))), (q3, .inl (cy 1, 1440, .inl (fun _ => 0)))] := hN
  refine pw_cputF (ci := 7) (v := .ref q3) (C := RX7) (T := TX7) (N := 14) hx hb hts hi7 tyX7 tyX7_ok nmX7 hown hG hw hN rfl 4 (by decide) (hts (.fieldLink RX7 18 "TongueHouse$Sayer" "cost" "[I") (by decide +kernel)) (fun _ h9 => h9) rfl hin rfl rfl rfl (Nat.le_of_ble_eq_true rfl) dX7_init_27 (fun f1 H locs hw hN => ?_)
  have hN : pw_N h0 7 L f _ _ [.null, .null, .ref q1, .ref q2, .ref q3, .null, .null, .null, .null, .int 0, .null, .null, .null, .null] [(q1, .inl (cy 1, 240, .inl (fun _ => 0))), (q2, .inl (cy 1, 60, .inl (fun _ => 0))), (q3, .inl (cy 1, 1440, .inl (fun _ => 0)))] := hN
  refine lv_aload_n hx hb dX7_init_30 rfl (lv_at hl 0 rfl) ?_
  refine lv_sipush (v := 1440) hx hb dX7_init_31 (by decide) ?_
  refine pw_cnewa (atype := .int) (t0 := 1) (cA := cy 1) (ty := .int) (N' := 1440) (a0 := (1440, .inl (fun _ => 0))) hx hb (hts (.arrayClass .int) (by decide +kernel)) rfl hG rfl (fun _ h => h) hw hN (fun _ => rfl) (by decide) (by decide) (Nat.le_of_ble_eq_true rfl) (Nat.le_of_ble_eq_true rfl) (Nat.le_of_ble_eq_true rfl) dX7_init_34 (fun q4 L1 f1 H hw hN => ?_)
  have hN : pw_N h0 7 L f _ _ [.null, .null, .ref q1, .ref q2, .ref q3, .null, .null, .null, .null, .int 0, .null, .null, .null, .null] [(q1, .inl (cy 1, 240, .inl (fun _ => 0))), (q2, .inl (cy 1, 60, .inl (fun _ => 0))), (q3, .inl (cy 1, 1440, .inl (fun _ => 0))), (q4, .inl (cy 1, 1440, .inl (fun _ => 0)))] := hN
  refine pw_cputF (ci := 7) (v := .ref q4) (C := RX7) (T := TX7) (N := 14) hx hb hts hi7 tyX7 tyX7_ok nmX7 hown hG hw hN rfl 5 (by decide) (hts (.fieldLink RX7 21 "TongueHouse$Sayer" "values" "[I") (by decide +kernel)) (fun _ h9 => h9) rfl hin rfl rfl rfl (Nat.le_of_ble_eq_true rfl) dX7_init_36 (fun f1 H locs hw hN => ?_)
  have hN : pw_N h0 7 L f _ _ [.null, .null, .ref q1, .ref q2, .ref q3, .ref q4, .null, .null, .null, .int 0, .null, .null, .null, .null] [(q1, .inl (cy 1, 240, .inl (fun _ => 0))), (q2, .inl (cy 1, 60, .inl (fun _ => 0))), (q3, .inl (cy 1, 1440, .inl (fun _ => 0))), (q4, .inl (cy 1, 1440, .inl (fun _ => 0)))] := hN
  refine lv_aload_n hx hb dX7_init_39 rfl (lv_at hl 0 rfl) ?_
  refine lv_sipush (v := 1440) hx hb dX7_init_40 (by decide) ?_
  refine pw_cnewa (atype := .int) (t0 := 1) (cA := cy 1) (ty := .int) (N' := 1440) (a0 := (1440, .inl (fun _ => 0))) hx hb (hts (.arrayClass .int) (by decide +kernel)) rfl hG rfl (fun _ h => h) hw hN (fun _ => rfl) (by decide) (by decide) (Nat.le_of_ble_eq_true rfl) (Nat.le_of_ble_eq_true rfl) (Nat.le_of_ble_eq_true rfl) dX7_init_43 (fun q5 L1 f1 H hw hN => ?_)
  have hN : pw_N h0 7 L f _ _ [.null, .null, .ref q1, .ref q2, .ref q3, .ref q4, .null, .null, .null, .int 0, .null, .null, .null, .null] [(q1, .inl (cy 1, 240, .inl (fun _ => 0))), (q2, .inl (cy 1, 60, .inl (fun _ => 0))), (q3, .inl (cy 1, 1440, .inl (fun _ => 0))), (q4, .inl (cy 1, 1440, .inl (fun _ => 0))), (q5, .inl (cy 1, 1440, .inl (fun _ => 0)))] := hN
  refine pw_cputF (ci := 7) (v := .ref q5) (C := RX7) (T := TX7) (N := 14) hx hb hts hi7 tyX7 tyX7_ok nmX7 hown hG hw hN rfl 6 (by decide) (hts (.fieldLink RX7 24 "TongueHouse$Sayer" "length" "[I") (by decide +kernel)) (fun _ h9 => h9) rfl hin rfl rfl rfl (Nat.le_of_ble_eq_true rfl) dX7_init_45 (fun f1 H locs hw hN => ?_)
  have hN : pw_N h0 7 L f _ _ [.null, .null, .ref q1, .ref q2, .ref q3, .ref q4, .ref q5, .null, .null, .int 0, .null, .null, .null, .null] [(q1, .inl (cy 1, 240, .inl (fun _ => 0))), (q2, .inl (cy 1, 60, .inl (fun _ => 0))), (q3, .inl (cy 1, 1440, .inl (fun _ => 0))), (q4, .inl (cy 1, 1440, .inl (fun _ => 0))), (q5, .inl (cy 1, 1440, .inl (fun _ => 0)))] := hN
  refine lv_aload_n hx hb dX7_init_48 rfl (lv_at hl 0 rfl) ?_
  refine lv_sipush (v := 1440) hx hb dX7_init_49 (by decide) ?_
  refine pw_cnewa (atype := .int) (t0 := 1) (cA := cy 1) (ty := .int) (N' := 1440) (a0 := (1440, .inl (fun _ => 0))) hx hb (hts (.arrayClass .int) (by decide +kernel)) rfl hG rfl (fun _ h => h) hw hN (fun _ => rfl) (by decide) (by decide) (Nat.le_of_ble_eq_true rfl) (Nat.le_of_ble_eq_true rfl) (Nat.le_of_ble_eq_true rfl) dX7_init_52 (fun q6 L1 f1 H hw hN => ?_)
  have hN : pw_N h0 7 L f _ _ [.null, .null, .ref q1, .ref q2, .ref q3, .ref q4, .ref q5, .null, .null, .int 0, .null, .null, .null, .null] [(q1, .inl (cy 1, 240, .inl (fun _ => 0))), (q2, .inl (cy 1, 60, .inl (fun _ => 0))), (q3, .inl (cy 1, 1440, .inl (fun _ => 0))), (q4, .inl (cy 1, 1440, .inl (fun _ => 0))), (q5, .inl (cy 1, 1440, .inl (fun _ => 0))), (q6, .inl (cy 1, 1440, .inl (fun _ => 0)))] := hN
  refine pw_cputF (ci := 7) (v := .ref q6) (C := RX7) (T := TX7) (N := 14) hx hb hts hi7 tyX7 tyX7_ok nmX7 hown hG hw hN rfl 7 (by decide) (hts (.fieldLink RX7 27 "TongueHouse$Sayer" "rule" "[I") (by decide +kernel)) (fun _ h9 => h9) rfl hin rfl rfl rfl (Nat.le_of_ble_eq_true rfl) dX7_init_54 (fun f1 H locs hw hN => ?_)
  have hN : pw_N h0 7 L f _ _ [.null, .null, .ref q1, .ref q2, .ref q3, .ref q4, .ref q5, .ref q6, .null, .int 0, .null, .null, .null, .null] [(q1, .inl (cy 1, 240, .inl (fun _ => 0))), (q2, .inl (cy 1, 60, .inl (fun _ => 0))), (q3, .inl (cy 1, 1440, .inl (fun _ => 0))), (q4, .inl (cy 1, 1440, .inl (fun _ => 0))), (q5, .inl (cy 1, 1440, .inl (fun _ => 0))), (q6, .inl (cy 1, 1440, .inl (fun _ => 0)))] := hN
  refine lv_aload_n hx hb dX7_init_57 rfl (lv_at hl 0 rfl) ?_
  refine lv_sipush (v := 1440) hx hb dX7_init_58 (by decide) ?_
  refine pw_cnewa (atype := .int) (t0 := 1) (cA := cy 1) (ty := .int) (N' := 1440) (a0 := (1440, .inl (fun _ => 0))) hx hb (hts (.arrayClass .int) (by decide +kernel)) rfl hG rfl (fun _ h => h) hw hN (fun _ => rfl) (by decide) (by decide) (Nat.le_of_ble_eq_true rfl) (Nat.le_of_ble_eq_true rfl) (Nat.le_of_ble_eq_true rfl) dX7_init_61 (fun q7 L1 f1 H hw hN => ?_)
  have hN : pw_N h0 7 L f _ _ [.null, .null, .ref q1, .ref q2, .ref q3, .ref q4, .ref q5, .ref q6, .null, .int 0, .null, .null, .null, .null] [(q1, .inl (cy 1, 240, .inl (fun _ => 0))), (q2, .inl (cy 1, 60, .inl (fun _ => 0))), (q3, .inl (cy 1, 1440, .inl (fun _ => 0))), (q4, .inl (cy 1, 1440, .inl (fun _ => 0))), (q5, .inl (cy 1, 1440, .inl (fun _ => 0))), (q6, .inl (cy 1, 1440, .inl (fun _ => 0))), (q7, .inl (cy 1, 1440, .inl (fun _ => 0)))] := hN
  refine pw_cputF (ci := 7) (v := .ref q7) (C := RX7) (T := TX7) (N := 14) hx hb hts hi7 tyX7 tyX7_ok nmX7 hown hG hw hN rfl 8 (by decide) (hts (.fieldLink RX7 30 "TongueHouse$Sayer" "picks" "[I") (by decide +kernel)) (fun _ h9 => h9) rfl hin rfl rfl rfl (Nat.le_of_ble_eq_true rfl) dX7_init_63 (fun f1 H locs hw hN => ?_)
  have hN : pw_N h0 7 L f _ _ [.null, .null, .ref q1, .ref q2, .ref q3, .ref q4, .ref q5, .ref q6, .ref q7, .int 0, .null, .null, .null, .null] [(q1, .inl (cy 1, 240, .inl (fun _ => 0))), (q2, .inl (cy 1, 60, .inl (fun _ => 0))), (q3, .inl (cy 1, 1440, .inl (fun _ => 0))), (q4, .inl (cy 1, 1440, .inl (fun _ => 0))), (q5, .inl (cy 1, 1440, .inl (fun _ => 0))), (q6, .inl (cy 1, 1440, .inl (fun _ => 0))), (q7, .inl (cy 1, 1440, .inl (fun _ => 0)))] := hN
  refine lv_aload_n hx hb dX7_init_66 rfl (lv_at hl 0 rfl) ?_
  refine lv_iconst (v := 4) hx hb dX7_init_67 (by decide) ?_
  refine pw_cnewa (atype := .int) (t0 := 1) (cA := cy 1) (ty := .int) (N' := 4) (a0 := (4, .inl (fun _ => 0))) hx hb (hts (.arrayClass .int) (by decide +kernel)) rfl hG rfl (fun _ h => h) hw hN (fun _ => rfl) (by decide) (by decide) (Nat.le_of_ble_eq_true rfl) (Nat.le_of_ble_eq_true rfl) (Nat.le_of_ble_eq_true rfl) dX7_init_68 (fun q8 L1 f1 H hw hN => ?_)
  have hN : pw_N h0 7 L f _ _ [.null, .null, .ref q1, .ref q2, .ref q3, .ref q4, .ref q5, .ref q6, .ref q7, .int 0, .null, .null, .null, .null] [(q1, .inl (cy 1, 240, .inl (fun _ => 0))), (q2, .inl (cy 1, 60, .inl (fun _ => 0))), (q3, .inl (cy 1, 1440, .inl (fun _ => 0))), (q4, .inl (cy 1, 1440, .inl (fun _ => 0))), (q5, .inl (cy 1, 1440, .inl (fun _ => 0))), (q6, .inl (cy 1, 1440, .inl (fun _ => 0))), (q7, .inl (cy 1, 1440, .inl (fun _ => 0))), (q8, .inl (cy 1, 4, .inl (fun _ => 0)))] := hN
  refine pw_cputF (ci := 7) (v := .ref q8) (C := RX7) (T := TX7) (N := 14) hx hb hts hi7 tyX7 tyX7_ok nmX7 hown hG hw hN rfl 10 (by decide) (hts (.fieldLink RX7 33 "TongueHouse$Sayer" "picked" "[I") (by decide +kernel)) (fun _ h9 => h9) rfl hin rfl rfl rfl (Nat.le_of_ble_eq_true rfl) dX7_init_70 (fun f1 H locs hw hN => ?_)
  have hN : pw_N h0 7 L f _ _ [.null, .null, .ref q1, .ref q2, .ref q3, .ref q4, .ref q5, .ref q6, .ref q7, .int 0, .ref q8, .null, .null, .null] [(q1, .inl (cy 1, 240, .inl (fun _ => 0))), (q2, .inl (cy 1, 60, .inl (fun _ => 0))), (q3, .inl (cy 1, 1440, .inl (fun _ => 0))), (q4, .inl (cy 1, 1440, .inl (fun _ => 0))), (q5, .inl (cy 1, 1440, .inl (fun _ => 0))), (q6, .inl (cy 1, 1440, .inl (fun _ => 0))), (q7, .inl (cy 1, 1440, .inl (fun _ => 0))), (q8, .inl (cy 1, 4, .inl (fun _ => 0)))] := hN
  refine lv_aload_n hx hb dX7_init_73 rfl (lv_at hl 0 rfl) ?_
  refine lv_iconst (v := 4) hx hb dX7_init_74 (by decide) ?_
  refine pw_cnewa (atype := .int) (t0 := 1) (cA := cy 1) (ty := .int) (N' := 4) (a0 := (4, .inl (fun _ => 0))) hx hb (hts (.arrayClass .int) (by decide +kernel)) rfl hG rfl (fun _ h => h) hw hN (fun _ => rfl) (by decide) (by decide) (Nat.le_of_ble_eq_true rfl) (Nat.le_of_ble_eq_true rfl) (Nat.le_of_ble_eq_true rfl) dX7_init_75 (fun q9 L1 f1 H hw hN => ?_)
  have hN : pw_N h0 7 L f _ _ [.null, .null, .ref q1, .ref q2, .ref q3, .ref q4, .ref q5, .ref q6, .ref q7, .int 0, .ref q8, .null, .null, .null] [(q1, .inl (cy 1, 240, .inl (fun _ => 0))), (q2, .inl (cy 1, 60, .inl (fun _ => 0))), (q3, .inl (cy 1, 1440, .inl (fun _ => 0))), (q4, .inl (cy 1, 1440, .inl (fun _ => 0))), (q5, .inl (cy 1, 1440, .inl (fun _ => 0))), (q6, .inl (cy 1, 1440, .inl (fun _ => 0))), (q7, .inl (cy 1, 1440, .inl (fun _ => 0))), (q8, .inl (cy 1, 4, .inl (fun _ => 0))), (q9, .inl (cy 1, 4, .inl (fun _ => 0)))] := hN
  refine pw_cputF (ci := 7) (v := .ref q9) (C := RX7) (T := TX7) (N := 14) hx hb hts hi7 tyX7 tyX7_ok nmX7 hown hG hw hN rfl 11 (by decide) (hts (.fieldLink RX7 36 "TongueHouse$Sayer" "work" "[I") (by decide +kernel)) (fun _ h9 => h9) rfl hin rfl rfl rfl (Nat.le_of_ble_eq_true rfl) dX7_init_77 (fun f1 H locs hw hN => ?_)
  have hN : pw_N h0 7 L f _ _ [.null, .null, .ref q1, .ref q2, .ref q3, .ref q4, .ref q5, .ref q6, .ref q7, .int 0, .ref q8, .ref q9, .null, .null] [(q1, .inl (cy 1, 240, .inl (fun _ => 0))), (q2, .inl (cy 1, 60, .inl (fun _ => 0))), (q3, .inl (cy 1, 1440, .inl (fun _ => 0))), (q4, .inl (cy 1, 1440, .inl (fun _ => 0))), (q5, .inl (cy 1, 1440, .inl (fun _ => 0))), (q6, .inl (cy 1, 1440, .inl (fun _ => 0))), (q7, .inl (cy 1, 1440, .inl (fun _ => 0))), (q8, .inl (cy 1, 4, .inl (fun _ => 0))), (q9, .inl (cy 1, 4, .inl (fun _ => 0)))] := hN
  refine lv_aload_n hx hb dX7_init_80 rfl (lv_at hl 0 rfl) ?_
  refine lv_bipush (v := 60) hx hb dX7_init_81 (by decide) ?_
  refine pw_cnewa (atype := .int) (t0 := 1) (cA := cy 1) (ty := .int) (N' := 60) (a0 := (60, .inl (fun _ => 0))) hx hb (hts (.arrayClass .int) (by decide +kernel)) rfl hG rfl (fun _ h => h) hw hN (fun _ => rfl) (by decide) (by decide) (Nat.le_of_ble_eq_true rfl) (Nat.le_of_ble_eq_true rfl) (Nat.le_of_ble_eq_true rfl) dX7_init_83 (fun q10 L1 f1 H hw hN => ?_)
  have hN : pw_N h0 7 L f _ _ [.null, .null, .ref q1, .ref q2, .ref q3, .ref q4, .ref q5, .ref q6, .ref q7, .int 0, .ref q8, .ref q9, .null, .null] [(q1, .inl (cy 1, 240, .inl (fun _ => 0))), (q2, .inl (cy 1, 60, .inl (fun _ => 0))), (q3, .inl (cy 1, 1440, .inl (fun _ => 0))), (q4, .inl (cy 1, 1440, .inl (fun _ => 0))), (q5, .inl (cy 1, 1440, .inl (fun _ => 0))), (q6, .inl (cy 1, 1440, .inl (fun _ => 0))), (q7, .inl (cy 1, 1440, .inl (fun _ => 0))), (q8, .inl (cy 1, 4, .inl (fun _ => 0))), (q9, .inl (cy 1, 4, .inl (fun _ => 0))), (q10, .inl (cy 1, 60, .inl (fun _ => 0)))] := hN
  refine pw_cputF (ci := 7) (v := .ref q10) (C := RX7) (T := TX7) (N := 14) hx hb hts hi7 tyX7 tyX7_ok nmX7 hown hG hw hN rfl 12 (by decide) (hts (.fieldLink RX7 39 "TongueHouse$Sayer" "openEntry" "[I") (by decide +kernel)) (fun _ h9 => h9) rfl hin rfl rfl rfl (Nat.le_of_ble_eq_true rfl) dX7_init_85 (fun f1 H locs hw hN => ?_)
  have hN : pw_N h0 7 L f _ _ [.null, .null, .ref q1, .ref q2, .ref q3, .ref q4, .ref q5, .ref q6, .ref q7, .int 0, .ref q8, .ref q9, .ref q10, .null] [(q1, .inl (cy 1, 240, .inl (fun _ => 0))), (q2, .inl (cy 1, 60, .inl (fun _ => 0))), (q3, .inl (cy 1, 1440, .inl (fun _ => 0))), (q4, .inl (cy 1, 1440, .inl (fun _ => 0))), (q5, .inl (cy 1, 1440, .inl (fun _ => 0))), (q6, .inl (cy 1, 1440, .inl (fun _ => 0))), (q7, .inl (cy 1, 1440, .inl (fun _ => 0))), (q8, .inl (cy 1, 4, .inl (fun _ => 0))), (q9, .inl (cy 1, 4, .inl (fun _ => 0))), (q10, .inl (cy 1, 60, .inl (fun _ => 0)))] := hN
  refine lv_aload_n hx hb dX7_init_88 rfl (lv_at hl 0 rfl) ?_
  refine lv_bipush (v := 60) hx hb dX7_init_89 (by decide) ?_
  refine pw_cnewa (atype := .int) (t0 := 1) (cA := cy 1) (ty := .int) (N' := 60) (a0 := (60, .inl (fun _ => 0))) hx hb (hts (.arrayClass .int) (by decide +kernel)) rfl hG rfl (fun _ h => h) hw hN (fun _ => rfl) (by decide) (by decide) (Nat.le_of_ble_eq_true rfl) (Nat.le_of_ble_eq_true rfl) (Nat.le_of_ble_eq_true rfl) dX7_init_91 (fun q11 L1 f1 H hw hN => ?_)
  have hN : pw_N h0 7 L f _ _ [.null, .null, .ref q1, .ref q2, .ref q3, .ref q4, .ref q5, .ref q6, .ref q7, .int 0, .ref q8, .ref q9, .ref q10, .null] [(q1, .inl (cy 1, 240, .inl (fun _ => 0))), (q2, .inl (cy 1, 60, .inl (fun _ => 0))), (q3, .inl (cy 1, 1440, .inl (fun _ => 0))), (q4, .inl (cy 1, 1440, .inl (fun _ => 0))), (q5, .inl (cy 1, 1440, .inl (fun _ => 0))), (q6, .inl (cy 1, 1440, .inl (fun _ => 0))), (q7, .inl (cy 1, 1440, .inl (fun _ => 0))), (q8, .inl (cy 1, 4, .inl (fun _ => 0))), (q9, .inl (cy 1, 4, .inl (fun _ => 0))), (q10, .inl (cy 1, 60, .inl (fun _ => 0))), (q11, .inl (cy 1, 60, .inl (fun _ => 0)))] := hN
  refine pw_cputF (ci := 7) (v := .ref q11) (C := RX7) (T := TX7) (N := 14) hx hb hts hi7 tyX7 tyX7_ok nmX7 hown hG hw hN rfl 13 (by decide) (hts (.fieldLink RX7 42 "TongueHouse$Sayer" "openItem" "[I") (by decide +kernel)) (fun _ h9 => h9) rfl hin rfl rfl rfl (Nat.le_of_ble_eq_true rfl) dX7_init_93 (fun f1 H locs hw hN => ?_)
  have hN : pw_N h0 7 L f _ _ [.null, .null, .ref q1, .ref q2, .ref q3, .ref q4, .ref q5, .ref q6, .ref q7, .int 0, .ref q8, .ref q9, .ref q10, .ref q11] [(q1, .inl (cy 1, 240, .inl (fun _ => 0))), (q2, .inl (cy 1, 60, .inl (fun _ => 0))), (q3, .inl (cy 1, 1440, .inl (fun _ => 0))), (q4, .inl (cy 1, 1440, .inl (fun _ => 0))), (q5, .inl (cy 1, 1440, .inl (fun _ => 0))), (q6, .inl (cy 1, 1440, .inl (fun _ => 0))), (q7, .inl (cy 1, 1440, .inl (fun _ => 0))), (q8, .inl (cy 1, 4, .inl (fun _ => 0))), (q9, .inl (cy 1, 4, .inl (fun _ => 0))), (q10, .inl (cy 1, 60, .inl (fun _ => 0))), (q11, .inl (cy 1, 60, .inl (fun _ => 0)))] := hN
  refine lv_aload_n hx hb dX7_init_96 rfl (lv_at hl 0 rfl) ?_
  refine lv_aload_n hx hb dX7_init_97 rfl (lv_at hl 1 rfl) ?_
  refine pw_cputF (ci := 7) (v := .ref p1) (C := RX7) (T := TX7) (N := 14) hx hb hts hi7 tyX7 tyX7_ok nmX7 hown hG hw hN rfl 0 (by decide) (hts (.fieldLink RX7 45 "TongueHouse$Sayer" "store" "LTongueHouse$Store;") (by decide +kernel)) (fun _ h9 => h9) rfl hin rfl rfl rfl (Nat.le_of_ble_eq_true rfl) dX7_init_98 (fun f1 H locs hw hN => ?_)
  have hN : pw_N h0 7 L f _ _ [.ref p1, .null, .ref q1, .ref q2, .ref q3, .ref q4, .ref q5, .ref q6, .ref q7, .int 0, .ref q8, .ref q9, .ref q10, .ref q11] [(q1, .inl (cy 1, 240, .inl (fun _ => 0))), (q2, .inl (cy 1, 60, .inl (fun _ => 0))), (q3, .inl (cy 1, 1440, .inl (fun _ => 0))), (q4, .inl (cy 1, 1440, .inl (fun _ => 0))), (q5, .inl (cy 1, 1440, .inl (fun _ => 0))), (q6, .inl (cy 1, 1440, .inl (fun _ => 0))), (q7, .inl (cy 1, 1440, .inl (fun _ => 0))), (q8, .inl (cy 1, 4, .inl (fun _ => 0))), (q9, .inl (cy 1, 4, .inl (fun _ => 0))), (q10, .inl (cy 1, 60, .inl (fun _ => 0))), (q11, .inl (cy 1, 60, .inl (fun _ => 0)))] := hN
  refine W.widen (k := 11) (n := 7628) (Nat.le_of_ble_eq_true rfl) (Nat.le_of_ble_eq_true rfl) ?_
  exact pw_vret hx hb hr hlocks hsz hw ⟨q1, q2, q3, q4, q5, q6, q7, q8, q9, q10, q11, hN⟩ dX7_init_101
theorem bl_X10 : ∀ j, j < 19 → defaultValue (tyX10 j) = vp_V [.null, .int 0, .null, .null, .null, .null, .null, .null, .null, .int 0, .null, .null, .null, .null, .null, .null, .int 0, .int 0, .int 0] j := by decide +kernel
set_option maxHeartbeats 4000000 in
set_option maxRecDepth 100000 in
/-- TongueHouse$Thought(..): 13 cells come -/
theorem c_X10_init (l : Launch) (D : va_G) (cy : Nat → ClassId) (h0 sz : Nat) (L : List Nat) (f : Nat → va_E) (p1 : Nat) (ha : h0 ∈ L) (he : f h0 = .inr (10, [.null, .int 0, .null, .null, .null, .null, .null, .null, .null, .int 0, .null, .null, .null, .null, .null, .null, .int 0, .int 0, .int 0])) : Met l yX10_init wsX10_init ({ frames := 1, cells := 13, slots := 3841, locals := 12 }) (pw_Pc D cy [.ref h0, .ref p1] sz L f) (va_Qv (fun u : List Nat × (Nat → va_E) => ∃ q1 q2 q3 q4 q5 q6 q7 q8 q9 q10 q11 q12 q13 : Nat, pw_N h0 10 L f u.1 u.2 [.ref p1, .int 0, .ref q1, .ref q2, .ref q3, .ref q4, .ref q5, .ref q6, .ref q7, .int 0, .ref q8, .ref q9, .ref q10, .ref q11, .ref q12, .ref q13, .int 0, .int 0, .int 0] [(q1, .inl (cy 1, 300, .inl (fun _ => 0))), (q2, .inl (cy 2, 300, .inr (.inl (fun _ => 0)))), (q3, .inl (cy 1, 300, .inl (fun _ => 0))), (q4, .inl (cy 2, 300, .inr (.inl (fun _ => 0)))), (q5, .inl (cy 1, 240, .inl (fun _ => 0))), (q6, .inl (cy 1, 300, .inl (fun _ => 0))), (q7, .inl (cy 1, 300, .inl (fun _ => 0))), (q8, .inl (cy 2, 300, .inr (.inl (fun _ => 0)))), (q9, .inl (cy 1, 300, .inl (fun _ => 0))), (q10, .inl (cy 1, 300, .inl (fun _ => 0))), (q11, .inl (cy 1, 300, .inl (fun _ => 0))), (q12, .inl (cy 1, 300, .inl (fun _ => 0))), (q13, .inl (cy 1, 301, .inl (fun _ => 0)))]) (pw_B D (pw_A L f sz)) (pw_A L f sz)) 13 (3841) (pw_A L f sz) := by
  refine Met.ofW (cc := cX10_init) (maxL := 2) (ret := none) (by decide) rfl ?_
  intro p e s m args below meth c s₁ B hml hv
  obtain ⟨rfl, hsz, hG, hP, hD0⟩ := hv
  have hx := B.exec
  have hb := B.bytes
  have hr := B.returns
  have hts := atoms_spec (ws := wsX10_init) B.pre
  have hown : s.vm.findClass RX10 = some m.cls := findClass_of_methodNamed B.named
  have hlocks := B.notSynchronized
  have hin : meth.name = "<init>" := (name_of_methodNamed B.named B.method).1
  have hw := pw_start (cy := cy) hsz hP hD0
  have hN := pw_N.rf ha he
  have hl := lv_entry ([.ref h0, .ref p1]) (n := 2) (Nat.le_of_ble_eq_true rfl)
  rw [lg_entry_eq]
  generalize (lg_sl ([.ref h0, .ref p1]) ++ List.replicate (2 - (lg_sl ([.ref h0, .ref p1])).length) Slot.unset).toArray = ls at hl ⊢
  have hl : lv_has ls 2 [(0, .ref h0), (1, .ref p1)] := hl
  have hi10 : ∀ w ∈ u_ws RX10 TX10 19, w ∈ wsX10_init := (fun _ h => List.mem_cons_of_mem _ (List.mem_append_right _ h))
  refine lv_aload_n hx hb dX10_init_0 rfl (lv_at hl 0 rfl) ?_
  refine W.objInit hx hb hown (hts (.methodLink RX10 3 objectInit) (by decide +kernel)) (hts (.instanceMethod objectInit) (by decide +kernel)) (hts _ (show Cond.code objectInit ⟨#[0xb1]⟩ 1 none ∈ wsX10_init by decide +kernel)) rfl (by rw [hml]; exact hl.1) rfl dX10_init_1 (Nat.le_of_ble_eq_true rfl) (Nat.le_of_ble_eq_true rfl) ?_
  refine W.eq (g2 := F0 m 4 ls []) rfl ?_
  refine lv_aload_n hx hb dX10_init_4 rfl (lv_at hl 0 rfl) ?_
  refine lv_sipush (v := 300) hx hb dX10_init_5 (by decide) ?_
  refine pw_cnewa (atype := .int) (t0 := 1) (cA := cy 1) (ty := .int) (N' := 300) (a0 := (300, .inl (fun _ => 0))) hx hb (hts (.arrayClass .int) (by decide +kernel)) rfl hG rfl (fun _ h => h) hw hN (fun _ => rfl) (by decide) (by decide) (Nat.le_of_ble_eq_true rfl) (Nat.le_of_ble_eq_true rfl) (Nat.le_of_ble_eq_true rfl) dX10_init_8 (fun q1 L1 f1 H hw hN => ?_)
  have hN : pw_N h0 10 L f _ _ [.null, .int 0, .null, .null, .null, .null, .null, .null, .null, .int 0, .null, .null, .null, .null, .null, .null, .int 0, .int 0, .int 0] [(q1, .inl (cy 1, 300, .inl (fun _ => 0)))] := hN
  refine pw_cput (ci := 10) (v := .ref q1) (C := RX10) (T := TX10) (N := 19) hx hb hts hi10 tyX10 tyX10_ok nmX10 hown hG hw hN rfl 2 (by decide) (hts (.fieldLink RX10 11 "TongueHouse$Thought" "op" "[I") (by decide +kernel)) (fun _ h9 => h9) rfl rfl rfl (Nat.le_of_ble_eq_true rfl) dX10_init_10 (fun f1 H locs hw hN => ?_)
  have hN : pw_N h0 10 L f _ _ [.null, .int 0, .ref q1, .null, .null, .null, .null, .null, .null, .int 0, .null, .null, .null, .null, .null, .null, .int 0, .int 0, .int 0] [(q1, .inl (cy 1, 300, .inl (fun _ => 0)))] := hN
  refine lv_aload_n hx hb dX10_init_13 rfl (lv_at hl 0 rfl) ?_
  refine lv_sipush (v := 300) hx hb dX10_init_14 (by decide) ?_
  refine pw_cnewa (atype := .long) (t0 := 2) (cA := cy 2) (ty := .long) (N' := 300) (a0 := (300, .inr (.inl (fun _ => 0)))) hx hb (hts (.arrayClass .long) (by decide +kernel)) rfl hG rfl (fun _ h => h) hw hN (fun _ => rfl) (by decide) (by decide) (Nat.le_of_ble_eq_true rfl) (Nat.le_of_ble_eq_true rfl) (Nat.le_of_ble_eq_true rfl) dX10_init_17 (fun q2 L1 f1 H hw hN => ?_)
  have hN : pw_N h0 10 L f _ _ [.null, .int 0, .ref q1, .null, .null, .null, .null, .null, .null, .int 0, .null, .null, .null, .null, .null, .null, .int 0, .int 0, .int 0] [(q1, .inl (cy 1, 300, .inl (fun _ => 0))), (q2, .inl (cy 2, 300, .inr (.inl (fun _ => 0))))] := hN
  refine pw_cput (ci := 10) (v := .ref q2) (C := RX10) (T := TX10) (N := 19) hx hb hts hi10 tyX10 tyX10_ok nmX10 hown hG hw hN rfl 3 (by decide) (hts (.fieldLink RX10 15 "TongueHouse$Thought" "name" "[J") (by decide +kernel)) (fun _ h9 => h9) rfl rfl rfl (Nat.le_of_ble_eq_true rfl) dX10_init_19 (fun f1 H locs hw hN => ?_)
  have hN : pw_N h0 10 L f _ _ [.null, .int 0, .ref q1, .ref q2, .null, .null, .null, .null, .null, .int 0, .null, .null, .null, .null, .null, .null, .int 0, .int 0, .int 0] [(q1, .inl (cy 1, 300, .inl (fun _ => 0))), (q2, .inl (cy 2, 300, .inr (.inl (fun _ => 0))))] := hN
  refine lv_aload_n hx hb dX10_init_22 rfl (lv_at hl 0 rfl) ?_
  refine lv_sipush (v := 300) hx hb dX10_init_23 (by decide) ?_
  refine pw_cnewa (atype := .int) (t0 := 1) (cA := cy 1) (ty := .int) (N' := 300) (a0 := (300, .inl (fun _ => 0))) hx hb (hts (.arrayClass .int) (by decide +kernel)) rfl hG rfl (fun _ h => h) hw hN (fun _ => rfl) (by decide) (by decide) (Nat.le_of_ble_eq_true rfl) (Nat.le_of_ble_eq_true rfl) (Nat.le_of_ble_eq_true rfl) dX10_init_26 (fun q3 L1 f1 H hw hN => ?_)
  have hN : pw_N h0 10 L f _ _ [.null, .int 0, .ref q1, .ref q2, .null, .null, .null, .null, .null, .int 0, .null, .null, .null, .null, .null, .null, .int 0, .int 0, .int 0] [(q1, .inl (cy 1, 300, .inl (fun _ => 0))), (q2, .inl (cy 2, 300, .inr (.inl (fun _ => 0)))), (q3, .inl (cy 1, 300, .inl (fun _ => 0)))] := hN
  refine pw_cput (ci := 10) (v := .ref q3) (C := RX10) (T := TX10) (N := 19) hx hb hts hi10 tyX10 tyX10_ok nmX10 hown hG hw hN rfl 4 (by decide) (hts (.fieldLink RX10 19 "TongueHouse$Thought" "nextOp" "[I") (by decide +kernel)) (fun _ h9 => h9) rfl rfl rfl (Nat.le_of_ble_eq_true rfl) dX10_init_28 (fun f1 H locs hw hN => ?_)
  have hN : pw_N h0 10 L f _ _ [.null, .int 0, .ref q1, .ref q2, .ref q3, .null, .null, .null, .null, .int 0, .null, .null, .null, .null, .null, .null, .int 0, .int 0, .int 0] [(q1, .inl (cy 1, 300, .inl (fun _ => 0))), (q2, .inl (cy 2, 300, .inr (.inl (fun _ => 0)))), (q3, .inl (cy 1, 300, .inl (fun _ => 0)))] := hN
  refine lv_aload_n hx hb dX10_init_31 rfl (lv_at hl 0 rfl) ?_
  refine lv_sipush (v := 300) hx hb dX10_init_32 (by decide) ?_
  refine pw_cnewa (atype := .long) (t0 := 2) (cA := cy 2) (ty := .long) (N' := 300) (a0 := (300, .inr (.inl (fun _ => 0)))) hx hb (hts (.arrayClass .long) (by decide +kernel)) rfl hG rfl (fun _ h => h) hw hN (fun _ => rfl) (by decide) (by decide) (Nat.le_of_ble_eq_true rfl) (Nat.le_of_ble_eq_true rfl) (Nat.le_of_ble_eq_true rfl) dX10_init_35 (fun q4 L1 f1 H hw hN => ?_)
  have hN : pw_N h0 10 L f _ _ [.null, .int 0, .ref q1, .ref q2, .ref q3, .null, .null, .null, .null, .int 0, .null, .null, .null, .null, .null, .null, .int 0, .int 0, .int 0] [(q1, .inl (cy 1, 300, .inl (fun _ => 0))), (q2, .inl (cy 2, 300, .inr (.inl (fun _ => 0)))), (q3, .inl (cy 1, 300, .inl (fun _ => 0))), (q4, .inl (cy 2, 300, .inr (.inl (fun _ => 0))))] := hN
  refine pw_cput (ci := 10) (v := .ref q4) (C := RX10) (T := TX10) (N := 19) hx hb hts hi10 tyX10 tyX10_ok nmX10 hown hG hw hN rfl 5 (by decide) (hts (.fieldLink RX10 22 "TongueHouse$Thought" "nextName" "[J") (by decide +kernel)) (fun _ h9 => h9) rfl rfl rfl (Nat.le_of_ble_eq_true rfl) dX10_init_37 (fun f1 H locs hw hN => ?_)
  have hN : pw_N h0 10 L f _ _ [.null, .int 0, .ref q1, .ref q2, .ref q3, .ref q4, .null, .null, .null, .int 0, .null, .null, .null, .null, .null, .null, .int 0, .int 0, .int 0] [(q1, .inl (cy 1, 300, .inl (fun _ => 0))), (q2, .inl (cy 2, 300, .inr (.inl (fun _ => 0)))), (q3, .inl (cy 1, 300, .inl (fun _ => 0))), (q4, .inl (cy 2, 300, .inr (.inl (fun _ => 0))))] := hN
  refine lv_aload_n hx hb dX10_init_40 rfl (lv_at hl 0 rfl) ?_
  refine lv_sipush (v := 240) hx hb dX10_init_41 (by decide) ?_
  refine pw_cnewa (atype := .int) (t0 := 1) (cA := cy 1) (ty := .int) (N' := 240) (a0 := (240, .inl (fun _ => 0))) hx hb (hts (.arrayClass .int) (by decide +kernel)) rfl hG rfl (fun _ h => h) hw hN (fun _ => rfl) (by decide) (by decide) (Nat.le_of_ble_eq_true rfl) (Nat.le_of_ble_eq_true rfl) (Nat.le_of_ble_eq_true rfl) dX10_init_44 (fun q5 L1 f1 H hw hN => ?_)
  have hN : pw_N h0 10 L f _ _ [.null, .int 0, .ref q1, .ref q2, .ref q3, .ref q4, .null, .null, .null, .int 0, .null, .null, .null, .null, .null, .null, .int 0, .int 0, .int 0] [(q1, .inl (cy 1, 300, .inl (fun _ => 0))), (q2, .inl (cy 2, 300, .inr (.inl (fun _ => 0)))), (q3, .inl (cy 1, 300, .inl (fun _ => 0))), (q4, .inl (cy 2, 300, .inr (.inl (fun _ => 0)))), (q5, .inl (cy 1, 240, .inl (fun _ => 0)))] := hN
  refine pw_cputF (ci := 10) (v := .ref q5) (C := RX10) (T := TX10) (N := 19) hx hb hts hi10 tyX10 tyX10_ok nmX10 hown hG hw hN rfl 6 (by decide) (hts (.fieldLink RX10 25 "TongueHouse$Thought" "child" "[I") (by decide +kernel)) (fun _ h9 => h9) rfl hin rfl rfl rfl (Nat.le_of_ble_eq_true rfl) dX10_init_46 (fun f1 H locs hw hN => ?_)
  have hN : pw_N h0 10 L f _ _ [.null, .int 0, .ref q1, .ref q2, .ref q3, .ref q4, .ref q5, .null, .null, .int 0, .null, .null, .null, .null, .null, .null, .int 0, .int 0, .int 0] [(q1, .inl (cy 1, 300, .inl (fun _ => 0))), (q2, .inl (cy 2, 300, .inr (.inl (fun _ => 0)))), (q3, .inl (cy 1, 300, .inl (fun _ => 0))), (q4, .inl (cy 2, 300, .inr (.inl (fun _ => 0)))), (q5, .inl (cy 1, 240, .inl (fun _ => 0)))] := hN
  refine lv_aload_n hx hb dX10_init_49 rfl (lv_at hl 0 rfl) ?_
  refine lv_sipush (v := 300) hx hb dX10_init_50 (by decide) ?_
  refine pw_cnewa (atype := .int) (t0 := 1) (cA := cy 1) (ty := .int) (N' := 300) (a0 := (300, .inl (fun _ => 0))) hx hb (hts (.arrayClass .int) (by decide +kernel)) rfl hG rfl (fun _ h => h) hw hN (fun _ => rfl) (by decide) (by decide) (Nat.le_of_ble_eq_true rfl) (Nat.le_of_ble_eq_true rfl) (Nat.le_of_ble_eq_true rfl) dX10_init_53 (fun q6 L1 f1 H hw hN => ?_)
  have hN : pw_N h0 10 L f _ _ [.null, .int 0, .ref q1, .ref q2, .ref q3, .ref q4, .ref q5, .null, .null, .int 0, .null, .null, .null, .null, .null, .null, .int 0, .int 0, .int 0] [(q1, .inl (cy 1, 300, .inl (fun _ => 0))), (q2, .inl (cy 2, 300, .inr (.inl (fun _ => 0)))), (q3, .inl (cy 1, 300, .inl (fun _ => 0))), (q4, .inl (cy 2, 300, .inr (.inl (fun _ => 0)))), (q5, .inl (cy 1, 240, .inl (fun _ => 0))), (q6, .inl (cy 1, 300, .inl (fun _ => 0)))] := hN
  refine pw_cputF (ci := 10) (v := .ref q6) (C := RX10) (T := TX10) (N := 19) hx hb hts hi10 tyX10 tyX10_ok nmX10 hown hG hw hN rfl 7 (by decide) (hts (.fieldLink RX10 28 "TongueHouse$Thought" "stack" "[I") (by decide +kernel)) (fun _ h9 => h9) rfl hin rfl rfl rfl (Nat.le_of_ble_eq_true rfl) dX10_init_55 (fun f1 H locs hw hN => ?_)
  have hN : pw_N h0 10 L f _ _ [.null, .int 0, .ref q1, .ref q2, .ref q3, .ref q4, .ref q5, .ref q6, .null, .int 0, .null, .null, .null, .null, .null, .null, .int 0, .int 0, .int 0] [(q1, .inl (cy 1, 300, .inl (fun _ => 0))), (q2, .inl (cy 2, 300, .inr (.inl (fun _ => 0)))), (q3, .inl (cy 1, 300, .inl (fun _ => 0))), (q4, .inl (cy 2, 300, .inr (.inl (fun _ => 0)))), (q5, .inl (cy 1, 240, .inl (fun _ => 0))), (q6, .inl (cy 1, 300, .inl (fun _ => 0)))] := hN
  refine lv_aload_n hx hb dX10_init_58 rfl (lv_at hl 0 rfl) ?_
  refine lv_sipush (v := 300) hx hb dX10_init_59 (by decide) ?_
  refine pw_cnewa (atype := .int) (t0 := 1) (cA := cy 1) (ty := .int) (N' := 300) (a0 := (300, .inl (fun _ => 0))) hx hb (hts (.arrayClass .int) (by decide +kernel)) rfl hG rfl (fun _ h => h) hw hN (fun _ => rfl) (by decide) (by decide) (Nat.le_of_ble_eq_true rfl) (Nat.le_of_ble_eq_true rfl) (Nat.le_of_ble_eq_true rfl) dX10_init_62 (fun q7 L1 f1 H hw hN => ?_)
  have hN : pw_N h0 10 L f _ _ [.null, .int 0, .ref q1, .ref q2, .ref q3, .ref q4, .ref q5, .ref q6, .null, .int 0, .null, .null, .null, .null, .null, .null, .int 0, .int 0, .int 0] [(q1, .inl (cy 1, 300, .inl (fun _ => 0))), (q2, .inl (cy 2, 300, .inr (.inl (fun _ => 0)))), (q3, .inl (cy 1, 300, .inl (fun _ => 0))), (q4, .inl (cy 2, 300, .inr (.inl (fun _ => 0)))), (q5, .inl (cy 1, 240, .inl (fun _ => 0))), (q6, .inl (cy 1, 300, .inl (fun _ => 0))), (q7, .inl (cy 1, 300, .inl (fun _ => 0)))] := hN
  refine pw_cputF (ci := 10) (v := .ref q7) (C := RX10) (T := TX10) (N := 19) hx hb hts hi10 tyX10 tyX10_ok nmX10 hown hG hw hN rfl 8 (by decide) (hts (.fieldLink RX10 31 "TongueHouse$Thought" "inner" "[I") (by decide +kernel)) (fun _ h9 => h9) rfl hin rfl rfl rfl (Nat.le_of_ble_eq_true rfl) dX10_init_64 (fun f1 H locs hw hN => ?_)
  have hN : pw_N h0 10 L f _ _ [.null, .int 0, .ref q1, .ref q2, .ref q3, .ref q4, .ref q5, .ref q6, .ref q7, .int 0, .null, .null, .null, .null, .null, .null, .int 0, .int 0, .int 0] [(q1, .inl (cy 1, 300, .inl (fun _ => 0))), (q2, .inl (cy 2, 300, .inr (.inl (fun _ => 0)))), (q3, .inl (cy 1, 300, .inl (fun _ => 0))), (q4, .inl (cy 2, 300, .inr (.inl (fun _ => 0)))), (q5, .inl (cy 1, 240, .inl (fun _ => 0))), (q6, .inl (cy 1, 300, .inl (fun _ => 0))), (q7, .inl (cy 1, 300, .inl (fun _ => 0)))] := hN
  refine lv_aload_n hx hb dX10_init_67 rfl (lv_at hl 0 rfl) ?_
  refine lv_sipush (v := 300) hx hb dX10_init_68 (by decide) ?_
  refine pw_cnewa (atype := .long) (t0 := 2) (cA := cy 2) (ty := .long) (N' := 300) (a0 := (300, .inr (.inl (fun _ => 0)))) hx hb (hts (.arrayClass .long) (by decide +kernel)) rfl hG rfl (fun _ h => h) hw hN (fun _ => rfl) (by decide) (by decide) (Nat.le_of_ble_eq_true rfl) (Nat.le_of_ble_eq_true rfl) (Nat.le_of_ble_eq_true rfl) dX10_init_71 (fun q8 L1 f1 H hw hN => ?_)
  have hN : pw_N h0 10 L f _ _ [.null, .int 0, .ref q1, .ref q2, .ref q3, .ref q4, .ref q5, .ref q6, .ref q7, .int 0, .null, .null, .null, .null, .null, .null, .int 0, .int 0, .int 0] [(q1, .inl (cy 1, 300, .inl (fun _ => 0))), (q2, .inl (cy 2, 300, .inr (.inl (fun _ => 0)))), (q3, .inl (cy 1, 300, .inl (fun _ => 0))), (q4, .inl (cy 2, 300, .inr (.inl (fun _ => 0)))), (q5, .inl (cy 1, 240, .inl (fun _ => 0))), (q6, .inl (cy 1, 300, .inl (fun _ => 0))), (q7, .inl (cy 1, 300, .inl (fun _ => 0))), (q8, .inl (cy 2, 300, .inr (.inl (fun _ => 0))))] := hN
  refine pw_cputF (ci := 10) (v := .ref q8) (C := RX10) (T := TX10) (N := 19) hx hb hts hi10 tyX10 tyX10_ok nmX10 hown hG hw hN rfl 10 (by decide) (hts (.fieldLink RX10 34 "TongueHouse$Thought" "openName" "[J") (by decide +kernel)) (fun _ h9 => h9) rfl hin rfl rfl rfl (Nat.le_of_ble_eq_true rfl) dX10_init_73 (fun f1 H locs hw hN => ?_)
  have hN : pw_N h0 10 L f _ _ [.null, .int 0, .ref q1, .ref q2, .ref q3, .ref q4, .ref q5, .ref q6, .ref q7, .int 0, .ref q8, .null, .null, .null, .null, .null, .int 0, .int 0, .int 0] [(q1, .inl (cy 1, 300, .inl (fun _ => 0))), (q2, .inl (cy 2, 300, .inr (.inl (fun _ => 0)))), (q3, .inl (cy 1, 300, .inl (fun _ => 0))), (q4, .inl (cy 2, 300, .inr (.inl (fun _ => 0)))), (q5, .inl (cy 1, 240, .inl (fun _ => 0))), (q6, .inl (cy 1, 300, .inl (fun _ => 0))), (q7, .inl (cy 1, 300, .inl (fun _ => 0))), (q8, .inl (cy 2, 300, .inr (.inl (fun _ => 0))))] := hN
  refine lv_aload_n hx hb dX10_init_76 rfl (lv_at hl 0 rfl) ?_
  refine lv_sipush (v := 300) hx hb dX10_init_77 (by decide) ?_
  refine pw_cnewa (atype := .int) (t0 := 1) (cA := cy 1) (ty := .int) (N' := 300) (a0 := (300, .inl (fun _ => 0))) hx hb (hts (.arrayClass .int) (by decide +kernel)) rfl hG rfl (fun _ h => h) hw hN (fun _ => rfl) (by decide) (by decide) (Nat.le_of_ble_eq_true rfl) (Nat.le_of_ble_eq_true rfl) (Nat.le_of_ble_eq_true rfl) dX10_init_80 (fun q9 L1 f1 H hw hN => ?_)
  have hN : pw_N h0 10 L f _ _ [.null, .int 0, .ref q1, .ref q2, .ref q3, .ref q4, .ref q5, .ref q6, .ref q7, .int 0, .ref q8, .null, .null, .null, .null, .null, .int 0, .int 0, .int 0] [(q1, .inl (cy 1, 300, .inl (fun _ => 0))), (q2, .inl (cy 2, 300, .inr (.inl (fun _ => 0)))), (q3, .inl (cy 1, 300, .inl (fun _ => 0))), (q4, .inl (cy 2, 300, .inr (.inl (fun _ => 0)))), (q5, .inl (cy 1, 240, .inl (fun _ => 0))), (q6, .inl (cy 1, 300, .inl (fun _ => 0))), (q7, .inl (cy 1, 300, .inl (fun _ => 0))), (q8, .inl (cy 2, 300, .inr (.inl (fun _ => 0)))), (q9, .inl (cy 1, 300, .inl (fun _ => 0)))] := hN
  refine pw_cputF (ci := 10) (v := .ref q9) (C := RX10) (T := TX10) (N := 19) hx hb hts hi10 tyX10 tyX10_ok nmX10 hown hG hw hN rfl 11 (by decide) (hts (.fieldLink RX10 37 "TongueHouse$Thought" "openPart" "[I") (by decide +kernel)) (fun _ h9 => h9) rfl hin rfl rfl rfl (Nat.le_of_ble_eq_true rfl) dX10_init_82 (fun f1 H locs hw hN => ?_)
  have hN : pw_N h0 10 L f _ _ [.null, .int 0, .ref q1, .ref q2, .ref q3, .ref q4, .ref q5, .ref q6, .ref q7, .int 0, .ref q8, .ref q9, .null, .null, .null, .null, .int 0, .int 0, .int 0] [(q1, .inl (cy 1, 300, .inl (fun _ => 0))), (q2, .inl (cy 2, 300, .inr (.inl (fun _ => 0)))), (q3, .inl (cy 1, 300, .inl (fun _ => 0))), (q4, .inl (cy 2, 300, .inr (.inl (fun _ => 0)))), (q5, .inl (cy 1, 240, .inl (fun _ => 0))), (q6, .inl (cy 1, 300, .inl (fun _ => 0))), (q7, .inl (cy 1, 300, .inl (fun _ => 0))), (q8, .inl (cy 2, 300, .inr (.inl (fun _ => 0)))), (q9, .inl (cy 1, 300, .inl (fun _ => 0)))] := hN
  refine lv_aload_n hx hb dX10_init_85 rfl (lv_at hl 0 rfl) ?_
  refine lv_sipush (v := 300) hx hb dX10_init_86 (by decide) ?_
  refine pw_cnewa (atype := .int) (t0 := 1) (cA := cy 1) (ty := .int) (N' := 300) (a0 := (300, .inl (fun _ => 0))) hx hb (hts (.arrayClass .int) (by decide +kernel)) rfl hG rfl (fun _ h => h) hw hN (fun _ => rfl) (by decide) (by decide) (Nat.le_of_ble_eq_true rfl) (Nat.le_of_ble_eq_true rfl) (Nat.le_of_ble_eq_true rfl) dX10_init_89 (fun q10 L1 f1 H hw hN => ?_)
  have hN : pw_N h0 10 L f _ _ [.null, .int 0, .ref q1, .ref q2, .ref q3, .ref q4, .ref q5, .ref q6, .ref q7, .int 0, .ref q8, .ref q9, .null, .null, .null, .null, .int 0, .int 0, .int 0] [(q1, .inl (cy 1, 300, .inl (fun _ => 0))), (q2, .inl (cy 2, 300, .inr (.inl (fun _ => 0)))), (q3, .inl (cy 1, 300, .inl (fun _ => 0))), (q4, .inl (cy 2, 300, .inr (.inl (fun _ => 0)))), (q5, .inl (cy 1, 240, .inl (fun _ => 0))), (q6, .inl (cy 1, 300, .inl (fun _ => 0))), (q7, .inl (cy 1, 300, .inl (fun _ => 0))), (q8, .inl (cy 2, 300, .inr (.inl (fun _ => 0)))), (q9, .inl (cy 1, 300, .inl (fun _ => 0))), (q10, .inl (cy 1, 300, .inl (fun _ => 0)))] := hN
  refine pw_cputF (ci := 10) (v := .ref q10) (C := RX10) (T := TX10) (N := 19) hx hb hts hi10 tyX10 tyX10_ok nmX10 hown hG hw hN rfl 12 (by decide) (hts (.fieldLink RX10 40 "TongueHouse$Thought" "openSeen" "[I") (by decide +kernel)) (fun _ h9 => h9) rfl hin rfl rfl rfl (Nat.le_of_ble_eq_true rfl) dX10_init_91 (fun f1 H locs hw hN => ?_)
  have hN : pw_N h0 10 L f _ _ [.null, .int 0, .ref q1, .ref q2, .ref q3, .ref q4, .ref q5, .ref q6, .ref q7, .int 0, .ref q8, .ref q9, .ref q10, .null, .null, .null, .int 0, .int 0, .int 0] [(q1, .inl (cy 1, 300, .inl (fun _ => 0))), (q2, .inl (cy 2, 300, .inr (.inl (fun _ => 0)))), (q3, .inl (cy 1, 300, .inl (fun _ => 0))), (q4, .inl (cy 2, 300, .inr (.inl (fun _ => 0)))), (q5, .inl (cy 1, 240, .inl (fun _ => 0))), (q6, .inl (cy 1, 300, .inl (fun _ => 0))), (q7, .inl (cy 1, 300, .inl (fun _ => 0))), (q8, .inl (cy 2, 300, .inr (.inl (fun _ => 0)))), (q9, .inl (cy 1, 300, .inl (fun _ => 0))), (q10, .inl (cy 1, 300, .inl (fun _ => 0)))] := hN
  refine lv_aload_n hx hb dX10_init_94 rfl (lv_at hl 0 rfl) ?_
  refine lv_sipush (v := 300) hx hb dX10_init_95 (by decide) ?_
  refine pw_cnewa (atype := .int) (t0 := 1) (cA := cy 1) (ty := .int) (N' := 300) (a0 := (300, .inl (fun _ => 0))) hx hb (hts (.arrayClass .int) (by decide +kernel)) rfl hG rfl (fun _ h => h) hw hN (fun _ => rfl) (by decide) (by decide) (Nat.le_of_ble_eq_true rfl) (Nat.le_of_ble_eq_true rfl) (Nat.le_of_ble_eq_true rfl) dX10_init_98 (fun q11 L1 f1 H hw hN => ?_)
  have hN : pw_N h0 10 L f _ _ [.null, .int 0, .ref q1, .ref q2, .ref q3, .ref q4, .ref q5, .ref q6, .ref q7, .int 0, .ref q8, .ref q9, .ref q10, .null, .null, .null, .int 0, .int 0, .int 0] [(q1, .inl (cy 1, 300, .inl (fun _ => 0))), (q2, .inl (cy 2, 300, .inr (.inl (fun _ => 0)))), (q3, .inl (cy 1, 300, .inl (fun _ => 0))), (q4, .inl (cy 2, 300, .inr (.inl (fun _ => 0)))), (q5, .inl (cy 1, 240, .inl (fun _ => 0))), (q6, .inl (cy 1, 300, .inl (fun _ => 0))), (q7, .inl (cy 1, 300, .inl (fun _ => 0))), (q8, .inl (cy 2, 300, .inr (.inl (fun _ => 0)))), (q9, .inl (cy 1, 300, .inl (fun _ => 0))), (q10, .inl (cy 1, 300, .inl (fun _ => 0))), (q11, .inl (cy 1, 300, .inl (fun _ => 0)))] := hN
  refine pw_cputF (ci := 10) (v := .ref q11) (C := RX10) (T := TX10) (N := 19) hx hb hts hi10 tyX10 tyX10_ok nmX10 hown hG hw hN rfl 13 (by decide) (hts (.fieldLink RX10 43 "TongueHouse$Thought" "openValue" "[I") (by decide +kernel)) (fun _ h9 => h9) rfl hin rfl rfl rfl (Nat.le_of_ble_eq_true rfl) dX10_init_100 (fun f1 H locs hw hN => ?_)
  have hN : pw_N h0 10 L f _ _ [.null, .int 0, .ref q1, .ref q2, .ref q3, .ref q4, .ref q5, .ref q6, .ref q7, .int 0, .ref q8, .ref q9, .ref q10, .ref q11, .null, .null, .int 0, .int 0, .int 0] [(q1, .inl (cy 1, 300, .inl (fun _ => 0))), (q2, .inl (cy 2, 300, .inr (.inl (fun _ => 0)))), (q3, .inl (cy 1, 300, .inl (fun _ => 0))), (q4, .inl (cy 2, 300, .inr (.inl (fun _ => 0)))), (q5, .inl (cy 1, 240, .inl (fun _ => 0))), (q6, .inl (cy 1, 300, .inl (fun _ => 0))), (q7, .inl (cy 1, 300, .inl (fun _ => 0))), (q8, .inl (cy 2, 300, .inr (.inl (fun _ => 0)))), (q9, .inl (cy 1, 300, .inl (fun _ => 0))), (q10, .inl (cy 1, 300, .inl (fun _ => 0))), (q11, .inl (cy 1, 300, .inl (fun _ => 0)))] := hN
  refine lv_aload_n hx hb dX10_init_103 rfl (lv_at hl 0 rfl) ?_
  refine lv_sipush (v := 300) hx hb dX10_init_104 (by decide) ?_
  refine pw_cnewa (atype := .int) (t0 := 1) (cA := cy 1) (ty := .int) (N' := 300) (a0 := (300, .inl (fun _ => 0))) hx hb (hts (.arrayClass .int) (by decide +kernel)) rfl hG rfl (fun _ h => h) hw hN (fun _ => rfl) (by decide) (by decide) (Nat.le_of_ble_eq_true rfl) (Nat.le_of_ble_eq_true rfl) (Nat.le_of_ble_eq_true rfl) dX10_init_107 (fun q12 L1 f1 H hw hN => ?_)
  have hN : pw_N h0 10 L f _ _ [.null, .int 0, .ref q1, .ref q2, .ref q3, .ref q4, .ref q5, .ref q6, .ref q7, .int 0, .ref q8, .ref q9, .ref q10, .ref q11, .null, .null, .int 0, .int 0, .int 0] [(q1, .inl (cy 1, 300, .inl (fun _ => 0))), (q2, .inl (cy 2, 300, .inr (.inl (fun _ => 0)))), (q3, .inl (cy 1, 300, .inl (fun _ => 0))), (q4, .inl (cy 2, 300, .inr (.inl (fun _ => 0)))), (q5, .inl (cy 1, 240, .inl (fun _ => 0))), (q6, .inl (cy 1, 300, .inl (fun _ => 0))), (q7, .inl (cy 1, 300, .inl (fun _ => 0))), (q8, .inl (cy 2, 300, .inr (.inl (fun _ => 0)))), (q9, .inl (cy 1, 300, .inl (fun _ => 0))), (q10, .inl (cy 1, 300, .inl (fun _ => 0))), (q11, .inl (cy 1, 300, .inl (fun _ => 0))), (q12, .inl (cy 1, 300, .inl (fun _ => 0)))] := hN
  refine pw_cputF (ci := 10) (v := .ref q12) (C := RX10) (T := TX10) (N := 19) hx hb hts hi10 tyX10 tyX10_ok nmX10 hown hG hw hN rfl 14 (by decide) (hts (.fieldLink RX10 46 "TongueHouse$Thought" "openLevel" "[I") (by decide +kernel)) (fun _ h9 => h9) rfl hin rfl rfl rfl (Nat.le_of_ble_eq_true rfl) dX10_init_109 (fun f1 H locs hw hN => ?_)
  have hN : pw_N h0 10 L f _ _ [.null, .int 0, .ref q1, .ref q2, .ref q3, .ref q4, .ref q5, .ref q6, .ref q7, .int 0, .ref q8, .ref q9, .ref q10, .ref q11, .ref q12, .null, .int 0, .int 0, .int 0] [(q1, .inl (cy 1, 300, .inl (fun _ => 0))), (q2, .inl (cy 2, 300, .inr (.inl (fun _ => 0)))), (q3, .inl (cy 1, 300, .inl (fun _ => 0))), (q4, .inl (cy 2, 300, .inr (.inl (fun _ => 0)))), (q5, .inl (cy 1, 240, .inl (fun _ => 0))), (q6, .inl (cy 1, 300, .inl (fun _ => 0))), (q7, .inl (cy 1, 300, .inl (fun _ => 0))), (q8, .inl (cy 2, 300, .inr (.inl (fun _ => 0)))), (q9, .inl (cy 1, 300, .inl (fun _ => 0))), (q10, .inl (cy 1, 300, .inl (fun _ => 0))), (q11, .inl (cy 1, 300, .inl (fun _ => 0))), (q12, .inl (cy 1, 300, .inl (fun _ => 0)))] := hN
  refine lv_aload_n hx hb dX10_init_112 rfl (lv_at hl 0 rfl) ?_
  refine lv_sipush (v := 301) hx hb dX10_init_113 (by decide) ?_
  refine pw_cnewa (atype := .int) (t0 := 1) (cA := cy 1) (ty := .int) (N' := 301) (a0 := (301, .inl (fun _ => 0))) hx hb (hts (.arrayClass .int) (by decide +kernel)) rfl hG rfl (fun _ h => h) hw hN (fun _ => rfl) (by decide) (by decide) (Nat.le_of_ble_eq_true rfl) (Nat.le_of_ble_eq_true rfl) (Nat.le_of_ble_eq_true rfl) dX10_init_116 (fun q13 L1 f1 H hw hN => ?_)
  have hN : pw_N h0 10 L f _ _ [.null, .int 0, .ref q1, .ref q2, .ref q3, .ref q4, .ref q5, .ref q6, .ref q7, .int 0, .ref q8, .ref q9, .ref q10, .ref q11, .ref q12, .null, .int 0, .int 0, .int 0] [(q1, .inl (cy 1, 300, .inl (fun _ => 0))), (q2, .inl (cy 2, 300, .inr (.inl (fun _ => 0)))), (q3, .inl (cy 1, 300, .inl (fun _ => 0))), (q4, .inl (cy 2, 300, .inr (.inl (fun _ => 0)))), (q5, .inl (cy 1, 240, .inl (fun _ => 0))), (q6, .inl (cy 1, 300, .inl (fun _ => 0))), (q7, .inl (cy 1, 300, .inl (fun _ => 0))), (q8, .inl (cy 2, 300, .inr (.inl (fun _ => 0)))), (q9, .inl (cy 1, 300, .inl (fun _ => 0))), (q10, .inl (cy 1, 300, .inl (fun _ => 0))), (q11, .inl (cy 1, 300, .inl (fun _ => 0))), (q12, .inl (cy 1, 300, .inl (fun _ => 0))), (q13, .inl (cy 1, 301, .inl (fun _ => 0)))] := hN
  refine pw_cputF (ci := 10) (v := .ref q13) (C := RX10) (T := TX10) (N := 19) hx hb hts hi10 tyX10 tyX10_ok nmX10 hown hG hw hN rfl 15 (by decide) (hts (.fieldLink RX10 49 "TongueHouse$Thought" "thing" "[I") (by decide +kernel)) (fun _ h9 => h9) rfl hin rfl rfl rfl (Nat.le_of_ble_eq_true rfl) dX10_init_118 (fun f1 H locs hw hN => ?_)
  have hN : pw_N h0 10 L f _ _ [.null, .int 0, .ref q1, .ref q2, .ref q3, .ref q4, .ref q5, .ref q6, .ref q7, .int 0, .ref q8, .ref q9, .ref q10, .ref q11, .ref q12, .ref q13, .int 0, .int 0, .int 0] [(q1, .inl (cy 1, 300, .inl (fun _ => 0))), (q2, .inl (cy 2, 300, .inr (.inl (fun _ => 0)))), (q3, .inl (cy 1, 300, .inl (fun _ => 0))), (q4, .inl (cy 2, 300, .inr (.inl (fun _ => 0)))), (q5, .inl (cy 1, 240, .inl (fun _ => 0))), (q6, .inl (cy 1, 300, .inl (fun _ => 0))), (q7, .inl (cy 1, 300, .inl (fun _ => 0))), (q8, .inl (cy 2, 300, .inr (.inl (fun _ => 0)))), (q9, .inl (cy 1, 300, .inl (fun _ => 0))), (q10, .inl (cy 1, 300, .inl (fun _ => 0))), (q11, .inl (cy 1, 300, .inl (fun _ => 0))), (q12, .inl (cy 1, 300, .inl (fun _ => 0))), (q13, .inl (cy 1, 301, .inl (fun _ => 0)))] := hN
  refine lv_aload_n hx hb dX10_init_121 rfl (lv_at hl 0 rfl) ?_
  refine lv_aload_n hx hb dX10_init_122 rfl (lv_at hl 1 rfl) ?_
  refine pw_cputF (ci := 10) (v := .ref p1) (C := RX10) (T := TX10) (N := 19) hx hb hts hi10 tyX10 tyX10_ok nmX10 hown hG hw hN rfl 0 (by decide) (hts (.fieldLink RX10 52 "TongueHouse$Thought" "store" "LTongueHouse$Store;") (by decide +kernel)) (fun _ h9 => h9) rfl hin rfl rfl rfl (Nat.le_of_ble_eq_true rfl) dX10_init_123 (fun f1 H locs hw hN => ?_)
  have hN : pw_N h0 10 L f _ _ [.ref p1, .int 0, .ref q1, .ref q2, .ref q3, .ref q4, .ref q5, .ref q6, .ref q7, .int 0, .ref q8, .ref q9, .ref q10, .ref q11, .ref q12, .ref q13, .int 0, .int 0, .int 0] [(q1, .inl (cy 1, 300, .inl (fun _ => 0))), (q2, .inl (cy 2, 300, .inr (.inl (fun _ => 0)))), (q3, .inl (cy 1, 300, .inl (fun _ => 0))), (q4, .inl (cy 2, 300, .inr (.inl (fun _ => 0)))), (q5, .inl (cy 1, 240, .inl (fun _ => 0))), (q6, .inl (cy 1, 300, .inl (fun _ => 0))), (q7, .inl (cy 1, 300, .inl (fun _ => 0))), (q8, .inl (cy 2, 300, .inr (.inl (fun _ => 0)))), (q9, .inl (cy 1, 300, .inl (fun _ => 0))), (q10, .inl (cy 1, 300, .inl (fun _ => 0))), (q11, .inl (cy 1, 300, .inl (fun _ => 0))), (q12, .inl (cy 1, 300, .inl (fun _ => 0))), (q13, .inl (cy 1, 301, .inl (fun _ => 0)))] := hN
  refine W.widen (k := 13) (n := 3841) (Nat.le_of_ble_eq_true rfl) (Nat.le_of_ble_eq_true rfl) ?_
  exact pw_vret hx hb hr hlocks hsz hw ⟨q1, q2, q3, q4, q5, q6, q7, q8, q9, q10, q11, q12, q13, hN⟩ dX10_init_126
end
section
theorem bl_X8 : ∀ j, j < 21 → defaultValue (tyX8 j) = vp_V [.null, .null, .null, .null, .null, .int 0, .null, .null, .null, .null, .null, .null, .null, .int 0, .null, .null, .null, .int 0, .int 0, .null, .null] j := by decide +kernel
set_option maxHeartbeats 4000000 in
set_option maxRecDepth 100000 in
/-- TongueHouse$Store(..): 21 cells come -/
theorem c_X8_init (l : Launch) (D : va_G) (cy : Nat → ClassId) (h0 sz : Nat) (L : List Nat) (f : Nat → va_E) (ha : h0 ∈ L) (he : f h0 = .inr (8, [.null, .null, .null, .null, .null, .int 0, .null, .null, .null, .null, .null, .null, .null, .int 0, .null, .null, .null, .int 0, .int 0, .null, .null])) : Met l yX8_init wsX8_init ({ frames := 2, cells := 21, slots := 21019, locals := 33 }) (pw_Pc D cy [.ref h0] sz L f) (va_Qv (fun u : List Nat × (Nat → va_E) => ∃ q1 q2 q3 q4 q5 q6 q7 q8 q9 q10 q11 q12 q13 q14 q15 q16 q17 q18 q19 q20 q21 : Nat, pw_N h0 8 L f u.1 u.2 [.ref q1, .ref q3, .ref q5, .ref q7, .ref q9, .int (-1), .ref q10, .ref q11, .ref q12, .ref q13, .ref q14, .ref q15, .ref q16, .int 0, .ref q17, .ref q18, .ref q19, .int 0, .int 0, .ref q20, .ref q21] [(q1, .inr (4, [.ref q2, .int 0])), (q2, .inl (cy 2, 32, .inr (.inl (fun _ => 0)))), (q3, .inr (4, [.ref q4, .int 0])), (q4, .inl (cy 2, 96, .inr (.inl (fun _ => 0)))), (q5, .inr (4, [.ref q6, .int 0])), (q6, .inl (cy 2, 8, .inr (.inl (fun _ => 0)))), (q7, .inr (4, [.ref q8, .int 0])), (q8, .inl (cy 2, 8, .inr (.inl (fun _ => 0)))), (q9, .inl (cy 5, 8, .inr (.inr (.inr (.inr (fun _ => none)))))), (q10, .inl (cy 1, 96, .inl (fun _ => 0))), (q11, .inl (cy 1, 96, .inl (fun _ => 0))), (q12, .inl (cy 1, 384, .inl (fun _ => 0))), (q13, .inl (cy 1, 96, .inl (fun _ => 0))), (q14, .inl (cy 1, 96, .inl (fun _ => 0))), (q15, .inl (cy 1, 3840, .inl (fun _ => 0))), (q16, .inl (cy 2, 3840, .inr (.inl (fun _ => 0)))), (q17, .inl (cy 2, 64, .inr (.inl (fun _ => 0)))), (q18, .inl (cy 1, 128, .inl (fun _ => 0))), (q19, .inl (cy 0, 12000, .inl (fun _ => 0))), (q20, .inl (cy 1, 159, .inl (fun _ => 0))), (q21, .inl (cy 1, 60, .inl (fun _ => 0)))]) (pw_B D (pw_A L f sz)) (pw_A L f sz)) 21 (21019) (pw_A L f sz) := by
  refine Met.ofW (cc := cX8_init) (maxL := 1) (ret := none) (by decide) rfl ?_
  intro p e s m args below meth c s₁ B hml hv
  obtain ⟨rfl, hsz, hG, hP, hD0⟩ := hv
  have hx := B.exec
  have hb := B.bytes
  have hr := B.returns
  have hts := atoms_spec (ws := wsX8_init) B.pre
  have hown : s.vm.findClass RX8 = some m.cls := findClass_of_methodNamed B.named
  have hlocks := B.notSynchronized
  have hin : meth.name = "<init>" := (name_of_methodNamed B.named B.method).1
  have hw := pw_start (cy := cy) hsz hP hD0
  have hN := pw_N.rf ha he
  have hl := lv_entry ([.ref h0]) (n := 1) (Nat.le_of_ble_eq_true rfl)
  rw [lg_entry_eq]
  generalize (lg_sl ([.ref h0]) ++ List.replicate (1 - (lg_sl ([.ref h0])).length) Slot.unset).toArray = ls at hl ⊢
  have hl : lv_has ls 1 [(0, .ref h0)] := hl
  have hi4 : ∀ w ∈ u_ws RX4 TX4 2, w ∈ wsX8_init := (fun _ h => List.mem_cons_of_mem _ (List.mem_append_left _ (List.mem_append_right _ h)))
  have hi8 : ∀ w ∈ u_ws RX8 TX8 21, w ∈ wsX8_init := (fun _ h => List.mem_cons_of_mem _ (List.mem_append_right _ h))
  refine lv_aload_n hx hb dX8_init_0 rfl (lv_at hl 0 rfl) ?_
  refine W.objInit hx hb hown (hts (.methodLink RX8 7 objectInit) (by decide +kernel)) (hts (.instanceMethod objectInit) (by decide +kernel)) (hts _ (show Cond.code objectInit ⟨#[0xb1]⟩ 1 none ∈ wsX8_init by decide +kernel)) rfl (by rw [hml]; exact hl.1) rfl dX8_init_1 (Nat.le_of_ble_eq_true rfl) (Nat.le_of_ble_eq_true rfl) ?_
  refine W.eq (g2 := F0 m 4 ls []) rfl ?_
  refine lv_aload_n hx hb dX8_init_4 rfl (lv_at hl 0 rfl) ?_
  refine pw_cnew (cj := 4) (C := RX4) (T := TX4) (N := 2) (gs := [.null, .int 0]) hx hb hts hi4 tyX4 tyX4_ok hown (hts (.classLink RX8 13 RX4) (by decide +kernel)) (hts (.instantiable RX4 2) (by decide +kernel)) (hts (.initialized RX4) (by decide +kernel)) hG hw hN rfl bl_X4 (Nat.le_of_ble_eq_true rfl) (Nat.le_of_ble_eq_true rfl) dX8_init_5 (fun q1 L1 f1 H hw hN hq hqe => ?_)
  refine lv_dup hx hb dX8_init_8 rfl ?_
  refine lv_bipush (v := 32) hx hb dX8_init_9 (by decide) ?_
  refine pw_callv hw (va_runI (As := [.int 32]) (rest := [.ref q1, .ref h0]) ⟨hx, hb, hml, hown, hts⟩ (c_X4_init l D cy q1 H.size _ _ 32 (by decide) 32 (by decide) (Nat.le_of_ble_eq_true rfl) hq hqe) (cwI 1 hts gX8_init_X4_init rfl rfl rfl (hts (.initialized RX4) (by decide +kernel)) (hts (.methodLink RX8 15 yX4_init) (by decide +kernel)) (hts (.instanceMethod yX4_init) (by decide +kernel)) rfl (by decide +kernel) ⟨Nat.le_of_ble_eq_true rfl, Nat.le_of_ble_eq_true rfl⟩) (pw_pre hG hw) rfl rfl hl.1 rfl (lv_room (Nat.le_of_ble_eq_true rfl)) dX8_init_11 ⟨Nat.le_of_ble_eq_true rfl, Nat.le_of_ble_eq_true rfl⟩) (fun L1 f1 H locs hw hS => ?_)
  obtain ⟨q2, h2⟩ := hS
  have hN := hN.call h2 (pw_nd hw)
  have hN : pw_N h0 8 L f _ _ [.null, .null, .null, .null, .null, .int 0, .null, .null, .null, .null, .null, .null, .null, .int 0, .null, .null, .null, .int 0, .int 0, .null, .null] [(q1, .inr (4, [.ref q2, .int 0])), (q2, .inl (cy 2, 32, .inr (.inl (fun _ => 0))))] := hN
  refine pw_cputF (ci := 8) (v := .ref q1) (C := RX8) (T := TX8) (N := 21) hx hb hts hi8 tyX8 tyX8_ok nmX8 hown hG hw hN rfl 0 (by decide) (hts (.fieldLink RX8 18 "TongueHouse$Store" "kinds" "LTongueHouse$Names;") (by decide +kernel)) (fun _ h9 => h9) rfl hin rfl rfl rfl (Nat.le_of_ble_eq_true rfl) dX8_init_14 (fun f1 H locs hw hN => ?_)
  have hN : pw_N h0 8 L f _ _ [.ref q1, .null, .null, .null, .null, .int 0, .null, .null, .null, .null, .null, .null, .null, .int 0, .null, .null, .null, .int 0, .int 0, .null, .null] [(q1, .inr (4, [.ref q2, .int 0])), (q2, .inl (cy 2, 32, .inr (.inl (fun _ => 0))))] := hN
  refine lv_aload_n hx hb dX8_init_17 rfl (lv_at hl 0 rfl) ?_
  refine pw_cnew (cj := 4) (C := RX4) (T := TX4) (N := 2) (gs := [.null, .int 0]) hx hb hts hi4 tyX4 tyX4_ok hown (hts (.classLink RX8 13 RX4) (by decide +kernel)) (hts (.instantiable RX4 2) (by decide +kernel)) (hts (.initialized RX4) (by decide +kernel)) hG hw hN rfl bl_X4 (Nat.le_of_ble_eq_true rfl) (Nat.le_of_ble_eq_true rfl) dX8_init_18 (fun q3 L1 f1 H hw hN hq hqe => ?_)
  refine lv_dup hx hb dX8_init_21 rfl ?_
  refine lv_bipush (v := 96) hx hb dX8_init_22 (by decide) ?_
  refine pw_callv hw (va_runI (As := [.int 96]) (rest := [.ref q3, .ref h0]) ⟨hx, hb, hml, hown, hts⟩ (c_X4_init l D cy q3 H.size _ _ 96 (by decide) 96 (by decide) (Nat.le_of_ble_eq_true rfl) hq hqe) (cwI 1 hts gX8_init_X4_init rfl rfl rfl (hts (.initialized RX4) (by decide +kernel)) (hts (.methodLink RX8 15 yX4_init) (by decide +kernel)) (hts (.instanceMethod yX4_init) (by decide +kernel)) rfl (by decide +kernel) ⟨Nat.le_of_ble_eq_true rfl, Nat.le_of_ble_eq_true rfl⟩) (pw_pre hG hw) rfl rfl hl.1 rfl (lv_room (Nat.le_of_ble_eq_true rfl)) dX8_init_24 ⟨Nat.le_of_ble_eq_true rfl, Nat.le_of_ble_eq_true rfl⟩) (fun L1 f1 H locs hw hS => ?_)
  obtain ⟨q4, h2⟩ := hS
  have hN := hN.call h2 (pw_nd hw)
  have hN : pw_N h0 8 L f _ _ [.ref q1, .null, .null, .null, .null, .int 0, .null, .null, .null, .null, .null, .null, .null, .int 0, .null, .null, .null, .int 0, .int 0, .null, .null] [(q1, .inr (4, [.ref q2, .int 0])), (q2, .inl (cy 2, 32, .inr (.inl (fun _ => 0)))), (q3, .inr (4, [.ref q4, .int 0])), (q4, .inl (cy 2, 96, .inr (.inl (fun _ => 0))))] := hN
  refine pw_cputF (ci := 8) (v := .ref q3) (C := RX8) (T := TX8) (N := 21) hx hb hts hi8 tyX8 tyX8_ok nmX8 hown hG hw hN rfl 1 (by decide) (hts (.fieldLink RX8 22 "TongueHouse$Store" "funs" "LTongueHouse$Names;") (by decide +kernel)) (fun _ h9 => h9) rfl hin rfl rfl rfl (Nat.le_of_ble_eq_true rfl) dX8_init_27 (fun f1 H locs hw hN => ?_)
  have hN : pw_N h0 8 L f _ _ [.ref q1, .ref q3, .null, .null, .null, .int 0, .null, .null, .null, .null, .null, .null, .null, .int 0, .null, .null, .null, .int 0, .int 0, .null, .null] [(q1, .inr (4, [.ref q2, .int 0])), (q2, .inl (cy 2, 32, .inr (.inl (fun _ => 0)))), (q3, .inr (4, [.ref q4, .int 0])), (q4, .inl (cy 2, 96, .inr (.inl (fun _ => 0))))] := hN
  refine lv_aload_n hx hb dX8_init_30 rfl (lv_at hl 0 rfl) ?_
  refine pw_cnew (cj := 4) (C := RX4) (T := TX4) (N := 2) (gs := [.null, .int 0]) hx hb hts hi4 tyX4 tyX4_ok hown (hts (.classLink RX8 13 RX4) (by decide +kernel)) (hts (.instantiable RX4 2) (by decide +kernel)) (hts (.initialized RX4) (by decide +kernel)) hG hw hN rfl bl_X4 (Nat.le_of_ble_eq_true rfl) (Nat.le_of_ble_eq_true rfl) dX8_init_31 (fun q5 L1 f1 H hw hN hq hqe => ?_)
  refine lv_dup hx hb dX8_init_34 rfl ?_
  refine lv_bipush (v := 8) hx hb dX8_init_35 (by decide) ?_
  refine pw_callv hw (va_runI (As := [.int 8]) (rest := [.ref q5, .ref h0]) ⟨hx, hb, hml, hown, hts⟩ (c_X4_init l D cy q5 H.size _ _ 8 (by decide) 8 (by decide) (Nat.le_of_ble_eq_true rfl) hq hqe) (cwI 1 hts gX8_init_X4_init rfl rfl rfl (hts (.initialized RX4) (by decide +kernel)) (hts (.methodLink RX8 15 yX4_init) (by decide +kernel)) (hts (.instanceMethod yX4_init) (by decide +kernel)) rfl (by decide +kernel) ⟨Nat.le_of_ble_eq_true rfl, Nat.le_of_ble_eq_true rfl⟩) (pw_pre hG hw) rfl rfl hl.1 rfl (lv_room (Nat.le_of_ble_eq_true rfl)) dX8_init_37 ⟨Nat.le_of_ble_eq_true rfl, Nat.le_of_ble_eq_true rfl⟩) (fun L1 f1 H locs hw hS => ?_)
  obtain ⟨q6, h2⟩ := hS
  have hN := hN.call h2 (pw_nd hw)
  have hN : pw_N h0 8 L f _ _ [.ref q1, .ref q3, .null, .null, .null, .int 0, .null, .null, .null, .null, .null, .null, .null, .int 0, .null, .null, .null, .int 0, .int 0, .null, .null] [(q1, .inr (4, [.ref q2, .int 0])), (q2, .inl (cy 2, 32, .inr (.inl (fun _ => 0)))), (q3, .inr (4, [.ref q4, .int 0])), (q4, .inl (cy 2, 96, .inr (.inl (fun _ => 0)))), (q5, .inr (4, [.ref q6, .int 0])), (q6, .inl (cy 2, 8, .inr (.inl (fun _ => 0))))] := hN
  refine pw_cputF (ci := 8) (v := .ref q5) (C := RX8) (T := TX8) (N := 21) hx hb hts hi8 tyX8 tyX8_ok nmX8 hown hG hw hN rfl 2 (by decide) (hts (.fieldLink RX8 25 "TongueHouse$Store" "things" "LTongueHouse$Names;") (by decide +kernel)) (fun _ h9 => h9) rfl hin rfl rfl rfl (Nat.le_of_ble_eq_true rfl) dX8_init_40 (fun f1 H locs hw hN => ?_)
  have hN : pw_N h0 8 L f _ _ [.ref q1, .ref q3, .ref q5, .null, .null, .int 0, .null, .null, .null, .null, .null, .null, .null, .int 0, .null, .null, .null, .int 0, .int 0, .null, .null] [(q1, .inr (4, [.ref q2, .int 0])), (q2, .inl (cy 2, 32, .inr (.inl (fun _ => 0)))), (q3, .inr (4, [.ref q4, .int 0])), (q4, .inl (cy 2, 96, .inr (.inl (fun _ => 0)))), (q5, .inr (4, [.ref q6, .int 0])), (q6, .inl (cy 2, 8, .inr (.inl (fun _ => 0))))] := hN
  refine lv_aload_n hx hb dX8_init_43 rfl (lv_at hl 0 rfl) ?_
  refine pw_cnew (cj := 4) (C := RX4) (T := TX4) (N := 2) (gs := [.null, .int 0]) hx hb hts hi4 tyX4 tyX4_ok hown (hts (.classLink RX8 13 RX4) (by decide +kernel)) (hts (.instantiable RX4 2) (by decide +kernel)) (hts (.initialized RX4) (by decide +kernel)) hG hw hN rfl bl_X4 (Nat.le_of_ble_eq_true rfl) (Nat.le_of_ble_eq_true rfl) dX8_init_44 (fun q7 L1 f1 H hw hN hq hqe => ?_)
  refine lv_dup hx hb dX8_init_47 rfl ?_
  refine lv_bipush (v := 8) hx hb dX8_init_48 (by decide) ?_
  refine pw_callv hw (va_runI (As := [.int 8]) (rest := [.ref q7, .ref h0]) ⟨hx, hb, hml, hown, hts⟩ (c_X4_init l D cy q7 H.size _ _ 8 (by decide) 8 (by decide) (Nat.le_of_ble_eq_true rfl) hq hqe) (cwI 1 hts gX8_init_X4_init rfl rfl rfl (hts (.initialized RX4) (by decide +kernel)) (hts (.methodLink RX8 15 yX4_init) (by decide +kernel)) (hts (.instanceMethod yX4_init) (by decide +kernel)) rfl (by decide +kernel) ⟨Nat.le_of_ble_eq_true rfl, Nat.le_of_ble_eq_true rfl⟩) (pw_pre hG hw) rfl rfl hl.1 rfl (lv_room (Nat.le_of_ble_eq_true rfl)) dX8_init_50 ⟨Nat.le_of_ble_eq_true rfl, Nat.le_of_ble_eq_true rfl⟩) (fun L1 f1 H locs hw hS => ?_)
  obtain ⟨q8, h2⟩ := hS
  have hN := hN.call h2 (pw_nd hw)
  have hN : pw_N h0 8 L f _ _ [.ref q1, .ref q3, .ref q5, .null, .null, .int 0, .null, .null, .null, .null, .null, .null, .null, .int 0, .null, .null, .null, .int 0, .int 0, .null, .null] [(q1, .inr (4, [.ref q2, .int 0])), (q2, .inl (cy 2, 32, .inr (.inl (fun _ => 0)))), (q3, .inr (4, [.ref q4, .int 0])), (q4, .inl (cy 2, 96, .inr (.inl (fun _ => 0)))), (q5, .inr (4, [.ref q6, .int 0])), (q6, .inl (cy 2, 8, .inr (.inl (fun _ => 0)))), (q7, .inr (4, [.ref q8, .int 0])), (q8, .inl (cy 2, 8, .inr (.inl (fun _ => 0))))] := hN
  refine pw_cputF (ci := 8) (v := .ref q7) (C := RX8) (T := TX8) (N := 21) hx hb hts hi8 tyX8 tyX8_ok nmX8 hown hG hw hN rfl 3 (by decide) (hts (.fieldLink RX8 28 "TongueHouse$Store" "tongueNames" "LTongueHouse$Names;") (by decide +kernel)) (fun _ h9 => h9) rfl hin rfl rfl rfl (Nat.le_of_ble_eq_true rfl) dX8_init_53 (fun f1 H locs hw hN => ?_)
  have hN : pw_N h0 8 L f _ _ [.ref q1, .ref q3, .ref q5, .ref q7, .null, .int 0, .null, .null, .null, .null, .null, .null, .null, .int 0, .null, .null, .null, .int 0, .int 0, .null, .null] [(q1, .inr (4, [.ref q2, .int 0])), (q2, .inl (cy 2, 32, .inr (.inl (fun _ => 0)))), (q3, .inr (4, [.ref q4, .int 0])), (q4, .inl (cy 2, 96, .inr (.inl (fun _ => 0)))), (q5, .inr (4, [.ref q6, .int 0])), (q6, .inl (cy 2, 8, .inr (.inl (fun _ => 0)))), (q7, .inr (4, [.ref q8, .int 0])), (q8, .inl (cy 2, 8, .inr (.inl (fun _ => 0))))] := hN
  refine lv_aload_n hx hb dX8_init_56 rfl (lv_at hl 0 rfl) ?_
  refine lv_bipush (v := 8) hx hb dX8_init_57 (by decide) ?_
  refine pw_cnewq (t0 := 5) (cA := cy 5) (C := RX11) (N' := 8) hx hb hown (hts (.classLink RX8 3 RX11) (by decide +kernel)) hG.2.2.2.1 hG rfl hw hN (by decide) (by decide) (Nat.le_of_ble_eq_true rfl) (Nat.le_of_ble_eq_true rfl) (Nat.le_of_ble_eq_true rfl) dX8_init_59 (fun q9 L1 f1 H hw hN => ?_)
  have hN : pw_N h0 8 L f _ _ [.ref q1, .ref q3, .ref q5, .ref q7, .null, .int 0, .null, .null, .null, .null, .null, .null, .null, .int 0, .null, .null, .null, .int 0, .int 0, .null, .null] [(q1, .inr (4, [.ref q2, .int 0])), (q2, .inl (cy 2, 32, .inr (.inl (fun _ => 0)))), (q3, .inr (4, [.ref q4, .int 0])), (q4, .inl (cy 2, 96, .inr (.inl (fun _ => 0)))), (q5, .inr (4, [.ref q6, .int 0])), (q6, .inl (cy 2, 8, .inr (.inl (fun _ => 0)))), (q7, .inr (4, [.ref q8, .int 0])), (q8, .inl (cy 2, 8, .inr (.inl (fun _ => 0)))), (q9, .inl (cy 5, 8, .inr (.inr (.inr (.inr (fun _ => none))))))] := hN
  refine pw_cputF (ci := 8) (v := .ref q9) (C := RX8) (T := TX8) (N := 21) hx hb hts hi8 tyX8 tyX8_ok nmX8 hown hG hw hN rfl 4 (by decide) (hts (.fieldLink RX8 31 "TongueHouse$Store" "tongues" "[LTongueHouse$Tongue;") (by decide +kernel)) (fun _ h9 => h9) rfl hin rfl rfl rfl (Nat.le_of_ble_eq_true rfl) dX8_init_62 (fun f1 H locs hw hN => ?_)
  have hN : pw_N h0 8 L f _ _ [.ref q1, .ref q3, .ref q5, .ref q7, .ref q9, .int 0, .null, .null, .null, .null, .null, .null, .null, .int 0, .null, .null, .null, .int 0, .int 0, .null, .null] [(q1, .inr (4, [.ref q2, .int 0])), (q2, .inl (cy 2, 32, .inr (.inl (fun _ => 0)))), (q3, .inr (4, [.ref q4, .int 0])), (q4, .inl (cy 2, 96, .inr (.inl (fun _ => 0)))), (q5, .inr (4, [.ref q6, .int 0])), (q6, .inl (cy 2, 8, .inr (.inl (fun _ => 0)))), (q7, .inr (4, [.ref q8, .int 0])), (q8, .inl (cy 2, 8, .inr (.inl (fun _ => 0)))), (q9, .inl (cy 5, 8, .inr (.inr (.inr (.inr (fun _ => none))))))] := hN
  refine lv_aload_n hx hb dX8_init_65 rfl (lv_at hl 0 rfl) ?_
  refine lv_iconst (v := -1) hx hb dX8_init_66 (by decide) ?_
  refine pw_cput (ci := 8) (v := .int (-1)) (C := RX8) (T := TX8) (N := 21) hx hb hts hi8 tyX8 tyX8_ok nmX8 hown hG hw hN rfl 5 (by decide) (hts (.fieldLink RX8 35 "TongueHouse$Store" "current" "I") (by decide +kernel)) (fun _ h9 => h9) rfl rfl rfl (Nat.le_of_ble_eq_true rfl) dX8_init_67 (fun f1 H locs hw hN => ?_)
  have hN : pw_N h0 8 L f _ _ [.ref q1, .ref q3, .ref q5, .ref q7, .ref q9, .int (-1), .null, .null, .null, .null, .null, .null, .null, .int 0, .null, .null, .null, .int 0, .int 0, .null, .null] [(q1, .inr (4, [.ref q2, .int 0])), (q2, .inl (cy 2, 32, .inr (.inl (fun _ => 0)))), (q3, .inr (4, [.ref q4, .int 0])), (q4, .inl (cy 2, 96, .inr (.inl (fun _ => 0)))), (q5, .inr (4, [.ref q6, .int 0])), (q6, .inl (cy 2, 8, .inr (.inl (fun _ => 0)))), (q7, .inr (4, [.ref q8, .int 0])), (q8, .inl (cy 2, 8, .inr (.inl (fun _ => 0)))), (q9, .inl (cy 5, 8, .inr (.inr (.inr (.inr (fun _ => none))))))] := hN
  refine lv_aload_n hx hb dX8_init_70 rfl (lv_at hl 0 rfl) ?_
  refine lv_bipush (v := 96) hx hb dX8_init_71 (by decide) ?_
  refine pw_cnewa (atype := .int) (t0 := 1) (cA := cy 1) (ty := .int) (N' := 96) (a0 := (96, .inl (fun _ => 0))) hx hb (hts (.arrayClass .int) (by decide +kernel)) rfl hG rfl (fun _ h => h) hw hN (fun _ => rfl) (by decide) (by decide) (Nat.le_of_ble_eq_true rfl) (Nat.le_of_ble_eq_true rfl) (Nat.le_of_ble_eq_true rfl) dX8_init_73 (fun q10 L1 f1 H hw hN => ?_)
  have hN : pw_N h0 8 L f _ _ [.ref q1, .ref q3, .ref q5, .ref q7, .ref q9, .int (-1), .null, .null, .null, .null, .null, .null, .null, .int 0, .null, .null, .null, .int 0, .int 0, .null, .null] [(q1, .inr (4, [.ref q2, .int 0])), (q2, .inl (cy 2, 32, .inr (.inl (fun _ => 0)))), (q3, .inr (4, [.ref q4, .int 0])), (q4, .inl (cy 2, 96, .inr (.inl (fun _ => 0)))), (q5, .inr (4, [.ref q6, .int 0])), (q6, .inl (cy 2, 8, .inr (.inl (fun _ => 0)))), (q7, .inr (4, [.ref q8, .int 0])), (q8, .inl (cy 2, 8, .inr (.inl (fun _ => 0)))), (q9, .inl (cy 5, 8, .inr (.inr (.inr (.inr (fun _ => none)))))), (q10, .inl (cy 1, 96, .inl (fun _ => 0)))] := hN
  refine pw_cputF (ci := 8) (v := .ref q10) (C := RX8) (T := TX8) (N := 21) hx hb hts hi8 tyX8 tyX8_ok nmX8 hown hG hw hN rfl 6 (by decide) (hts (.fieldLink RX8 39 "TongueHouse$Store" "funKind" "[I") (by decide +kernel)) (fun _ h9 => h9) rfl hin rfl rfl rfl (Nat.le_of_ble_eq_true rfl) dX8_init_75 (fun f1 H locs hw hN => ?_)
  have hN : pw_N h0 8 L f _ _ [.ref q1, .ref q3, .ref q5, .ref q7, .ref q9, .int (-1), .ref q10, .null, .null, .null, .null, .null, .null, .int 0, .null, .null, .null, .int 0, .int 0, .null, .null] [(q1, .inr (4, [.ref q2, .int 0])), (q2, .inl (cy 2, 32, .inr (.inl (fun _ => 0)))), (q3, .inr (4, [.ref q4, .int 0])), (q4, .inl (cy 2, 96, .inr (.inl (fun _ => 0)))), (q5, .inr (4, [.ref q6, .int 0])), (q6, .inl (cy 2, 8, .inr (.inl (fun _ => 0)))), (q7, .inr (4, [.ref q8, .int 0])), (q8, .inl (cy 2, 8, .inr (.inl (fun _ => 0)))), (q9, .inl (cy 5, 8, .inr (.inr (.inr (.inr (fun _ => none)))))), (q10, .inl (cy 1, 96, .inl (fun _ => 0)))] := hN
  refine lv_aload_n hx hb dX8_init_78 rfl (lv_at hl 0 rfl) ?_
  refine lv_bipush (v := 96) hx hb dX8_init_79 (by decide) ?_
  refine pw_cnewa (atype := .int) (t0 := 1) (cA := cy 1) (ty := .int) (N' := 96) (a0 := (96, .inl (fun _ => 0))) hx hb (hts (.arrayClass .int) (by decide +kernel)) rfl hG rfl (fun _ h => h) hw hN (fun _ => rfl) (by decide) (by decide) (Nat.le_of_ble_eq_true rfl) (Nat.le_of_ble_eq_true rfl) (Nat.le_of_ble_eq_true rfl) dX8_init_81 (fun q11 L1 f1 H hw hN => ?_)
  have hN : pw_N h0 8 L f _ _ [.ref q1, .ref q3, .ref q5, .ref q7, .ref q9, .int (-1), .ref q10, .null, .null, .null, .null, .null, .null, .int 0, .null, .null, .null, .int 0, .int 0, .null, .null] [(q1, .inr (4, [.ref q2, .int 0])), (q2, .inl (cy 2, 32, .inr (.inl (fun _ => 0)))), (q3, .inr (4, [.ref q4, .int 0])), (q4, .inl (cy 2, 96, .inr (.inl (fun _ => 0)))), (q5, .inr (4, [.ref q6, .int 0])), (q6, .inl (cy 2, 8, .inr (.inl (fun _ => 0)))), (q7, .inr (4, [.ref q8, .int 0])), (q8, .inl (cy 2, 8, .inr (.inl (fun _ => 0)))), (q9, .inl (cy 5, 8, .inr (.inr (.inr (.inr (fun _ => none)))))), (q10, .inl (cy 1, 96, .inl (fun _ => 0))), (q11, .inl (cy 1, 96, .inl (fun _ => 0)))] := hN
  refine pw_cputF (ci := 8) (v := .ref q11) (C := RX8) (T := TX8) (N := 21) hx hb hts hi8 tyX8 tyX8_ok nmX8 hown hG hw hN rfl 7 (by decide) (hts (.fieldLink RX8 43 "TongueHouse$Store" "funArity" "[I") (by decide +kernel)) (fun _ h9 => h9) rfl hin rfl rfl rfl (Nat.le_of_ble_eq_true rfl) dX8_init_83 (fun f1 H locs hw hN => ?_)
  have hN : pw_N h0 8 L f _ _ [.ref q1, .ref q3, .ref q5, .ref q7, .ref q9, .int (-1), .ref q10, .ref q11, .null, .null, .null, .null, .null, .int 0, .null, .null, .null, .int 0, .int 0, .null, .null] [(q1, .inr (4, [.ref q2, .int 0])), (q2, .inl (cy 2, 32, .inr (.inl (fun _ => 0)))), (q3, .inr (4, [.ref q4, .int 0])), (q4, .inl (cy 2, 96, .inr (.inl (fun _ => 0)))), (q5, .inr (4, [.ref q6, .int 0])), (q6, .inl (cy 2, 8, .inr (.inl (fun _ => 0)))), (q7, .inr (4, [.ref q8, .int 0])), (q8, .inl (cy 2, 8, .inr (.inl (fun _ => 0)))), (q9, .inl (cy 5, 8, .inr (.inr (.inr (.inr (fun _ => none)))))), (q10, .inl (cy 1, 96, .inl (fun _ => 0))), (q11, .inl (cy 1, 96, .inl (fun _ => 0)))] := hN
  refine lv_aload_n hx hb dX8_init_86 rfl (lv_at hl 0 rfl) ?_
  refine lv_sipush (v := 384) hx hb dX8_init_87 (by decide) ?_
  refine pw_cnewa (atype := .int) (t0 := 1) (cA := cy 1) (ty := .int) (N' := 384) (a0 := (384, .inl (fun _ => 0))) hx hb (hts (.arrayClass .int) (by decide +kernel)) rfl hG rfl (fun _ h => h) hw hN (fun _ => rfl) (by decide) (by decide) (Nat.le_of_ble_eq_true rfl) (Nat.le_of_ble_eq_true rfl) (Nat.le_of_ble_eq_true rfl) dX8_init_90 (fun q12 L1 f1 H hw hN => ?_)
  have hN : pw_N h0 8 L f _ _ [.ref q1, .ref q3, .ref q5, .ref q7, .ref q9, .int (-1), .ref q10, .ref q11, .null, .null, .null, .null, .null, .int 0, .null, .null, .null, .int 0, .int 0, .null, .null] [(q1, .inr (4, [.ref q2, .int 0])), (q2, .inl (cy 2, 32, .inr (.inl (fun _ => 0)))), (q3, .inr (4, [.ref q4, .int 0])), (q4, .inl (cy 2, 96, .inr (.inl (fun _ => 0)))), (q5, .inr (4, [.ref q6, .int 0])), (q6, .inl (cy 2, 8, .inr (.inl (fun _ => 0)))), (q7, .inr (4, [.ref q8, .int 0])), (q8, .inl (cy 2, 8, .inr (.inl (fun _ => 0)))), (q9, .inl (cy 5, 8, .inr (.inr (.inr (.inr (fun _ => none)))))), (q10, .inl (cy 1, 96, .inl (fun _ => 0))), (q11, .inl (cy 1, 96, .inl (fun _ => 0))), (q12, .inl (cy 1, 384, .inl (fun _ => 0)))] := hN
  refine pw_cputF (ci := 8) (v := .ref q12) (C := RX8) (T := TX8) (N := 21) hx hb hts hi8 tyX8 tyX8_ok nmX8 hown hG hw hN rfl 8 (by decide) (hts (.fieldLink RX8 46 "TongueHouse$Store" "funArgs" "[I") (by decide +kernel)) (fun _ h9 => h9) rfl hin rfl rfl rfl (Nat.le_of_ble_eq_true rfl) dX8_init_92 (fun f1 H locs hw hN => ?_)
  have hN : pw_N h0 8 L f _ _ [.ref q1, .ref q3, .ref q5, .ref q7, .ref q9, .int (-1), .ref q10, .ref q11, .ref q12, .null, .null, .null, .null, .int 0, .null, .null, .null, .int 0, .int 0, .null, .null] [(q1, .inr (4, [.ref q2, .int 0])), (q2, .inl (cy 2, 32, .inr (.inl (fun _ => 0)))), (q3, .inr (4, [.ref q4, .int 0])), (q4, .inl (cy 2, 96, .inr (.inl (fun _ => 0)))), (q5, .inr (4, [.ref q6, .int 0])), (q6, .inl (cy 2, 8, .inr (.inl (fun _ => 0)))), (q7, .inr (4, [.ref q8, .int 0])), (q8, .inl (cy 2, 8, .inr (.inl (fun _ => 0)))), (q9, .inl (cy 5, 8, .inr (.inr (.inr (.inr (fun _ => none)))))), (q10, .inl (cy 1, 96, .inl (fun _ => 0))), (q11, .inl (cy 1, 96, .inl (fun _ => 0))), (q12, .inl (cy 1, 384, .inl (fun _ => 0)))] := hN
  refine lv_aload_n hx hb dX8_init_95 rfl (lv_at hl 0 rfl) ?_
  refine lv_bipush (v := 96) hx hb dX8_init_96 (by decide) ?_
  refine pw_cnewa (atype := .int) (t0 := 1) (cA := cy 1) (ty := .int) (N' := 96) (a0 := (96, .inl (fun _ => 0))) hx hb (hts (.arrayClass .int) (by decide +kernel)) rfl hG rfl (fun _ h => h) hw hN (fun _ => rfl) (by decide) (by decide) (Nat.le_of_ble_eq_true rfl) (Nat.le_of_ble_eq_true rfl) (Nat.le_of_ble_eq_true rfl) dX8_init_98 (fun q13 L1 f1 H hw hN => ?_)
  have hN : pw_N h0 8 L f _ _ [.ref q1, .ref q3, .ref q5, .ref q7, .ref q9, .int (-1), .ref q10, .ref q11, .ref q12, .null, .null, .null, .null, .int 0, .null, .null, .null, .int 0, .int 0, .null, .null] [(q1, .inr (4, [.ref q2, .int 0])), (q2, .inl (cy 2, 32, .inr (.inl (fun _ => 0)))), (q3, .inr (4, [.ref q4, .int 0])), (q4, .inl (cy 2, 96, .inr (.inl (fun _ => 0)))), (q5, .inr (4, [.ref q6, .int 0])), (q6, .inl (cy 2, 8, .inr (.inl (fun _ => 0)))), (q7, .inr (4, [.ref q8, .int 0])), (q8, .inl (cy 2, 8, .inr (.inl (fun _ => 0)))), (q9, .inl (cy 5, 8, .inr (.inr (.inr (.inr (fun _ => none)))))), (q10, .inl (cy 1, 96, .inl (fun _ => 0))), (q11, .inl (cy 1, 96, .inl (fun _ => 0))), (q12, .inl (cy 1, 384, .inl (fun _ => 0))), (q13, .inl (cy 1, 96, .inl (fun _ => 0)))] := hN
  refine pw_cputF (ci := 8) (v := .ref q13) (C := RX8) (T := TX8) (N := 21) hx hb hts hi8 tyX8 tyX8_ok nmX8 hown hG hw hN rfl 9 (by decide) (hts (.fieldLink RX8 49 "TongueHouse$Store" "funCost" "[I") (by decide +kernel)) (fun _ h9 => h9) rfl hin rfl rfl rfl (Nat.le_of_ble_eq_true rfl) dX8_init_100 (fun f1 H locs hw hN => ?_)
  have hN : pw_N h0 8 L f _ _ [.ref q1, .ref q3, .ref q5, .ref q7, .ref q9, .int (-1), .ref q10, .ref q11, .ref q12, .ref q13, .null, .null, .null, .int 0, .null, .null, .null, .int 0, .int 0, .null, .null] [(q1, .inr (4, [.ref q2, .int 0])), (q2, .inl (cy 2, 32, .inr (.inl (fun _ => 0)))), (q3, .inr (4, [.ref q4, .int 0])), (q4, .inl (cy 2, 96, .inr (.inl (fun _ => 0)))), (q5, .inr (4, [.ref q6, .int 0])), (q6, .inl (cy 2, 8, .inr (.inl (fun _ => 0)))), (q7, .inr (4, [.ref q8, .int 0])), (q8, .inl (cy 2, 8, .inr (.inl (fun _ => 0)))), (q9, .inl (cy 5, 8, .inr (.inr (.inr (.inr (fun _ => none)))))), (q10, .inl (cy 1, 96, .inl (fun _ => 0))), (q11, .inl (cy 1, 96, .inl (fun _ => 0))), (q12, .inl (cy 1, 384, .inl (fun _ => 0))), (q13, .inl (cy 1, 96, .inl (fun _ => 0)))] := hN
  refine lv_aload_n hx hb dX8_init_103 rfl (lv_at hl 0 rfl) ?_
  refine lv_bipush (v := 96) hx hb dX8_init_104 (by decide) ?_
  refine pw_cnewa (atype := .int) (t0 := 1) (cA := cy 1) (ty := .int) (N' := 96) (a0 := (96, .inl (fun _ => 0))) hx hb (hts (.arrayClass .int) (by decide +kernel)) rfl hG rfl (fun _ h => h) hw hN (fun _ => rfl) (by decide) (by decide) (Nat.le_of_ble_eq_true rfl) (Nat.le_of_ble_eq_true rfl) (Nat.le_of_ble_eq_true rfl) dX8_init_106 (fun q14 L1 f1 H hw hN => ?_)
  have hN : pw_N h0 8 L f _ _ [.ref q1, .ref q3, .ref q5, .ref q7, .ref q9, .int (-1), .ref q10, .ref q11, .ref q12, .ref q13, .null, .null, .null, .int 0, .null, .null, .null, .int 0, .int 0, .null, .null] [(q1, .inr (4, [.ref q2, .int 0])), (q2, .inl (cy 2, 32, .inr (.inl (fun _ => 0)))), (q3, .inr (4, [.ref q4, .int 0])), (q4, .inl (cy 2, 96, .inr (.inl (fun _ => 0)))), (q5, .inr (4, [.ref q6, .int 0])), (q6, .inl (cy 2, 8, .inr (.inl (fun _ => 0)))), (q7, .inr (4, [.ref q8, .int 0])), (q8, .inl (cy 2, 8, .inr (.inl (fun _ => 0)))), (q9, .inl (cy 5, 8, .inr (.inr (.inr (.inr (fun _ => none)))))), (q10, .inl (cy 1, 96, .inl (fun _ => 0))), (q11, .inl (cy 1, 96, .inl (fun _ => 0))), (q12, .inl (cy 1, 384, .inl (fun _ => 0))), (q13, .inl (cy 1, 96, .inl (fun _ => 0))), (q14, .inl (cy 1, 96, .inl (fun _ => 0)))] := hN
  refine pw_cputF (ci := 8) (v := .ref q14) (C := RX8) (T := TX8) (N := 21) hx hb hts hi8 tyX8 tyX8_ok nmX8 hown hG hw hN rfl 10 (by decide) (hts (.fieldLink RX8 52 "TongueHouse$Store" "meanSize" "[I") (by decide +kernel)) (fun _ h9 => h9) rfl hin rfl rfl rfl (Nat.le_of_ble_eq_true rfl) dX8_init_108 (fun f1 H locs hw hN => ?_)
  have hN : pw_N h0 8 L f _ _ [.ref q1, .ref q3, .ref q5, .ref q7, .ref q9, .int (-1), .ref q10, .ref q11, .ref q12, .ref q13, .ref q14, .null, .null, .int 0, .null, .null, .null, .int 0, .int 0, .null, .null] [(q1, .inr (4, [.ref q2, .int 0])), (q2, .inl (cy 2, 32, .inr (.inl (fun _ => 0)))), (q3, .inr (4, [.ref q4, .int 0])), (q4, .inl (cy 2, 96, .inr (.inl (fun _ => 0)))), (q5, .inr (4, [.ref q6, .int 0])), (q6, .inl (cy 2, 8, .inr (.inl (fun _ => 0)))), (q7, .inr (4, [.ref q8, .int 0])), (q8, .inl (cy 2, 8, .inr (.inl (fun _ => 0)))), (q9, .inl (cy 5, 8, .inr (.inr (.inr (.inr (fun _ => none)))))), (q10, .inl (cy 1, 96, .inl (fun _ => 0))), (q11, .inl (cy 1, 96, .inl (fun _ => 0))), (q12, .inl (cy 1, 384, .inl (fun _ => 0))), (q13, .inl (cy 1, 96, .inl (fun _ => 0))), (q14, .inl (cy 1, 96, .inl (fun _ => 0)))] := hN
  refine lv_aload_n hx hb dX8_init_111 rfl (lv_at hl 0 rfl) ?_
  refine lv_sipush (v := 3840) hx hb dX8_init_112 (by decide) ?_
  refine pw_cnewa (atype := .int) (t0 := 1) (cA := cy 1) (ty := .int) (N' := 3840) (a0 := (3840, .inl (fun _ => 0))) hx hb (hts (.arrayClass .int) (by decide +kernel)) rfl hG rfl (fun _ h => h) hw hN (fun _ => rfl) (by decide) (by decide) (Nat.le_of_ble_eq_true rfl) (Nat.le_of_ble_eq_true rfl) (Nat.le_of_ble_eq_true rfl) dX8_init_115 (fun q15 L1 f1 H hw hN => ?_)
  have hN : pw_N h0 8 L f _ _ [.ref q1, .ref q3, .ref q5, .ref q7, .ref q9, .int (-1), .ref q10, .ref q11, .ref q12, .ref q13, .ref q14, .null, .null, .int 0, .null, .null, .null, .int 0, .int 0, .null, .null] [(q1, .inr (4, [.ref q2, .int 0])), (q2, .inl (cy 2, 32, .inr (.inl (fun _ => 0)))), (q3, .inr (4, [.ref q4, .int 0])), (q4, .inl (cy 2, 96, .inr (.inl (fun _ => 0)))), (q5, .inr (4, [.ref q6, .int 0])), (q6, .inl (cy 2, 8, .inr (.inl (fun _ => 0)))), (q7, .inr (4, [.ref q8, .int 0])), (q8, .inl (cy 2, 8, .inr (.inl (fun _ => 0)))), (q9, .inl (cy 5, 8, .inr (.inr (.inr (.inr (fun _ => none)))))), (q10, .inl (cy 1, 96, .inl (fun _ => 0))), (q11, .inl (cy 1, 96, .inl (fun _ => 0))), (q12, .inl (cy 1, 384, .inl (fun _ => 0))), (q13, .inl (cy 1, 96, .inl (fun _ => 0))), (q14, .inl (cy 1, 96, .inl (fun _ => 0))), (q15, .inl (cy 1, 3840, .inl (fun _ => 0)))] := hN
  refine pw_cputF (ci := 8) (v := .ref q15) (C := RX8) (T := TX8) (N := 21) hx hb hts hi8 tyX8 tyX8_ok nmX8 hown hG hw hN rfl 11 (by decide) (hts (.fieldLink RX8 55 "TongueHouse$Store" "meanOp" "[I") (by decide +kernel)) (fun _ h9 => h9) rfl hin rfl rfl rfl (Nat.le_of_ble_eq_true rfl) dX8_init_117 (fun f1 H locs hw hN => ?_)
  have hN : pw_N h0 8 L f _ _ [.ref q1, .ref q3, .ref q5, .ref q7, .ref q9, .int (-1), .ref q10, .ref q11, .ref q12, .ref q13, .ref q14, .ref q15, .null, .int 0, .null, .null, .null, .int 0, .int 0, .null, .null] [(q1, .inr (4, [.ref q2, .int 0])), (q2, .inl (cy 2, 32, .inr (.inl (fun _ => 0)))), (q3, .inr (4, [.ref q4, .int 0])), (q4, .inl (cy 2, 96, .inr (.inl (fun _ => 0)))), (q5, .inr (4, [.ref q6, .int 0])), (q6, .inl (cy 2, 8, .inr (.inl (fun _ => 0)))), (q7, .inr (4, [.ref q8, .int 0])), (q8, .inl (cy 2, 8, .inr (.inl (fun _ => 0)))), (q9, .inl (cy 5, 8, .inr (.inr (.inr (.inr (fun _ => none)))))), (q10, .inl (cy 1, 96, .inl (fun _ => 0))), (q11, .inl (cy 1, 96, .inl (fun _ => 0))), (q12, .inl (cy 1, 384, .inl (fun _ => 0))), (q13, .inl (cy 1, 96, .inl (fun _ => 0))), (q14, .inl (cy 1, 96, .inl (fun _ => 0))), (q15, .inl (cy 1, 3840, .inl (fun _ => 0)))] := hN
  refine lv_aload_n hx hb dX8_init_120 rfl (lv_at hl 0 rfl) ?_
  refine lv_sipush (v := 3840) hx hb dX8_init_121 (by decide) ?_
  refine pw_cnewa (atype := .long) (t0 := 2) (cA := cy 2) (ty := .long) (N' := 3840) (a0 := (3840, .inr (.inl (fun _ => 0)))) hx hb (hts (.arrayClass .long) (by decide +kernel)) rfl hG rfl (fun _ h => h) hw hN (fun _ => rfl) (by decide) (by decide) (Nat.le_of_ble_eq_true rfl) (Nat.le_of_ble_eq_true rfl) (Nat.le_of_ble_eq_true rfl) dX8_init_124 (fun q16 L1 f1 H hw hN => ?_)
  have hN : pw_N h0 8 L f _ _ [.ref q1, .ref q3, .ref q5, .ref q7, .ref q9, .int (-1), .ref q10, .ref q11, .ref q12, .ref q13, .ref q14, .ref q15, .null, .int 0, .null, .null, .null, .int 0, .int 0, .null, .null] [(q1, .inr (4, [.ref q2, .int 0])), (q2, .inl (cy 2, 32, .inr (.inl (fun _ => 0)))), (q3, .inr (4, [.ref q4, .int 0])), (q4, .inl (cy 2, 96, .inr (.inl (fun _ => 0)))), (q5, .inr (4, [.ref q6, .int 0])), (q6, .inl (cy 2, 8, .inr (.inl (fun _ => 0)))), (q7, .inr (4, [.ref q8, .int 0])), (q8, .inl (cy 2, 8, .inr (.inl (fun _ => 0)))), (q9, .inl (cy 5, 8, .inr (.inr (.inr (.inr (fun _ => none)))))), (q10, .inl (cy 1, 96, .inl (fun _ => 0))), (q11, .inl (cy 1, 96, .inl (fun _ => 0))), (q12, .inl (cy 1, 384, .inl (fun _ => 0))), (q13, .inl (cy 1, 96, .inl (fun _ => 0))), (q14, .inl (cy 1, 96, .inl (fun _ => 0))), (q15, .inl (cy 1, 3840, .inl (fun _ => 0))), (q16, .inl (cy 2, 3840, .inr (.inl (fun _ => 0))))] := hN
  refine pw_cputF (ci := 8) (v := .ref q16) (C := RX8) (T := TX8) (N := 21) hx hb hts hi8 tyX8 tyX8_ok nmX8 hown hG hw hN rfl 12 (by decide) (hts (.fieldLink RX8 58 "TongueHouse$Store" "meanName" "[J") (by decide +kernel)) (fun _ h9 => h9) rfl hin rfl rfl rfl (Nat.le_of_ble_eq_true rfl) dX8_init_126 (fun f1 H locs hw hN => ?_)
  have hN : pw_N h0 8 L f _ _ [.ref q1, .ref q3, .ref q5, .ref q7, .ref q9, .int (-1), .ref q10, .ref q11, .ref q12, .ref q13, .ref q14, .ref q15, .ref q16, .int 0, .null, .null, .null, .int 0, .int 0, .null, .null] [(q1, .inr (4, [.ref q2, .int 0])), (q2, .inl (cy 2, 32, .inr (.inl (fun _ => 0)))), (q3, .inr (4, [.ref q4, .int 0])), (q4, .inl (cy 2, 96, .inr (.inl (fun _ => 0)))), (q5, .inr (4, [.ref q6, .int 0])), (q6, .inl (cy 2, 8, .inr (.inl (fun _ => 0)))), (q7, .inr (4, [.ref q8, .int 0])), (q8, .inl (cy 2, 8, .inr (.inl (fun _ => 0)))), (q9, .inl (cy 5, 8, .inr (.inr (.inr (.inr (fun _ => none)))))), (q10, .inl (cy 1, 96, .inl (fun _ => 0))), (q11, .inl (cy 1, 96, .inl (fun _ => 0))), (q12, .inl (cy 1, 384, .inl (fun _ => 0))), (q13, .inl (cy 1, 96, .inl (fun _ => 0))), (q14, .inl (cy 1, 96, .inl (fun _ => 0))), (q15, .inl (cy 1, 3840, .inl (fun _ => 0))), (q16, .inl (cy 2, 3840, .inr (.inl (fun _ => 0))))] := hN
  refine lv_aload_n hx hb dX8_init_129 rfl (lv_at hl 0 rfl) ?_
  refine lv_bipush (v := 64) hx hb dX8_init_130 (by decide) ?_
  refine pw_cnewa (atype := .long) (t0 := 2) (cA := cy 2) (ty := .long) (N' := 64) (a0 := (64, .inr (.inl (fun _ => 0)))) hx hb (hts (.arrayClass .long) (by decide +kernel)) rfl hG rfl (fun _ h => h) hw hN (fun _ => rfl) (by decide) (by decide) (Nat.le_of_ble_eq_true rfl) (Nat.le_of_ble_eq_true rfl) (Nat.le_of_ble_eq_true rfl) dX8_init_132 (fun q17 L1 f1 H hw hN => ?_)
  have hN : pw_N h0 8 L f _ _ [.ref q1, .ref q3, .ref q5, .ref q7, .ref q9, .int (-1), .ref q10, .ref q11, .ref q12, .ref q13, .ref q14, .ref q15, .ref q16, .int 0, .null, .null, .null, .int 0, .int 0, .null, .null] [(q1, .inr (4, [.ref q2, .int 0])), (q2, .inl (cy 2, 32, .inr (.inl (fun _ => 0)))), (q3, .inr (4, [.ref q4, .int 0])), (q4, .inl (cy 2, 96, .inr (.inl (fun _ => 0)))), (q5, .inr (4, [.ref q6, .int 0])), (q6, .inl (cy 2, 8, .inr (.inl (fun _ => 0)))), (q7, .inr (4, [.ref q8, .int 0])), (q8, .inl (cy 2, 8, .inr (.inl (fun _ => 0)))), (q9, .inl (cy 5, 8, .inr (.inr (.inr (.inr (fun _ => none)))))), (q10, .inl (cy 1, 96, .inl (fun _ => 0))), (q11, .inl (cy 1, 96, .inl (fun _ => 0))), (q12, .inl (cy 1, 384, .inl (fun _ => 0))), (q13, .inl (cy 1, 96, .inl (fun _ => 0))), (q14, .inl (cy 1, 96, .inl (fun _ => 0))), (q15, .inl (cy 1, 3840, .inl (fun _ => 0))), (q16, .inl (cy 2, 3840, .inr (.inl (fun _ => 0)))), (q17, .inl (cy 2, 64, .inr (.inl (fun _ => 0))))] := hN
  refine pw_cputF (ci := 8) (v := .ref q17) (C := RX8) (T := TX8) (N := 21) hx hb hts hi8 tyX8 tyX8_ok nmX8 hown hG hw hN rfl 14 (by decide) (hts (.fieldLink RX8 62 "TongueHouse$Store" "factName" "[J") (by decide +kernel)) (fun _ h9 => h9) rfl hin rfl rfl rfl (Nat.le_of_ble_eq_true rfl) dX8_init_134 (fun f1 H locs hw hN => ?_)
  have hN : pw_N h0 8 L f _ _ [.ref q1, .ref q3, .ref q5, .ref q7, .ref q9, .int (-1), .ref q10, .ref q11, .ref q12, .ref q13, .ref q14, .ref q15, .ref q16, .int 0, .ref q17, .null, .null, .int 0, .int 0, .null, .null] [(q1, .inr (4, [.ref q2, .int 0])), (q2, .inl (cy 2, 32, .inr (.inl (fun _ => 0)))), (q3, .inr (4, [.ref q4, .int 0])), (q4, .inl (cy 2, 96, .inr (.inl (fun _ => 0)))), (q5, .inr (4, [.ref q6, .int 0])), (q6, .inl (cy 2, 8, .inr (.inl (fun _ => 0)))), (q7, .inr (4, [.ref q8, .int 0])), (q8, .inl (cy 2, 8, .inr (.inl (fun _ => 0)))), (q9, .inl (cy 5, 8, .inr (.inr (.inr (.inr (fun _ => none)))))), (q10, .inl (cy 1, 96, .inl (fun _ => 0))), (q11, .inl (cy 1, 96, .inl (fun _ => 0))), (q12, .inl (cy 1, 384, .inl (fun _ => 0))), (q13, .inl (cy 1, 96, .inl (fun _ => 0))), (q14, .inl (cy 1, 96, .inl (fun _ => 0))), (q15, .inl (cy 1, 3840, .inl (fun _ => 0))), (q16, .inl (cy 2, 3840, .inr (.inl (fun _ => 0)))), (q17, .inl (cy 2, 64, .inr (.inl (fun _ => 0))))] := hN
  refine lv_aload_n hx hb dX8_init_137 rfl (lv_at hl 0 rfl) ?_
  refine lv_sipush (v := 128) hx hb dX8_init_138 (by decide) ?_
  refine pw_cnewa (atype := .int) (t0 := 1) (cA := cy 1) (ty := .int) (N' := 128) (a0 := (128, .inl (fun _ => 0))) hx hb (hts (.arrayClass .int) (by decide +kernel)) rfl hG rfl (fun _ h => h) hw hN (fun _ => rfl) (by decide) (by decide) (Nat.le_of_ble_eq_true rfl) (Nat.le_of_ble_eq_true rfl) (Nat.le_of_ble_eq_true rfl) dX8_init_141 (fun q18 L1 f1 H hw hN => ?_)
  have hN : pw_N h0 8 L f _ _ [.ref q1, .ref q3, .ref q5, .ref q7, .ref q9, .int (-1), .ref q10, .ref q11, .ref q12, .ref q13, .ref q14, .ref q15, .ref q16, .int 0, .ref q17, .null, .null, .int 0, .int 0, .null, .null] [(q1, .inr (4, [.ref q2, .int 0])), (q2, .inl (cy 2, 32, .inr (.inl (fun _ => 0)))), (q3, .inr (4, [.ref q4, .int 0])), (q4, .inl (cy 2, 96, .inr (.inl (fun _ => 0)))), (q5, .inr (4, [.ref q6, .int 0])), (q6, .inl (cy 2, 8, .inr (.inl (fun _ => 0)))), (q7, .inr (4, [.ref q8, .int 0])), (q8, .inl (cy 2, 8, .inr (.inl (fun _ => 0)))), (q9, .inl (cy 5, 8, .inr (.inr (.inr (.inr (fun _ => none)))))), (q10, .inl (cy 1, 96, .inl (fun _ => 0))), (q11, .inl (cy 1, 96, .inl (fun _ => 0))), (q12, .inl (cy 1, 384, .inl (fun _ => 0))), (q13, .inl (cy 1, 96, .inl (fun _ => 0))), (q14, .inl (cy 1, 96, .inl (fun _ => 0))), (q15, .inl (cy 1, 3840, .inl (fun _ => 0))), (q16, .inl (cy 2, 3840, .inr (.inl (fun _ => 0)))), (q17, .inl (cy 2, 64, .inr (.inl (fun _ => 0)))), (q18, .inl (cy 1, 128, .inl (fun _ => 0)))] := hN
  refine pw_cputF (ci := 8) (v := .ref q18) (C := RX8) (T := TX8) (N := 21) hx hb hts hi8 tyX8 tyX8_ok nmX8 hown hG hw hN rfl 15 (by decide) (hts (.fieldLink RX8 65 "TongueHouse$Store" "factThings" "[I") (by decide +kernel)) (fun _ h9 => h9) rfl hin rfl rfl rfl (Nat.le_of_ble_eq_true rfl) dX8_init_143 (fun f1 H locs hw hN => ?_)
  have hN : pw_N h0 8 L f _ _ [.ref q1, .ref q3, .ref q5, .ref q7, .ref q9, .int (-1), .ref q10, .ref q11, .ref q12, .ref q13, .ref q14, .ref q15, .ref q16, .int 0, .ref q17, .ref q18, .null, .int 0, .int 0, .null, .null] [(q1, .inr (4, [.ref q2, .int 0])), (q2, .inl (cy 2, 32, .inr (.inl (fun _ => 0)))), (q3, .inr (4, [.ref q4, .int 0])), (q4, .inl (cy 2, 96, .inr (.inl (fun _ => 0)))), (q5, .inr (4, [.ref q6, .int 0])), (q6, .inl (cy 2, 8, .inr (.inl (fun _ => 0)))), (q7, .inr (4, [.ref q8, .int 0])), (q8, .inl (cy 2, 8, .inr (.inl (fun _ => 0)))), (q9, .inl (cy 5, 8, .inr (.inr (.inr (.inr (fun _ => none)))))), (q10, .inl (cy 1, 96, .inl (fun _ => 0))), (q11, .inl (cy 1, 96, .inl (fun _ => 0))), (q12, .inl (cy 1, 384, .inl (fun _ => 0))), (q13, .inl (cy 1, 96, .inl (fun _ => 0))), (q14, .inl (cy 1, 96, .inl (fun _ => 0))), (q15, .inl (cy 1, 3840, .inl (fun _ => 0))), (q16, .inl (cy 2, 3840, .inr (.inl (fun _ => 0)))), (q17, .inl (cy 2, 64, .inr (.inl (fun _ => 0)))), (q18, .inl (cy 1, 128, .inl (fun _ => 0)))] := hN
  refine lv_aload_n hx hb dX8_init_146 rfl (lv_at hl 0 rfl) ?_
  refine lv_sipush (v := 12000) hx hb dX8_init_147 (by decide) ?_
  refine pw_cnewa (atype := .byte) (t0 := 0) (cA := cy 0) (ty := .byte) (N' := 12000) (a0 := (12000, .inl (fun _ => 0))) hx hb (hts (.arrayClass .byte) (by decide +kernel)) rfl hG rfl (fun _ h => h) hw hN (fun _ => rfl) (by decide) (by decide) (Nat.le_of_ble_eq_true rfl) (Nat.le_of_ble_eq_true rfl) (Nat.le_of_ble_eq_true rfl) dX8_init_150 (fun q19 L1 f1 H hw hN => ?_)
  have hN : pw_N h0 8 L f _ _ [.ref q1, .ref q3, .ref q5, .ref q7, .ref q9, .int (-1), .ref q10, .ref q11, .ref q12, .ref q13, .ref q14, .ref q15, .ref q16, .int 0, .ref q17, .ref q18, .null, .int 0, .int 0, .null, .null] [(q1, .inr (4, [.ref q2, .int 0])), (q2, .inl (cy 2, 32, .inr (.inl (fun _ => 0)))), (q3, .inr (4, [.ref q4, .int 0])), (q4, .inl (cy 2, 96, .inr (.inl (fun _ => 0)))), (q5, .inr (4, [.ref q6, .int 0])), (q6, .inl (cy 2, 8, .inr (.inl (fun _ => 0)))), (q7, .inr (4, [.ref q8, .int 0])), (q8, .inl (cy 2, 8, .inr (.inl (fun _ => 0)))), (q9, .inl (cy 5, 8, .inr (.inr (.inr (.inr (fun _ => none)))))), (q10, .inl (cy 1, 96, .inl (fun _ => 0))), (q11, .inl (cy 1, 96, .inl (fun _ => 0))), (q12, .inl (cy 1, 384, .inl (fun _ => 0))), (q13, .inl (cy 1, 96, .inl (fun _ => 0))), (q14, .inl (cy 1, 96, .inl (fun _ => 0))), (q15, .inl (cy 1, 3840, .inl (fun _ => 0))), (q16, .inl (cy 2, 3840, .inr (.inl (fun _ => 0)))), (q17, .inl (cy 2, 64, .inr (.inl (fun _ => 0)))), (q18, .inl (cy 1, 128, .inl (fun _ => 0))), (q19, .inl (cy 0, 12000, .inl (fun _ => 0)))] := hN
  refine pw_cputF (ci := 8) (v := .ref q19) (C := RX8) (T := TX8) (N := 21) hx hb hts hi8 tyX8 tyX8_ok nmX8 hown hG hw hN rfl 16 (by decide) (hts (.fieldLink RX8 68 "TongueHouse$Store" "pool" "[B") (by decide +kernel)) (fun _ h9 => h9) rfl hin rfl rfl rfl (Nat.le_of_ble_eq_true rfl) dX8_init_152 (fun f1 H locs hw hN => ?_)
  have hN : pw_N h0 8 L f _ _ [.ref q1, .ref q3, .ref q5, .ref q7, .ref q9, .int (-1), .ref q10, .ref q11, .ref q12, .ref q13, .ref q14, .ref q15, .ref q16, .int 0, .ref q17, .ref q18, .ref q19, .int 0, .int 0, .null, .null] [(q1, .inr (4, [.ref q2, .int 0])), (q2, .inl (cy 2, 32, .inr (.inl (fun _ => 0)))), (q3, .inr (4, [.ref q4, .int 0])), (q4, .inl (cy 2, 96, .inr (.inl (fun _ => 0)))), (q5, .inr (4, [.ref q6, .int 0])), (q6, .inl (cy 2, 8, .inr (.inl (fun _ => 0)))), (q7, .inr (4, [.ref q8, .int 0])), (q8, .inl (cy 2, 8, .inr (.inl (fun _ => 0)))), (q9, .inl (cy 5, 8, .inr (.inr (.inr (.inr (fun _ => none)))))), (q10, .inl (cy 1, 96, .inl (fun _ => 0))), (q11, .inl (cy 1, 96, .inl (fun _ => 0))), (q12, .inl (cy 1, 384, .inl (fun _ => 0))), (q13, .inl (cy 1, 96, .inl (fun _ => 0))), (q14, .inl (cy 1, 96, .inl (fun _ => 0))), (q15, .inl (cy 1, 3840, .inl (fun _ => 0))), (q16, .inl (cy 2, 3840, .inr (.inl (fun _ => 0)))), (q17, .inl (cy 2, 64, .inr (.inl (fun _ => 0)))), (q18, .inl (cy 1, 128, .inl (fun _ => 0))), (q19, .inl (cy 0, 12000, .inl (fun _ => 0)))] := hN
  refine lv_aload_n hx hb dX8_init_155 rfl (lv_at hl 0 rfl) ?_
  refine lv_sipush (v := 159) hx hb dX8_init_156 (by decide) ?_
  refine pw_cnewa (atype := .int) (t0 := 1) (cA := cy 1) (ty := .int) (N' := 159) (a0 := (159, .inl (fun _ => 0))) hx hb (hts (.arrayClass .int) (by decide +kernel)) rfl hG rfl (fun _ h => h) hw hN (fun _ => rfl) (by decide) (by decide) (Nat.le_of_ble_eq_true rfl) (Nat.le_of_ble_eq_true rfl) (Nat.le_of_ble_eq_true rfl) dX8_init_159 (fun q20 L1 f1 H hw hN => ?_)
  have hN : pw_N h0 8 L f _ _ [.ref q1, .ref q3, .ref q5, .ref q7, .ref q9, .int (-1), .ref q10, .ref q11, .ref q12, .ref q13, .ref q14, .ref q15, .ref q16, .int 0, .ref q17, .ref q18, .ref q19, .int 0, .int 0, .null, .null] [(q1, .inr (4, [.ref q2, .int 0])), (q2, .inl (cy 2, 32, .inr (.inl (fun _ => 0)))), (q3, .inr (4, [.ref q4, .int 0])), (q4, .inl (cy 2, 96, .inr (.inl (fun _ => 0)))), (q5, .inr (4, [.ref q6, .int 0])), (q6, .inl (cy 2, 8, .inr (.inl (fun _ => 0)))), (q7, .inr (4, [.ref q8, .int 0])), (q8, .inl (cy 2, 8, .inr (.inl (fun _ => 0)))), (q9, .inl (cy 5, 8, .inr (.inr (.inr (.inr (fun _ => none)))))), (q10, .inl (cy 1, 96, .inl (fun _ => 0))), (q11, .inl (cy 1, 96, .inl (fun _ => 0))), (q12, .inl (cy 1, 384, .inl (fun _ => 0))), (q13, .inl (cy 1, 96, .inl (fun _ => 0))), (q14, .inl (cy 1, 96, .inl (fun _ => 0))), (q15, .inl (cy 1, 3840, .inl (fun _ => 0))), (q16, .inl (cy 2, 3840, .inr (.inl (fun _ => 0)))), (q17, .inl (cy 2, 64, .inr (.inl (fun _ => 0)))), (q18, .inl (cy 1, 128, .inl (fun _ => 0))), (q19, .inl (cy 0, 12000, .inl (fun _ => 0))), (q20, .inl (cy 1, 159, .inl (fun _ => 0)))] := hN
  refine pw_cputF (ci := 8) (v := .ref q20) (C := RX8) (T := TX8) (N := 21) hx hb hts hi8 tyX8 tyX8_ok nmX8 hown hG hw hN rfl 19 (by decide) (hts (.fieldLink RX8 72 "TongueHouse$Store" "marks" "[I") (by decide +kernel)) (fun _ h9 => h9) rfl hin rfl rfl rfl (Nat.le_of_ble_eq_true rfl) dX8_init_161 (fun f1 H locs hw hN => ?_)
  have hN : pw_N h0 8 L f _ _ [.ref q1, .ref q3, .ref q5, .ref q7, .ref q9, .int (-1), .ref q10, .ref q11, .ref q12, .ref q13, .ref q14, .ref q15, .ref q16, .int 0, .ref q17, .ref q18, .ref q19, .int 0, .int 0, .ref q20, .null] [(q1, .inr (4, [.ref q2, .int 0])), (q2, .inl (cy 2, 32, .inr (.inl (fun _ => 0)))), (q3, .inr (4, [.ref q4, .int 0])), (q4, .inl (cy 2, 96, .inr (.inl (fun _ => 0)))), (q5, .inr (4, [.ref q6, .int 0])), (q6, .inl (cy 2, 8, .inr (.inl (fun _ => 0)))), (q7, .inr (4, [.ref q8, .int 0])), (q8, .inl (cy 2, 8, .inr (.inl (fun _ => 0)))), (q9, .inl (cy 5, 8, .inr (.inr (.inr (.inr (fun _ => none)))))), (q10, .inl (cy 1, 96, .inl (fun _ => 0))), (q11, .inl (cy 1, 96, .inl (fun _ => 0))), (q12, .inl (cy 1, 384, .inl (fun _ => 0))), (q13, .inl (cy 1, 96, .inl (fun _ => 0))), (q14, .inl (cy 1, 96, .inl (fun _ => 0))), (q15, .inl (cy 1, 3840, .inl (fun _ => 0))), (q16, .inl (cy 2, 3840, .inr (.inl (fun _ => 0)))), (q17, .inl (cy 2, 64, .inr (.inl (fun _ => 0)))), (q18, .inl (cy 1, 128, .inl (fun _ => 0))), (q19, .inl (cy 0, 12000, .inl (fun _ => 0))), (q20, .inl (cy 1, 159, .inl (fun _ => 0)))] := hN
  refine lv_aload_n hx hb dX8_init_164 rfl (lv_at hl 0 rfl) ?_
  refine lv_bipush (v := 60) hx hb dX8_init_165 (by decide) ?_
  refine pw_cnewa (atype := .int) (t0 := 1) (cA := cy 1) (ty := .int) (N' := 60) (a0 := (60, .inl (fun _ => 0))) hx hb (hts (.arrayClass .int) (by decide +kernel)) rfl hG rfl (fun _ h => h) hw hN (fun _ => rfl) (by decide) (by decide) (Nat.le_of_ble_eq_true rfl) (Nat.le_of_ble_eq_true rfl) (Nat.le_of_ble_eq_true rfl) dX8_init_167 (fun q21 L1 f1 H hw hN => ?_)
  have hN : pw_N h0 8 L f _ _ [.ref q1, .ref q3, .ref q5, .ref q7, .ref q9, .int (-1), .ref q10, .ref q11, .ref q12, .ref q13, .ref q14, .ref q15, .ref q16, .int 0, .ref q17, .ref q18, .ref q19, .int 0, .int 0, .ref q20, .null] [(q1, .inr (4, [.ref q2, .int 0])), (q2, .inl (cy 2, 32, .inr (.inl (fun _ => 0)))), (q3, .inr (4, [.ref q4, .int 0])), (q4, .inl (cy 2, 96, .inr (.inl (fun _ => 0)))), (q5, .inr (4, [.ref q6, .int 0])), (q6, .inl (cy 2, 8, .inr (.inl (fun _ => 0)))), (q7, .inr (4, [.ref q8, .int 0])), (q8, .inl (cy 2, 8, .inr (.inl (fun _ => 0)))), (q9, .inl (cy 5, 8, .inr (.inr (.inr (.inr (fun _ => none)))))), (q10, .inl (cy 1, 96, .inl (fun _ => 0))), (q11, .inl (cy 1, 96, .inl (fun _ => 0))), (q12, .inl (cy 1, 384, .inl (fun _ => 0))), (q13, .inl (cy 1, 96, .inl (fun _ => 0))), (q14, .inl (cy 1, 96, .inl (fun _ => 0))), (q15, .inl (cy 1, 3840, .inl (fun _ => 0))), (q16, .inl (cy 2, 3840, .inr (.inl (fun _ => 0)))), (q17, .inl (cy 2, 64, .inr (.inl (fun _ => 0)))), (q18, .inl (cy 1, 128, .inl (fun _ => 0))), (q19, .inl (cy 0, 12000, .inl (fun _ => 0))), (q20, .inl (cy 1, 159, .inl (fun _ => 0))), (q21, .inl (cy 1, 60, .inl (fun _ => 0)))] := hN
  refine pw_cputF (ci := 8) (v := .ref q21) (C := RX8) (T := TX8) (N := 21) hx hb hts hi8 tyX8 tyX8_ok nmX8 hown hG hw hN rfl 20 (by decide) (hts (.fieldLink RX8 75 "TongueHouse$Store" "stack" "[I") (by decide +kernel)) (fun _ h9 => h9) rfl hin rfl rfl rfl (Nat.le_of_ble_eq_true rfl) dX8_init_169 (fun f1 H locs hw hN => ?_)
  have hN : pw_N h0 8 L f _ _ [.ref q1, .ref q3, .ref q5, .ref q7, .ref q9, .int (-1), .ref q10, .ref q11, .ref q12, .ref q13, .ref q14, .ref q15, .ref q16, .int 0, .ref q17, .ref q18, .ref q19, .int 0, .int 0, .ref q20, .ref q21] [(q1, .inr (4, [.ref q2, .int 0])), (q2, .inl (cy 2, 32, .inr (.inl (fun _ => 0)))), (q3, .inr (4, [.ref q4, .int 0])), (q4, .inl (cy 2, 96, .inr (.inl (fun _ => 0)))), (q5, .inr (4, [.ref q6, .int 0])), (q6, .inl (cy 2, 8, .inr (.inl (fun _ => 0)))), (q7, .inr (4, [.ref q8, .int 0])), (q8, .inl (cy 2, 8, .inr (.inl (fun _ => 0)))), (q9, .inl (cy 5, 8, .inr (.inr (.inr (.inr (fun _ => none)))))), (q10, .inl (cy 1, 96, .inl (fun _ => 0))), (q11, .inl (cy 1, 96, .inl (fun _ => 0))), (q12, .inl (cy 1, 384, .inl (fun _ => 0))), (q13, .inl (cy 1, 96, .inl (fun _ => 0))), (q14, .inl (cy 1, 96, .inl (fun _ => 0))), (q15, .inl (cy 1, 3840, .inl (fun _ => 0))), (q16, .inl (cy 2, 3840, .inr (.inl (fun _ => 0)))), (q17, .inl (cy 2, 64, .inr (.inl (fun _ => 0)))), (q18, .inl (cy 1, 128, .inl (fun _ => 0))), (q19, .inl (cy 0, 12000, .inl (fun _ => 0))), (q20, .inl (cy 1, 159, .inl (fun _ => 0))), (q21, .inl (cy 1, 60, .inl (fun _ => 0)))] := hN
  refine W.widen (k := 21) (n := 21019) (Nat.le_of_ble_eq_true rfl) (Nat.le_of_ble_eq_true rfl) ?_
  exact pw_vret hx hb hr hlocks hsz hw ⟨q1, q2, q3, q4, q5, q6, q7, q8, q9, q10, q11, q12, q13, q14, q15, q16, q17, q18, q19, q20, q21, hN⟩ dX8_init_172
end
section
theorem bl_X1 : ∀ j, j < 19 → defaultValue (tyX1 j) = vp_V [.null, .int 0, .int 0, .null, .int 0, .null, .null, .int 0, .int 0, .int 0, .null, .null, .null, .null, .int 0, .null, .null, .int 0, .null] j := by decide +kernel
set_option maxHeartbeats 4000000 in
set_option maxRecDepth 100000 in
/-- TongueHouse$Finder(..): 13 cells come -/
theorem c_X1_init (l : Launch) (D : va_G) (cy : Nat → ClassId) (h0 sz : Nat) (L : List Nat) (f : Nat → va_E) (p1 : Nat) (ha : h0 ∈ L) (he : f h0 = .inr (1, [.null, .int 0, .int 0, .null, .int 0, .null, .null, .int 0, .int 0, .int 0, .null, .null, .null, .null, .int 0, .null, .null, .int 0, .null])) : Met l yX1_init wsX1_init ({ frames := 2, cells := 13, slots := 7690, locals := 32 }) (pw_Pc D cy [.ref h0, .ref p1] sz L f) (va_Qv (fun u : List Nat × (Nat → va_E) => ∃ q1 q2 q3 q4 q5 q6 q7 q8 q9 q10 q11 q12 q13 : Nat, pw_N h0 1 L f u.1 u.2 [.ref p1, .int 0, .int 0, .ref q1, .int 0, .ref q2, .ref q3, .int 0, .int 0, .int 0, .ref q4, .ref q5, .ref q6, .ref q10, .int 0, .ref q11, .ref q12, .int 0, .ref q13] [(q1, .inl (cy 1, 1536, .inl (fun _ => 0))), (q2, .inl (cy 1, 24, .inl (fun _ => 0))), (q3, .inl (cy 1, 24, .inl (fun _ => 0))), (q4, .inl (cy 6, 100, .inr (.inr (.inr (.inr (fun _ => none)))))), (q5, .inl (cy 1, 100, .inl (fun _ => 0))), (q6, .inr (9, [.ref q7, .int 0, .ref q8, .ref q9, .int 0, .int 0, .int 0, .int 0, .int 0, .long 0])), (q7, .inl (cy 0, 1000, .inl (fun _ => 0))), (q8, .inl (cy 1, 24, .inl (fun _ => 0))), (q9, .inl (cy 1, 24, .inl (fun _ => 0))), (q10, .inl (cy 1, 24, .inl (fun _ => 0))), (q11, .inl (cy 1, 2400, .inl (fun _ => 0))), (q12, .inl (cy 1, 2400, .inl (fun _ => 0))), (q13, .inl (cy 1, 24, .inl (fun _ => 0)))]) (pw_B D (pw_A L f sz)) (pw_A L f sz)) 13 (7690) (pw_A L f sz) := by
  refine Met.ofW (cc := cX1_init) (maxL := 2) (ret := none) (by decide) rfl ?_
  intro p e s m args below meth c s₁ B hml hv
  obtain ⟨rfl, hsz, hG, hP, hD0⟩ := hv
  have hx := B.exec
  have hb := B.bytes
  have hr := B.returns
  have hts := atoms_spec (ws := wsX1_init) B.pre
  have hown : s.vm.findClass RX1 = some m.cls := findClass_of_methodNamed B.named
  have hlocks := B.notSynchronized
  have hin : meth.name = "<init>" := (name_of_methodNamed B.named B.method).1
  have hw := pw_start (cy := cy) hsz hP hD0
  have hN := pw_N.rf ha he
  have hl := lv_entry ([.ref h0, .ref p1]) (n := 2) (Nat.le_of_ble_eq_true rfl)
  rw [lg_entry_eq]
  generalize (lg_sl ([.ref h0, .ref p1]) ++ List.replicate (2 - (lg_sl ([.ref h0, .ref p1])).length) Slot.unset).toArray = ls at hl ⊢
  have hl : lv_has ls 2 [(0, .ref h0), (1, .ref p1)] := hl
  have hi1 : ∀ w ∈ u_ws RX1 TX1 19, w ∈ wsX1_init := (fun _ h => List.mem_cons_of_mem _ (List.mem_append_left _ (List.mem_append_right _ h)))
  have hi9 : ∀ w ∈ u_ws RX9 TX9 10, w ∈ wsX1_init := (fun _ h => List.mem_cons_of_mem _ (List.mem_append_right _ h))
  refine lv_aload_n hx hb dX1_init_0 rfl (lv_at hl 0 rfl) ?_
  refine W.objInit hx hb hown (hts (.methodLink RX1 3 objectInit) (by decide +kernel)) (hts (.instanceMethod objectInit) (by decide +kernel)) (hts _ (show Cond.code objectInit ⟨#[0xb1]⟩ 1 none ∈ wsX1_init by decide +kernel)) rfl (by rw [hml]; exact hl.1) rfl dX1_init_1 (Nat.le_of_ble_eq_true rfl) (Nat.le_of_ble_eq_true rfl) ?_
  refine W.eq (g2 := F0 m 4 ls []) rfl ?_
  refine lv_aload_n hx hb dX1_init_4 rfl (lv_at hl 0 rfl) ?_
  refine lv_sipush (v := 1536) hx hb dX1_init_5 (by decide) ?_
  refine pw_cnewa (atype := .int) (t0 := 1) (cA := cy 1) (ty := .int) (N' := 1536) (a0 := (1536, .inl (fun _ => 0))) hx hb (hts (.arrayClass .int) (by decide +kernel)) rfl hG rfl (fun _ h => h) hw hN (fun _ => rfl) (by decide) (by decide) (Nat.le_of_ble_eq_true rfl) (Nat.le_of_ble_eq_true rfl) (Nat.le_of_ble_eq_true rfl) dX1_init_8 (fun q1 L1 f1 H hw hN => ?_)
  have hN : pw_N h0 1 L f _ _ [.null, .int 0, .int 0, .null, .int 0, .null, .null, .int 0, .int 0, .int 0, .null, .null, .null, .null, .int 0, .null, .null, .int 0, .null] [(q1, .inl (cy 1, 1536, .inl (fun _ => 0)))] := hN
  refine pw_cputF (ci := 1) (v := .ref q1) (C := RX1) (T := TX1) (N := 19) hx hb hts hi1 tyX1 tyX1_ok nmX1 hown hG hw hN rfl 3 (by decide) (hts (.fieldLink RX1 9 "TongueHouse$Finder" "analysed" "[I") (by decide +kernel)) (fun _ h9 => h9) rfl hin rfl rfl rfl (Nat.le_of_ble_eq_true rfl) dX1_init_10 (fun f1 H locs hw hN => ?_)
  have hN : pw_N h0 1 L f _ _ [.null, .int 0, .int 0, .ref q1, .int 0, .null, .null, .int 0, .int 0, .int 0, .null, .null, .null, .null, .int 0, .null, .null, .int 0, .null] [(q1, .inl (cy 1, 1536, .inl (fun _ => 0)))] := hN
  refine lv_aload_n hx hb dX1_init_13 rfl (lv_at hl 0 rfl) ?_
  refine lv_bipush (v := 24) hx hb dX1_init_14 (by decide) ?_
  refine pw_cnewa (atype := .int) (t0 := 1) (cA := cy 1) (ty := .int) (N' := 24) (a0 := (24, .inl (fun _ => 0))) hx hb (hts (.arrayClass .int) (by decide +kernel)) rfl hG rfl (fun _ h => h) hw hN (fun _ => rfl) (by decide) (by decide) (Nat.le_of_ble_eq_true rfl) (Nat.le_of_ble_eq_true rfl) (Nat.le_of_ble_eq_true rfl) dX1_init_16 (fun q2 L1 f1 H hw hN => ?_)
  have hN : pw_N h0 1 L f _ _ [.null, .int 0, .int 0, .ref q1, .int 0, .null, .null, .int 0, .int 0, .int 0, .null, .null, .null, .null, .int 0, .null, .null, .int 0, .null] [(q1, .inl (cy 1, 1536, .inl (fun _ => 0))), (q2, .inl (cy 1, 24, .inl (fun _ => 0)))] := hN
  refine pw_cputF (ci := 1) (v := .ref q2) (C := RX1) (T := TX1) (N := 19) hx hb hts hi1 tyX1 tyX1_ok nmX1 hown hG hw hN rfl 5 (by decide) (hts (.fieldLink RX1 15 "TongueHouse$Finder" "guessPattern" "[I") (by decide +kernel)) (fun _ h9 => h9) rfl hin rfl rfl rfl (Nat.le_of_ble_eq_true rfl) dX1_init_18 (fun f1 H locs hw hN => ?_)
  have hN : pw_N h0 1 L f _ _ [.null, .int 0, .int 0, .ref q1, .int 0, .ref q2, .null, .int 0, .int 0, .int 0, .null, .null, .null, .null, .int 0, .null, .null, .int 0, .null] [(q1, .inl (cy 1, 1536, .inl (fun _ => 0))), (q2, .inl (cy 1, 24, .inl (fun _ => 0)))] := hN
  refine lv_aload_n hx hb dX1_init_21 rfl (lv_at hl 0 rfl) ?_
  refine lv_bipush (v := 24) hx hb dX1_init_22 (by decide) ?_
  refine pw_cnewa (atype := .int) (t0 := 1) (cA := cy 1) (ty := .int) (N' := 24) (a0 := (24, .inl (fun _ => 0))) hx hb (hts (.arrayClass .int) (by decide +kernel)) rfl hG rfl (fun _ h => h) hw hN (fun _ => rfl) (by decide) (by decide) (Nat.le_of_ble_eq_true rfl) (Nat.le_of_ble_eq_true rfl) (Nat.le_of_ble_eq_true rfl) dX1_init_24 (fun q3 L1 f1 H hw hN => ?_)
  have hN : pw_N h0 1 L f _ _ [.null, .int 0, .int 0, .ref q1, .int 0, .ref q2, .null, .int 0, .int 0, .int 0, .null, .null, .null, .null, .int 0, .null, .null, .int 0, .null] [(q1, .inl (cy 1, 1536, .inl (fun _ => 0))), (q2, .inl (cy 1, 24, .inl (fun _ => 0))), (q3, .inl (cy 1, 24, .inl (fun _ => 0)))] := hN
  refine pw_cputF (ci := 1) (v := .ref q3) (C := RX1) (T := TX1) (N := 19) hx hb hts hi1 tyX1 tyX1_ok nmX1 hown hG hw hN rfl 6 (by decide) (hts (.fieldLink RX1 18 "TongueHouse$Finder" "guessForms" "[I") (by decide +kernel)) (fun _ h9 => h9) rfl hin rfl rfl rfl (Nat.le_of_ble_eq_true rfl) dX1_init_26 (fun f1 H locs hw hN => ?_)
  have hN : pw_N h0 1 L f _ _ [.null, .int 0, .int 0, .ref q1, .int 0, .ref q2, .ref q3, .int 0, .int 0, .int 0, .null, .null, .null, .null, .int 0, .null, .null, .int 0, .null] [(q1, .inl (cy 1, 1536, .inl (fun _ => 0))), (q2, .inl (cy 1, 24, .inl (fun _ => 0))), (q3, .inl (cy 1, 24, .inl (fun _ => 0)))] := hN
  refine lv_aload_n hx hb dX1_init_29 rfl (lv_at hl 0 rfl) ?_
  refine lv_bipush (v := 100) hx hb dX1_init_30 (by decide) ?_
  refine pw_cnewA (t0 := 6) (cA := cy 6) (t := .byte) (nm := "[B") (N' := 100) hx hb hown (by decide +kernel) (hts (.classLink RX1 21 "[B") (by decide +kernel)) hG.2.2.2.2.1 hG rfl hw hN (by decide) (by decide) (Nat.le_of_ble_eq_true rfl) (Nat.le_of_ble_eq_true rfl) (Nat.le_of_ble_eq_true rfl) dX1_init_32 (fun q4 L1 f1 H hw hN => ?_)
  have hN : pw_N h0 1 L f _ _ [.null, .int 0, .int 0, .ref q1, .int 0, .ref q2, .ref q3, .int 0, .int 0, .int 0, .null, .null, .null, .null, .int 0, .null, .null, .int 0, .null] [(q1, .inl (cy 1, 1536, .inl (fun _ => 0))), (q2, .inl (cy 1, 24, .inl (fun _ => 0))), (q3, .inl (cy 1, 24, .inl (fun _ => 0))), (q4, .inl (cy 6, 100, .inr (.inr (.inr (.inr (fun _ => none))))))] := hN
  refine pw_cputF (ci := 1) (v := .ref q4) (C := RX1) (T := TX1) (N := 19) hx hb hts hi1 tyX1 tyX1_ok nmX1 hown hG hw hN rfl 10 (by decide) (hts (.fieldLink RX1 23 "TongueHouse$Finder" "sentence" "[[B") (by decide +kernel)) (fun _ h9 => h9) rfl hin rfl rfl rfl (Nat.le_of_ble_eq_true rfl) dX1_init_35 (fun f1 H locs hw hN => ?_)
  have hN : pw_N h0 1 L f _ _ [.null, .int 0, .int 0, .ref q1, .int 0, .ref q2, .ref q3, .int 0, .int 0, .int 0, .ref q4, .null, .null, .null, .int 0, .null, .null, .int 0, .null] [(q1, .inl (cy 1, 1536, .inl (fun _ => 0))), (q2, .inl (cy 1, 24, .inl (fun _ => 0))), (q3, .inl (cy 1, 24, .inl (fun _ => 0))), (q4, .inl (cy 6, 100, .inr (.inr (.inr (.inr (fun _ => none))))))] := hN
  refine lv_aload_n hx hb dX1_init_38 rfl (lv_at hl 0 rfl) ?_
  refine lv_bipush (v := 100) hx hb dX1_init_39 (by decide) ?_
  refine pw_cnewa (atype := .int) (t0 := 1) (cA := cy 1) (ty := .int) (N' := 100) (a0 := (100, .inl (fun _ => 0))) hx hb (hts (.arrayClass .int) (by decide +kernel)) rfl hG rfl (fun _ h => h) hw hN (fun _ => rfl) (by decide) (by decide) (Nat.le_of_ble_eq_true rfl) (Nat.le_of_ble_eq_true rfl) (Nat.le_of_ble_eq_true rfl) dX1_init_41 (fun q5 L1 f1 H hw hN => ?_)
  have hN : pw_N h0 1 L f _ _ [.null, .int 0, .int 0, .ref q1, .int 0, .ref q2, .ref q3, .int 0, .int 0, .int 0, .ref q4, .null, .null, .null, .int 0, .null, .null, .int 0, .null] [(q1, .inl (cy 1, 1536, .inl (fun _ => 0))), (q2, .inl (cy 1, 24, .inl (fun _ => 0))), (q3, .inl (cy 1, 24, .inl (fun _ => 0))), (q4, .inl (cy 6, 100, .inr (.inr (.inr (.inr (fun _ => none)))))), (q5, .inl (cy 1, 100, .inl (fun _ => 0)))] := hN
  refine pw_cputF (ci := 1) (v := .ref q5) (C := RX1) (T := TX1) (N := 19) hx hb hts hi1 tyX1 tyX1_ok nmX1 hown hG hw hN rfl 11 (by decide) (hts (.fieldLink RX1 27 "TongueHouse$Finder" "sentenceTongue" "[I") (by decide +kernel)) (fun _ h9 => h9) rfl hin rfl rfl rfl (Nat.le_of_ble_eq_true rfl) dX1_init_43 (fun f1 H locs hw hN => ?_)
  have hN : pw_N h0 1 L f _ _ [.null, .int 0, .int 0, .ref q1, .int 0, .ref q2, .ref q3, .int 0, .int 0, .int 0, .ref q4, .ref q5, .null, .null, .int 0, .null, .null, .int 0, .null] [(q1, .inl (cy 1, 1536, .inl (fun _ => 0))), (q2, .inl (cy 1, 24, .inl (fun _ => 0))), (q3, .inl (cy 1, 24, .inl (fun _ => 0))), (q4, .inl (cy 6, 100, .inr (.inr (.inr (.inr (fun _ => none)))))), (q5, .inl (cy 1, 100, .inl (fun _ => 0)))] := hN
  refine lv_aload_n hx hb dX1_init_46 rfl (lv_at hl 0 rfl) ?_
  refine pw_cnew (cj := 9) (C := RX9) (T := TX9) (N := 10) (gs := [.null, .int 0, .null, .null, .int 0, .int 0, .int 0, .int 0, .int 0, .long 0]) hx hb hts hi9 tyX9 tyX9_ok hown (hts (.classLink RX1 30 RX9) (by decide +kernel)) (hts (.instantiable RX9 10) (by decide +kernel)) (hts (.initialized RX9) (by decide +kernel)) hG hw hN rfl bl_X9 (Nat.le_of_ble_eq_true rfl) (Nat.le_of_ble_eq_true rfl) dX1_init_47 (fun q6 L1 f1 H hw hN hq hqe => ?_)
  refine lv_dup hx hb dX1_init_50 rfl ?_
  refine pw_callv hw (va_runIN (host := RX12) (As := []) (rest := [.ref q6, .ref h0]) ⟨hx, hb, hml, hown, hts⟩ (c_X9_init l D cy q6 H.size _ _ hq hqe) ⟨va_cnB 0 hts gX1_init_X9_init_n32 rfl rfl rfl hG.2.1.2.2.1 (hts (.initialized RX9) (by decide +kernel)) (by decide +kernel) ⟨Nat.le_of_ble_eq_true rfl, Nat.le_of_ble_eq_true rfl⟩, rfl, hts (.instanceMethod yX9_init) (by decide +kernel)⟩ (pw_pre hG hw) rfl rfl hl.1 rfl (lv_room (Nat.le_of_ble_eq_true rfl)) dX1_init_51 ⟨Nat.le_of_ble_eq_true rfl, Nat.le_of_ble_eq_true rfl⟩) (fun L1 f1 H locs hw hS => ?_)
  obtain ⟨q7, q8, q9, h2⟩ := hS
  have hN := hN.call h2 (pw_nd hw)
  have hN : pw_N h0 1 L f _ _ [.null, .int 0, .int 0, .ref q1, .int 0, .ref q2, .ref q3, .int 0, .int 0, .int 0, .ref q4, .ref q5, .null, .null, .int 0, .null, .null, .int 0, .null] [(q1, .inl (cy 1, 1536, .inl (fun _ => 0))), (q2, .inl (cy 1, 24, .inl (fun _ => 0))), (q3, .inl (cy 1, 24, .inl (fun _ => 0))), (q4, .inl (cy 6, 100, .inr (.inr (.inr (.inr (fun _ => none)))))), (q5, .inl (cy 1, 100, .inl (fun _ => 0))), (q6, .inr (9, [.ref q7, .int 0, .ref q8, .ref q9, .int 0, .int 0, .int 0, .int 0, .int 0, .long 0])), (q7, .inl (cy 0, 1000, .inl (fun _ => 0))), (q8, .inl (cy 1, 24, .inl (fun _ => 0))), (q9, .inl (cy 1, 24, .inl (fun _ => 0)))] := hN
  refine pw_cputF (ci := 1) (v := .ref q6) (C := RX1) (T := TX1) (N := 19) hx hb hts hi1 tyX1 tyX1_ok nmX1 hown hG hw hN rfl 12 (by decide) (hts (.fieldLink RX1 33 "TongueHouse$Finder" "words" "LTongueHouse$Text;") (by decide +kernel)) (fun _ h9 => h9) rfl hin rfl rfl rfl (Nat.le_of_ble_eq_true rfl) dX1_init_54 (fun f1 H locs hw hN => ?_)
  have hN : pw_N h0 1 L f _ _ [.null, .int 0, .int 0, .ref q1, .int 0, .ref q2, .ref q3, .int 0, .int 0, .int 0, .ref q4, .ref q5, .ref q6, .null, .int 0, .null, .null, .int 0, .null] [(q1, .inl (cy 1, 1536, .inl (fun _ => 0))), (q2, .inl (cy 1, 24, .inl (fun _ => 0))), (q3, .inl (cy 1, 24, .inl (fun _ => 0))), (q4, .inl (cy 6, 100, .inr (.inr (.inr (.inr (fun _ => none)))))), (q5, .inl (cy 1, 100, .inl (fun _ => 0))), (q6, .inr (9, [.ref q7, .int 0, .ref q8, .ref q9, .int 0, .int 0, .int 0, .int 0, .int 0, .long 0])), (q7, .inl (cy 0, 1000, .inl (fun _ => 0))), (q8, .inl (cy 1, 24, .inl (fun _ => 0))), (q9, .inl (cy 1, 24, .inl (fun _ => 0)))] := hN
  refine lv_aload_n hx hb dX1_init_57 rfl (lv_at hl 0 rfl) ?_
  refine lv_bipush (v := 24) hx hb dX1_init_58 (by decide) ?_
  refine pw_cnewa (atype := .int) (t0 := 1) (cA := cy 1) (ty := .int) (N' := 24) (a0 := (24, .inl (fun _ => 0))) hx hb (hts (.arrayClass .int) (by decide +kernel)) rfl hG rfl (fun _ h => h) hw hN (fun _ => rfl) (by decide) (by decide) (Nat.le_of_ble_eq_true rfl) (Nat.le_of_ble_eq_true rfl) (Nat.le_of_ble_eq_true rfl) dX1_init_60 (fun q10 L1 f1 H hw hN => ?_)
  have hN : pw_N h0 1 L f _ _ [.null, .int 0, .int 0, .ref q1, .int 0, .ref q2, .ref q3, .int 0, .int 0, .int 0, .ref q4, .ref q5, .ref q6, .null, .int 0, .null, .null, .int 0, .null] [(q1, .inl (cy 1, 1536, .inl (fun _ => 0))), (q2, .inl (cy 1, 24, .inl (fun _ => 0))), (q3, .inl (cy 1, 24, .inl (fun _ => 0))), (q4, .inl (cy 6, 100, .inr (.inr (.inr (.inr (fun _ => none)))))), (q5, .inl (cy 1, 100, .inl (fun _ => 0))), (q6, .inr (9, [.ref q7, .int 0, .ref q8, .ref q9, .int 0, .int 0, .int 0, .int 0, .int 0, .long 0])), (q7, .inl (cy 0, 1000, .inl (fun _ => 0))), (q8, .inl (cy 1, 24, .inl (fun _ => 0))), (q9, .inl (cy 1, 24, .inl (fun _ => 0))), (q10, .inl (cy 1, 24, .inl (fun _ => 0)))] := hN
  refine pw_cputF (ci := 1) (v := .ref q10) (C := RX1) (T := TX1) (N := 19) hx hb hts hi1 tyX1 tyX1_ok nmX1 hown hG hw hN rfl 13 (by decide) (hts (.fieldLink RX1 37 "TongueHouse$Finder" "wordKinds" "[I") (by decide +kernel)) (fun _ h9 => h9) rfl hin rfl rfl rfl (Nat.le_of_ble_eq_true rfl) dX1_init_62 (fun f1 H locs hw hN => ?_)
  have hN : pw_N h0 1 L f _ _ [.null, .int 0, .int 0, .ref q1, .int 0, .ref q2, .ref q3, .int 0, .int 0, .int 0, .ref q4, .ref q5, .ref q6, .ref q10, .int 0, .null, .null, .int 0, .null] [(q1, .inl (cy 1, 1536, .inl (fun _ => 0))), (q2, .inl (cy 1, 24, .inl (fun _ => 0))), (q3, .inl (cy 1, 24, .inl (fun _ => 0))), (q4, .inl (cy 6, 100, .inr (.inr (.inr (.inr (fun _ => none)))))), (q5, .inl (cy 1, 100, .inl (fun _ => 0))), (q6, .inr (9, [.ref q7, .int 0, .ref q8, .ref q9, .int 0, .int 0, .int 0, .int 0, .int 0, .long 0])), (q7, .inl (cy 0, 1000, .inl (fun _ => 0))), (q8, .inl (cy 1, 24, .inl (fun _ => 0))), (q9, .inl (cy 1, 24, .inl (fun _ => 0))), (q10, .inl (cy 1, 24, .inl (fun _ => 0)))] := hN
  refine lv_aload_n hx hb dX1_init_65 rfl (lv_at hl 0 rfl) ?_
  refine lv_sipush (v := 2400) hx hb dX1_init_66 (by decide) ?_
  refine pw_cnewa (atype := .int) (t0 := 1) (cA := cy 1) (ty := .int) (N' := 2400) (a0 := (2400, .inl (fun _ => 0))) hx hb (hts (.arrayClass .int) (by decide +kernel)) rfl hG rfl (fun _ h => h) hw hN (fun _ => rfl) (by decide) (by decide) (Nat.le_of_ble_eq_true rfl) (Nat.le_of_ble_eq_true rfl) (Nat.le_of_ble_eq_true rfl) dX1_init_69 (fun q11 L1 f1 H hw hN => ?_)
  have hN : pw_N h0 1 L f _ _ [.null, .int 0, .int 0, .ref q1, .int 0, .ref q2, .ref q3, .int 0, .int 0, .int 0, .ref q4, .ref q5, .ref q6, .ref q10, .int 0, .null, .null, .int 0, .null] [(q1, .inl (cy 1, 1536, .inl (fun _ => 0))), (q2, .inl (cy 1, 24, .inl (fun _ => 0))), (q3, .inl (cy 1, 24, .inl (fun _ => 0))), (q4, .inl (cy 6, 100, .inr (.inr (.inr (.inr (fun _ => none)))))), (q5, .inl (cy 1, 100, .inl (fun _ => 0))), (q6, .inr (9, [.ref q7, .int 0, .ref q8, .ref q9, .int 0, .int 0, .int 0, .int 0, .int 0, .long 0])), (q7, .inl (cy 0, 1000, .inl (fun _ => 0))), (q8, .inl (cy 1, 24, .inl (fun _ => 0))), (q9, .inl (cy 1, 24, .inl (fun _ => 0))), (q10, .inl (cy 1, 24, .inl (fun _ => 0))), (q11, .inl (cy 1, 2400, .inl (fun _ => 0)))] := hN
  refine pw_cputF (ci := 1) (v := .ref q11) (C := RX1) (T := TX1) (N := 19) hx hb hts hi1 tyX1 tyX1_ok nmX1 hown hG hw hN rfl 15 (by decide) (hts (.fieldLink RX1 40 "TongueHouse$Finder" "hitSentence" "[I") (by decide +kernel)) (fun _ h9 => h9) rfl hin rfl rfl rfl (Nat.le_of_ble_eq_true rfl) dX1_init_71 (fun f1 H locs hw hN => ?_)
  have hN : pw_N h0 1 L f _ _ [.null, .int 0, .int 0, .ref q1, .int 0, .ref q2, .ref q3, .int 0, .int 0, .int 0, .ref q4, .ref q5, .ref q6, .ref q10, .int 0, .ref q11, .null, .int 0, .null] [(q1, .inl (cy 1, 1536, .inl (fun _ => 0))), (q2, .inl (cy 1, 24, .inl (fun _ => 0))), (q3, .inl (cy 1, 24, .inl (fun _ => 0))), (q4, .inl (cy 6, 100, .inr (.inr (.inr (.inr (fun _ => none)))))), (q5, .inl (cy 1, 100, .inl (fun _ => 0))), (q6, .inr (9, [.ref q7, .int 0, .ref q8, .ref q9, .int 0, .int 0, .int 0, .int 0, .int 0, .long 0])), (q7, .inl (cy 0, 1000, .inl (fun _ => 0))), (q8, .inl (cy 1, 24, .inl (fun _ => 0))), (q9, .inl (cy 1, 24, .inl (fun _ => 0))), (q10, .inl (cy 1, 24, .inl (fun _ => 0))), (q11, .inl (cy 1, 2400, .inl (fun _ => 0)))] := hN
  refine lv_aload_n hx hb dX1_init_74 rfl (lv_at hl 0 rfl) ?_
  refine lv_sipush (v := 2400) hx hb dX1_init_75 (by decide) ?_
  refine pw_cnewa (atype := .int) (t0 := 1) (cA := cy 1) (ty := .int) (N' := 2400) (a0 := (2400, .inl (fun _ => 0))) hx hb (hts (.arrayClass .int) (by decide +kernel)) rfl hG rfl (fun _ h => h) hw hN (fun _ => rfl) (by decide) (by decide) (Nat.le_of_ble_eq_true rfl) (Nat.le_of_ble_eq_true rfl) (Nat.le_of_ble_eq_true rfl) dX1_init_78 (fun q12 L1 f1 H hw hN => ?_)
  have hN : pw_N h0 1 L f _ _ [.null, .int 0, .int 0, .ref q1, .int 0, .ref q2, .ref q3, .int 0, .int 0, .int 0, .ref q4, .ref q5, .ref q6, .ref q10, .int 0, .ref q11, .null, .int 0, .null] [(q1, .inl (cy 1, 1536, .inl (fun _ => 0))), (q2, .inl (cy 1, 24, .inl (fun _ => 0))), (q3, .inl (cy 1, 24, .inl (fun _ => 0))), (q4, .inl (cy 6, 100, .inr (.inr (.inr (.inr (fun _ => none)))))), (q5, .inl (cy 1, 100, .inl (fun _ => 0))), (q6, .inr (9, [.ref q7, .int 0, .ref q8, .ref q9, .int 0, .int 0, .int 0, .int 0, .int 0, .long 0])), (q7, .inl (cy 0, 1000, .inl (fun _ => 0))), (q8, .inl (cy 1, 24, .inl (fun _ => 0))), (q9, .inl (cy 1, 24, .inl (fun _ => 0))), (q10, .inl (cy 1, 24, .inl (fun _ => 0))), (q11, .inl (cy 1, 2400, .inl (fun _ => 0))), (q12, .inl (cy 1, 2400, .inl (fun _ => 0)))] := hN
  refine pw_cputF (ci := 1) (v := .ref q12) (C := RX1) (T := TX1) (N := 19) hx hb hts hi1 tyX1 tyX1_ok nmX1 hown hG hw hN rfl 16 (by decide) (hts (.fieldLink RX1 43 "TongueHouse$Finder" "hitWord" "[I") (by decide +kernel)) (fun _ h9 => h9) rfl hin rfl rfl rfl (Nat.le_of_ble_eq_true rfl) dX1_init_80 (fun f1 H locs hw hN => ?_)
  have hN : pw_N h0 1 L f _ _ [.null, .int 0, .int 0, .ref q1, .int 0, .ref q2, .ref q3, .int 0, .int 0, .int 0, .ref q4, .ref q5, .ref q6, .ref q10, .int 0, .ref q11, .ref q12, .int 0, .null] [(q1, .inl (cy 1, 1536, .inl (fun _ => 0))), (q2, .inl (cy 1, 24, .inl (fun _ => 0))), (q3, .inl (cy 1, 24, .inl (fun _ => 0))), (q4, .inl (cy 6, 100, .inr (.inr (.inr (.inr (fun _ => none)))))), (q5, .inl (cy 1, 100, .inl (fun _ => 0))), (q6, .inr (9, [.ref q7, .int 0, .ref q8, .ref q9, .int 0, .int 0, .int 0, .int 0, .int 0, .long 0])), (q7, .inl (cy 0, 1000, .inl (fun _ => 0))), (q8, .inl (cy 1, 24, .inl (fun _ => 0))), (q9, .inl (cy 1, 24, .inl (fun _ => 0))), (q10, .inl (cy 1, 24, .inl (fun _ => 0))), (q11, .inl (cy 1, 2400, .inl (fun _ => 0))), (q12, .inl (cy 1, 2400, .inl (fun _ => 0)))] := hN
  refine lv_aload_n hx hb dX1_init_83 rfl (lv_at hl 0 rfl) ?_
  refine lv_bipush (v := 24) hx hb dX1_init_84 (by decide) ?_
  refine pw_cnewa (atype := .int) (t0 := 1) (cA := cy 1) (ty := .int) (N' := 24) (a0 := (24, .inl (fun _ => 0))) hx hb (hts (.arrayClass .int) (by decide +kernel)) rfl hG rfl (fun _ h => h) hw hN (fun _ => rfl) (by decide) (by decide) (Nat.le_of_ble_eq_true rfl) (Nat.le_of_ble_eq_true rfl) (Nat.le_of_ble_eq_true rfl) dX1_init_86 (fun q13 L1 f1 H hw hN => ?_)
  have hN : pw_N h0 1 L f _ _ [.null, .int 0, .int 0, .ref q1, .int 0, .ref q2, .ref q3, .int 0, .int 0, .int 0, .ref q4, .ref q5, .ref q6, .ref q10, .int 0, .ref q11, .ref q12, .int 0, .null] [(q1, .inl (cy 1, 1536, .inl (fun _ => 0))), (q2, .inl (cy 1, 24, .inl (fun _ => 0))), (q3, .inl (cy 1, 24, .inl (fun _ => 0))), (q4, .inl (cy 6, 100, .inr (.inr (.inr (.inr (fun _ => none)))))), (q5, .inl (cy 1, 100, .inl (fun _ => 0))), (q6, .inr (9, [.ref q7, .int 0, .ref q8, .ref q9, .int 0, .int 0, .int 0, .int 0, .int 0, .long 0])), (q7, .inl (cy 0, 1000, .inl (fun _ => 0))), (q8, .inl (cy 1, 24, .inl (fun _ => 0))), (q9, .inl (cy 1, 24, .inl (fun _ => 0))), (q10, .inl (cy 1, 24, .inl (fun _ => 0))), (q11, .inl (cy 1, 2400, .inl (fun _ => 0))), (q12, .inl (cy 1, 2400, .inl (fun _ => 0))), (q13, .inl (cy 1, 24, .inl (fun _ => 0)))] := hN
  refine pw_cputF (ci := 1) (v := .ref q13) (C := RX1) (T := TX1) (N := 19) hx hb hts hi1 tyX1 tyX1_ok nmX1 hown hG hw hN rfl 18 (by decide) (hts (.fieldLink RX1 46 "TongueHouse$Finder" "question" "[I") (by decide +kernel)) (fun _ h9 => h9) rfl hin rfl rfl rfl (Nat.le_of_ble_eq_true rfl) dX1_init_88 (fun f1 H locs hw hN => ?_)
  have hN : pw_N h0 1 L f _ _ [.null, .int 0, .int 0, .ref q1, .int 0, .ref q2, .ref q3, .int 0, .int 0, .int 0, .ref q4, .ref q5, .ref q6, .ref q10, .int 0, .ref q11, .ref q12, .int 0, .ref q13] [(q1, .inl (cy 1, 1536, .inl (fun _ => 0))), (q2, .inl (cy 1, 24, .inl (fun _ => 0))), (q3, .inl (cy 1, 24, .inl (fun _ => 0))), (q4, .inl (cy 6, 100, .inr (.inr (.inr (.inr (fun _ => none)))))), (q5, .inl (cy 1, 100, .inl (fun _ => 0))), (q6, .inr (9, [.ref q7, .int 0, .ref q8, .ref q9, .int 0, .int 0, .int 0, .int 0, .int 0, .long 0])), (q7, .inl (cy 0, 1000, .inl (fun _ => 0))), (q8, .inl (cy 1, 24, .inl (fun _ => 0))), (q9, .inl (cy 1, 24, .inl (fun _ => 0))), (q10, .inl (cy 1, 24, .inl (fun _ => 0))), (q11, .inl (cy 1, 2400, .inl (fun _ => 0))), (q12, .inl (cy 1, 2400, .inl (fun _ => 0))), (q13, .inl (cy 1, 24, .inl (fun _ => 0)))] := hN
  refine lv_aload_n hx hb dX1_init_91 rfl (lv_at hl 0 rfl) ?_
  refine lv_aload_n hx hb dX1_init_92 rfl (lv_at hl 1 rfl) ?_
  refine pw_cputF (ci := 1) (v := .ref p1) (C := RX1) (T := TX1) (N := 19) hx hb hts hi1 tyX1 tyX1_ok nmX1 hown hG hw hN rfl 0 (by decide) (hts (.fieldLink RX1 49 "TongueHouse$Finder" "store" "LTongueHouse$Store;") (by decide +kernel)) (fun _ h9 => h9) rfl hin rfl rfl rfl (Nat.le_of_ble_eq_true rfl) dX1_init_93 (fun f1 H locs hw hN => ?_)
  have hN : pw_N h0 1 L f _ _ [.ref p1, .int 0, .int 0, .ref q1, .int 0, .ref q2, .ref q3, .int 0, .int 0, .int 0, .ref q4, .ref q5, .ref q6, .ref q10, .int 0, .ref q11, .ref q12, .int 0, .ref q13] [(q1, .inl (cy 1, 1536, .inl (fun _ => 0))), (q2, .inl (cy 1, 24, .inl (fun _ => 0))), (q3, .inl (cy 1, 24, .inl (fun _ => 0))), (q4, .inl (cy 6, 100, .inr (.inr (.inr (.inr (fun _ => none)))))), (q5, .inl (cy 1, 100, .inl (fun _ => 0))), (q6, .inr (9, [.ref q7, .int 0, .ref q8, .ref q9, .int 0, .int 0, .int 0, .int 0, .int 0, .long 0])), (q7, .inl (cy 0, 1000, .inl (fun _ => 0))), (q8, .inl (cy 1, 24, .inl (fun _ => 0))), (q9, .inl (cy 1, 24, .inl (fun _ => 0))), (q10, .inl (cy 1, 24, .inl (fun _ => 0))), (q11, .inl (cy 1, 2400, .inl (fun _ => 0))), (q12, .inl (cy 1, 2400, .inl (fun _ => 0))), (q13, .inl (cy 1, 24, .inl (fun _ => 0)))] := hN
  refine W.widen (k := 13) (n := 7690) (Nat.le_of_ble_eq_true rfl) (Nat.le_of_ble_eq_true rfl) ?_
  exact pw_vret hx hb hr hlocks hsz hw ⟨q1, q2, q3, q4, q5, q6, q7, q8, q9, q10, q11, q12, q13, hN⟩ dX1_init_96
end
section
theorem bl_X12 : ∀ j, j < 17 → defaultValue (tyX12 j) = vp_V [.null, .null, .null, .null, .null, .null, .null, .null, .null, .null, .null, .null, .null, .null, .null, .int 0, .null] j := by decide +kernel
set_option maxHeartbeats 4000000 in
set_option maxRecDepth 100000 in
/-- TongueHouse(..): 143 cells come -/
theorem c_X12_init (l : Launch) (D : va_G) (cy : Nat → ClassId) (h0 sz : Nat) (L : List Nat) (f : Nat → va_E) (ha : h0 ∈ L) (he : f h0 = .inr (12, [.null, .null, .null, .null, .null, .null, .null, .null, .null, .null, .null, .null, .null, .null, .null, .int 0, .null])) : Met l yX12_init wsX12_init ({ frames := 3, cells := 143, slots := 318342, locals := 53 }) (pw_Pc D cy [.ref h0] sz L f) (va_Qv (fun u : List Nat × (Nat → va_E) => ∃ q1 q2 q3 q4 q5 q6 q7 q8 q9 q10 q11 q12 q13 q14 q15 q16 q17 q18 q19 q20 q21 q22 q23 q24 q25 q26 q27 q28 q29 q30 q31 q32 q33 q34 q35 q36 q37 q38 q39 q40 q41 q42 q43 q44 q45 q46 q47 q48 q49 q50 q51 q52 q53 q54 q55 q56 q57 q58 q59 q60 q61 q62 q63 q64 q65 q66 q67 q68 q69 q70 q71 q72 q73 q74 q75 q76 q77 q78 q79 q80 q81 q82 q83 q84 q85 q86 q87 q88 q89 q90 q91 q92 q93 q94 q95 q96 q97 q98 q99 q100 q101 q102 q103 q104 q105 q106 q107 q108 q109 q110 q111 q112 q113 q114 q115 q116 q117 q118 : Nat, pw_N h0 12 L f u.1 u.2 [.ref q1, .ref q23, .ref q27, .ref q31, .ref q35, .ref q39, .ref q48, .ref q61, .ref q74, .ref q86, .ref q100, .ref q114, .ref q115, .ref q116, .ref q117, .int 0, .ref q118] ((((((((((((((((((((((((((([] ++ [(q1, .inr (8, [.ref q2, .ref q4, .ref q6, .ref q8, .ref q10, .int (-1), .ref q11, .ref q12, .ref q13, .ref q14, .ref q15, .ref q16, .ref q17, .int 0, .ref q18, .ref q19, .ref q20, .int 0, .int 0, .ref q21, .ref q22]))]) ++ [(q2, .inr (4, [.ref q3, .int 0])), (q3, .inl (cy 2, 32, .inr (.inl (fun _ => 0)))), (q4, .inr (4, [.ref q5, .int 0])), (q5, .inl (cy 2, 96, .inr (.inl (fun _ => 0)))), (q6, .inr (4, [.ref q7, .int 0])), (q7, .inl (cy 2, 8, .inr (.inl (fun _ => 0)))), (q8, .inr (4, [.ref q9, .int 0])), (q9, .inl (cy 2, 8, .inr (.inl (fun _ => 0)))), (q10, .inl (cy 5, 8, .inr (.inr (.inr (.inr (fun _ => none)))))), (q11, .inl (cy 1, 96, .inl (fun _ => 0))), (q12, .inl (cy 1, 96, .inl (fun _ => 0))), (q13, .inl (cy 1, 384, .inl (fun _ => 0))), (q14, .inl (cy 1, 96, .inl (fun _ => 0))), (q15, .inl (cy 1, 96, .inl (fun _ => 0))), (q16, .inl (cy 1, 3840, .inl (fun _ => 0))), (q17, .inl (cy 2, 3840, .inr (.inl (fun _ => 0)))), (q18, .inl (cy 2, 64, .inr (.inl (fun _ => 0)))), (q19, .inl (cy 1, 128, .inl (fun _ => 0))), (q20, .inl (cy 0, 12000, .inl (fun _ => 0))), (q21, .inl (cy 1, 159, .inl (fun _ => 0))), (q22, .inl (cy 1, 60, .inl (fun _ => 0)))]) ++ [(q23, .inr (9, [.ref q24, .int 0, .ref q25, .ref q26, .int 0, .int 0, .int 0, .int 0, .int 0, .long 0]))]) ++ [(q24, .inl (cy 0, 1000, .inl (fun _ => 0))), (q25, .inl (cy 1, 24, .inl (fun _ => 0))), (q26, .inl (cy 1, 24, .inl (fun _ => 0)))]) ++ [(q27, .inr (9, [.ref q28, .int 0, .ref q29, .ref q30, .int 0, .int 0, .int 0, .int 0, .int 0, .long 0]))]) ++ [(q28, .inl (cy 0, 1000, .inl (fun _ => 0))), (q29, .inl (cy 1, 24, .inl (fun _ => 0))), (q30, .inl (cy 1, 24, .inl (fun _ => 0)))]) ++ [(q31, .inr (9, [.ref q32, .int 0, .ref q33, .ref q34, .int 0, .int 0, .int 0, .int 0, .int 0, .long 0]))]) ++ [(q32, .inl (cy 0, 1000, .inl (fun _ => 0))), (q33, .inl (cy 1, 24, .inl (fun _ => 0))), (q34, .inl (cy 1, 24, .inl (fun _ => 0)))]) ++ [(q35, .inr (9, [.ref q36, .int 0, .ref q37, .ref q38, .int 0, .int 0, .int 0, .int 0, .int 0, .long 0]))]) ++ [(q36, .inl (cy 0, 1000, .inl (fun _ => 0))), (q37, .inl (cy 1, 24, .inl (fun _ => 0))), (q38, .inl (cy 1, 24, .inl (fun _ => 0)))]) ++ [(q39, .inr (6, [.ref q1, .ref q23, .null, .int 0, .int 0, .int 0, .int 0, .int 0, .int 0, .ref q40, .ref q41, .ref q42, .int 0, .ref q43, .ref q44, .int 0, .ref q45, .ref q46, .ref q47]))]) ++ [(q40, .inl (cy 1, 72, .inl (fun _ => 0))), (q41, .inl (cy 1, 25, .inl (fun _ => 0))), (q42, .inl (cy 2, 6, .inr (.inl (fun _ => 0)))), (q43, .inl (cy 1, 40, .inl (fun _ => 0))), (q44, .inl (cy 2, 40, .inr (.inl (fun _ => 0)))), (q45, .inl (cy 2, 41, .inr (.inl (fun _ => 0)))), (q46, .inl (cy 1, 60, .inl (fun _ => 0))), (q47, .inl (cy 1, 60, .inl (fun _ => 0)))]) ++ [(q48, .inr (0, [.ref q1, .ref q49, .ref q50, .int 0, .ref q51, .ref q52, .int 0, .ref q53, .ref q54, .ref q55, .int 0, .int 0, .int 0, .null, .null, .ref q56, .ref q57, .int 0, .int 0, .ref q58, .ref q59, .ref q60]))]) ++ [(q49, .inl (cy 1, 18432, .inl (fun _ => 0))), (q50, .inl (cy 1, 18432, .inl (fun _ => 0))), (q51, .inl (cy 1, 3000, .inl (fun _ => 0))), (q52, .inl (cy 1, 3000, .inl (fun _ => 0))), (q53, .inl (cy 1, 9000, .inl (fun _ => 0))), (q54, .inl (cy 1, 9000, .inl (fun _ => 0))), (q55, .inl (cy 1, 36000, .inl (fun _ => 0))), (q56, .inl (cy 1, 33, .inl (fun _ => 0))), (q57, .inl (cy 1, 384, .inl (fun _ => 0))), (q58, .inl (cy 1, 4, .inl (fun _ => 0))), (q59, .inl (cy 1, 4, .inl (fun _ => 0))), (q60, .inl (cy 1, 4, .inl (fun _ => 0)))]) ++ [(q61, .inr (5, [.ref q1, .ref q48, .null, .int 0, .int 0, .ref q62, .ref q63, .ref q64, .int 0, .ref q65, .ref q66, .ref q67, .ref q68, .ref q69, .ref q70, .int 0, .ref q71, .ref q72, .ref q73]))]) ++ [(q62, .inl (cy 3, 96, .inl (fun _ => 0))), (q63, .inl (cy 2, 3000, .inr (.inl (fun _ => 0)))), (q64, .inl (cy 3, 3000, .inl (fun _ => 0))), (q65, .inl (cy 1, 9000, .inl (fun _ => 0))), (q66, .inl (cy 1, 9000, .inl (fun _ => 0))), (q67, .inl (cy 1, 3000, .inl (fun _ => 0))), (q68, .inl (cy 1, 48000, .inl (fun _ => 0))), (q69, .inl (cy 1, 48000, .inl (fun _ => 0))), (q70, .inl (cy 1, 48000, .inl (fun _ => 0))), (q71, .inl (cy 1, 16, .inl (fun _ => 0))), (q72, .inl (cy 1, 16, .inl (fun _ => 0))), (q73, .inl (cy 1, 244, .inl (fun _ => 0)))]) ++ [(q74, .inr (7, [.ref q1, .null, .ref q75, .ref q76, .ref q77, .ref q78, .ref q79, .ref q80, .ref q81, .int 0, .ref q82, .ref q83, .ref q84, .ref q85]))]) ++ [(q75, .inl (cy 1, 240, .inl (fun _ => 0))), (q76, .inl (cy 1, 60, .inl (fun _ => 0))), (q77, .inl (cy 1, 1440, .inl (fun _ => 0))), (q78, .inl (cy 1, 1440, .inl (fun _ => 0))), (q79, .inl (cy 1, 1440, .inl (fun _ => 0))), (q80, .inl (cy 1, 1440, .inl (fun _ => 0))), (q81, .inl (cy 1, 1440, .inl (fun _ => 0))), (q82, .inl (cy 1, 4, .inl (fun _ => 0))), (q83, .inl (cy 1, 4, .inl (fun _ => 0))), (q84, .inl (cy 1, 60, .inl (fun _ => 0))), (q85, .inl (cy 1, 60, .inl (fun _ => 0)))]) ++ [(q86, .inr (10, [.ref q1, .int 0, .ref q87, .ref q88, .ref q89, .ref q90, .ref q91, .ref q92, .ref q93, .int 0, .ref q94, .ref q95, .ref q96, .ref q97, .ref q98, .ref q99, .int 0, .int 0, .int 0]))]) ++ [(q87, .inl (cy 1, 300, .inl (fun _ => 0))), (q88, .inl (cy 2, 300, .inr (.inl (fun _ => 0)))), (q89, .inl (cy 1, 300, .inl (fun _ => 0))), (q90, .inl (cy 2, 300, .inr (.inl (fun _ => 0)))), (q91, .inl (cy 1, 240, .inl (fun _ => 0))), (q92, .inl (cy 1, 300, .inl (fun _ => 0))), (q93, .inl (cy 1, 300, .inl (fun _ => 0))), (q94, .inl (cy 2, 300, .inr (.inl (fun _ => 0)))), (q95, .inl (cy 1, 300, .inl (fun _ => 0))), (q96, .inl (cy 1, 300, .inl (fun _ => 0))), (q97, .inl (cy 1, 300, .inl (fun _ => 0))), (q98, .inl (cy 1, 300, .inl (fun _ => 0))), (q99, .inl (cy 1, 301, .inl (fun _ => 0)))]) ++ [(q100, .inr (1, [.ref q1, .int 0, .int 0, .ref q101, .int 0, .ref q102, .ref q103, .int 0, .int 0, .int 0, .ref q104, .ref q105, .ref q106, .ref q110, .int 0, .ref q111, .ref q112, .int 0, .ref q113]))]) ++ [(q101, .inl (cy 1, 1536, .inl (fun _ => 0))), (q102, .inl (cy 1, 24, .inl (fun _ => 0))), (q103, .inl (cy 1, 24, .inl (fun _ => 0))), (q104, .inl (cy 6, 100, .inr (.inr (.inr (.inr (fun _ => none)))))), (q105, .inl (cy 1, 100, .inl (fun _ => 0))), (q106, .inr (9, [.ref q107, .int 0, .ref q108, .ref q109, .int 0, .int 0, .int 0, .int 0, .int 0, .long 0])), (q107, .inl (cy 0, 1000, .inl (fun _ => 0))), (q108, .inl (cy 1, 24, .inl (fun _ => 0))), (q109, .inl (cy 1, 24, .inl (fun _ => 0))), (q110, .inl (cy 1, 24, .inl (fun _ => 0))), (q111, .inl (cy 1, 2400, .inl (fun _ => 0))), (q112, .inl (cy 1, 2400, .inl (fun _ => 0))), (q113, .inl (cy 1, 24, .inl (fun _ => 0)))]) ++ ((q114, .inl (cy 7, 9, .inr (.inr (.inr (.inr (fun j => if j < 9 then some (q114 + 1 + j) else none)))))) :: (List.range 9).map (fun j => (q114 + 1 + j, .inl (cy 1, 60, .inl (fun _ => 0)))))) ++ [(q115, .inl (cy 1, 9, .inl (fun _ => 0)))]) ++ ((q116, .inl (cy 6, 16, .inr (.inr (.inr (.inr (fun j => if j < 16 then some (q116 + 1 + j) else none)))))) :: (List.range 16).map (fun j => (q116 + 1 + j, .inl (cy 0, 200, .inl (fun _ => 0)))))) ++ [(q117, .inl (cy 1, 16, .inl (fun _ => 0)))]) ++ [(q118, .inl (cy 1, 1000, .inl (fun _ => 0)))])) (pw_B D (pw_A L f sz)) (pw_A L f sz)) 143 (318342) (pw_A L f sz) := by
  refine Met.ofW (cc := cX12_init) (maxL := 1) (ret := none) (by decide) rfl ?_
  intro p e s m args below meth c s₁ B hml hv
  obtain ⟨rfl, hsz, hG, hP, hD0⟩ := hv
  have hx := B.exec
  have hb := B.bytes
  have hr := B.returns
  have hts := atoms_spec (ws := wsX12_init) B.pre
  have hown : s.vm.findClass RX12 = some m.cls := findClass_of_methodNamed B.named
  have hlocks := B.notSynchronized
  have hin : meth.name = "<init>" := (name_of_methodNamed B.named B.method).1
  have hw := pw_start (cy := cy) hsz hP hD0
  have hN := pw_N.rf ha he
  have hl := lv_entry ([.ref h0]) (n := 1) (Nat.le_of_ble_eq_true rfl)
  rw [lg_entry_eq]
  generalize (lg_sl ([.ref h0]) ++ List.replicate (1 - (lg_sl ([.ref h0])).length) Slot.unset).toArray = ls at hl ⊢
  have hl : lv_has ls 1 [(0, .ref h0)] := hl
  have hi0 : ∀ w ∈ u_ws RX0 TX0 22, w ∈ wsX12_init := (fun _ h => List.mem_cons_of_mem _ (List.mem_append_left _ (List.mem_append_left _ (List.mem_append_left _ (List.mem_append_left _ (List.mem_append_left _ (List.mem_append_right _ h)))))))
  have hi1 : ∀ w ∈ u_ws RX1 TX1 19, w ∈ wsX12_init := (fun _ h => List.mem_cons_of_mem _ (List.mem_append_left _ (List.mem_append_right _ h)))
  have hi5 : ∀ w ∈ u_ws RX5 TX5 19, w ∈ wsX12_init := (fun _ h => List.mem_cons_of_mem _ (List.mem_append_left _ (List.mem_append_left _ (List.mem_append_left _ (List.mem_append_left _ (List.mem_append_right _ h))))))
  have hi6 : ∀ w ∈ u_ws RX6 TX6 19, w ∈ wsX12_init := (fun _ h => List.mem_cons_of_mem _ (List.mem_append_left _ (List.mem_append_left _ (List.mem_append_left _ (List.mem_append_left _ (List.mem_append_left _ (List.mem_append_left _ (List.mem_append_right _ h))))))))
  have hi7 : ∀ w ∈ u_ws RX7 TX7 14, w ∈ wsX12_init := (fun _ h => List.mem_cons_of_mem _ (List.mem_append_left _ (List.mem_append_left _ (List.mem_append_left _ (List.mem_append_right _ h)))))
  have hi8 : ∀ w ∈ u_ws RX8 TX8 21, w ∈ wsX12_init := (fun _ h => List.mem_cons_of_mem _ (List.mem_append_left _ (List.mem_append_left _ (List.mem_append_left _ (List.mem_append_left _ (List.mem_append_left _ (List.mem_append_left _ (List.mem_append_left _ (List.mem_append_left _ (List.mem_append_left _ (List.mem_append_right _ h)))))))))))
  have hi9 : ∀ w ∈ u_ws RX9 TX9 10, w ∈ wsX12_init := (fun _ h => List.mem_cons_of_mem _ (List.mem_append_left _ (List.mem_append_left _ (List.mem_append_left _ (List.mem_append_left _ (List.mem_append_left _ (List.mem_append_left _ (List.mem_append_left _ (List.mem_append_right _ h)))))))))
  have hi10 : ∀ w ∈ u_ws RX10 TX10 19, w ∈ wsX12_init := (fun _ h => List.mem_cons_of_mem _ (List.mem_append_left _ (List.mem_append_left _ (List.mem_append_right _ h))))
  have hi12 : ∀ w ∈ u_ws RX12 TX12 17, w ∈ wsX12_init := (fun _ h => List.mem_cons_of_mem _ (List.mem_append_left _ (List.mem_append_left _ (List.mem_append_left _ (List.mem_append_left _ (List.mem_append_left _ (List.mem_append_left _ (List.mem_append_left _ (List.mem_append_left _ (List.mem_append_right _ h))))))))))
  refine lv_aload_n hx hb dX12_init_0 rfl (lv_at hl 0 rfl) ?_
  refine W.objInit hx hb hown (hts (.methodLink RX12 3 objectInit) (by decide +kernel)) (hts (.instanceMethod objectInit) (by decide +kernel)) (hts _ (show Cond.code objectInit ⟨#[0xb1]⟩ 1 none ∈ wsX12_init by decide +kernel)) rfl (by rw [hml]; exact hl.1) rfl dX12_init_1 (Nat.le_of_ble_eq_true rfl) (Nat.le_of_ble_eq_true rfl) ?_
  refine W.eq (g2 := F0 m 4 ls []) rfl ?_
  refine lv_aload_n hx hb dX12_init_4 rfl (lv_at hl 0 rfl) ?_
  refine pw_cnew (cj := 8) (C := RX8) (T := TX8) (N := 21) (gs := [.null, .null, .null, .null, .null, .int 0, .null, .null, .null, .null, .null, .null, .null, .int 0, .null, .null, .null, .int 0, .int 0, .null, .null]) hx hb hts hi8 tyX8 tyX8_ok hown (hts (.classLink RX12 9 RX8) (by decide +kernel)) (hts (.instantiable RX8 21) (by decide +kernel)) (hts (.initialized RX8) (by decide +kernel)) hG hw hN rfl bl_X8 (Nat.le_of_ble_eq_true rfl) (Nat.le_of_ble_eq_true rfl) dX12_init_5 (fun q1 L1 f1 H hw hN hq hqe => ?_)
  refine lv_dup hx hb dX12_init_8 rfl ?_
  refine pw_callv hw (va_runIN (host := RX12) (As := []) (rest := [.ref q1, .ref h0]) ⟨hx, hb, hml, hown, hts⟩ (c_X8_init l D cy q1 H.size _ _ hq hqe) ⟨va_cnB 0 hts gX12_init_X8_init_n11 rfl rfl rfl hG.2.1.1 (hts (.initialized RX8) (by decide +kernel)) (by decide +kernel) ⟨Nat.le_of_ble_eq_true rfl, Nat.le_of_ble_eq_true rfl⟩, rfl, hts (.instanceMethod yX8_init) (by decide +kernel)⟩ (pw_pre hG hw) rfl rfl hl.1 rfl (lv_room (Nat.le_of_ble_eq_true rfl)) dX12_init_9 ⟨Nat.le_of_ble_eq_true rfl, Nat.le_of_ble_eq_true rfl⟩) (fun L1 f1 H locs hw hS => ?_)
  obtain ⟨q2, q3, q4, q5, q6, q7, q8, q9, q10, q11, q12, q13, q14, q15, q16, q17, q18, q19, q20, q21, q22, h2⟩ := hS
  have hN := hN.call h2 (pw_nd hw)
  have hN : pw_N h0 12 L f _ _ [.null, .null, .null, .null, .null, .null, .null, .null, .null, .null, .null, .null, .null, .null, .null, .int 0, .null] _ := hN
  refine pw_cputF (ci := 12) (v := .ref q1) (C := RX12) (T := TX12) (N := 17) hx hb hts hi12 tyX12 tyX12_ok nmX12 hown hG hw hN rfl 0 (by decide) (hts (.fieldLink RX12 12 "TongueHouse" "store" "LTongueHouse$Store;") (by decide +kernel)) (fun _ h9 => h9) rfl hin rfl rfl rfl (Nat.le_of_ble_eq_true rfl) dX12_init_12 (fun f1 H locs hw hN => ?_)
  have hN : pw_N h0 12 L f _ _ [.ref q1, .null, .null, .null, .null, .null, .null, .null, .null, .null, .null, .null, .null, .null, .null, .int 0, .null] _ := hN
  refine lv_aload_n hx hb dX12_init_15 rfl (lv_at hl 0 rfl) ?_
  refine pw_cnew (cj := 9) (C := RX9) (T := TX9) (N := 10) (gs := [.null, .int 0, .null, .null, .int 0, .int 0, .int 0, .int 0, .int 0, .long 0]) hx hb hts hi9 tyX9 tyX9_ok hown (hts (.classLink RX12 16 RX9) (by decide +kernel)) (hts (.instantiable RX9 10) (by decide +kernel)) (hts (.initialized RX9) (by decide +kernel)) hG hw hN rfl bl_X9 (Nat.le_of_ble_eq_true rfl) (Nat.le_of_ble_eq_true rfl) dX12_init_16 (fun q23 L1 f1 H hw hN hq hqe => ?_)
  refine lv_dup hx hb dX12_init_19 rfl ?_
  refine pw_callv hw (va_runIN (host := RX12) (As := []) (rest := [.ref q23, .ref h0]) ⟨hx, hb, hml, hown, hts⟩ (c_X9_init l D cy q23 H.size _ _ hq hqe) ⟨va_cnB 0 hts gX12_init_X9_init_n18 rfl rfl rfl hG.2.1.2.1 (hts (.initialized RX9) (by decide +kernel)) (by decide +kernel) ⟨Nat.le_of_ble_eq_true rfl, Nat.le_of_ble_eq_true rfl⟩, rfl, hts (.instanceMethod yX9_init) (by decide +kernel)⟩ (pw_pre hG hw) rfl rfl hl.1 rfl (lv_room (Nat.le_of_ble_eq_true rfl)) dX12_init_20 ⟨Nat.le_of_ble_eq_true rfl, Nat.le_of_ble_eq_true rfl⟩) (fun L1 f1 H locs hw hS => ?_)
  obtain ⟨q24, q25, q26, h2⟩ := hS
  have hN := hN.call h2 (pw_nd hw)
  have hN : pw_N h0 12 L f _ _ [.ref q1, .null, .null, .null, .null, .null, .null, .null, .null, .null, .null, .null, .null, .null, .null, .int 0, .null] _ := hN
  refine pw_cputF (ci := 12) (v := .ref q23) (C := RX12) (T := TX12) (N := 17) hx hb hts hi12 tyX12 tyX12_ok nmX12 hown hG hw hN rfl 1 (by decide) (hts (.fieldLink RX12 19 "TongueHouse" "tape" "LTongueHouse$Text;") (by decide +kernel)) (fun _ h9 => h9) rfl hin rfl rfl rfl (Nat.le_of_ble_eq_true rfl) dX12_init_23 (fun f1 H locs hw hN => ?_)
  have hN : pw_N h0 12 L f _ _ [.ref q1, .ref q23, .null, .null, .null, .null, .null, .null, .null, .null, .null, .null, .null, .null, .null, .int 0, .null] _ := hN
  refine lv_aload_n hx hb dX12_init_26 rfl (lv_at hl 0 rfl) ?_
  refine pw_cnew (cj := 9) (C := RX9) (T := TX9) (N := 10) (gs := [.null, .int 0, .null, .null, .int 0, .int 0, .int 0, .int 0, .int 0, .long 0]) hx hb hts hi9 tyX9 tyX9_ok hown (hts (.classLink RX12 16 RX9) (by decide +kernel)) (hts (.instantiable RX9 10) (by decide +kernel)) (hts (.initialized RX9) (by decide +kernel)) hG hw hN rfl bl_X9 (Nat.le_of_ble_eq_true rfl) (Nat.le_of_ble_eq_true rfl) dX12_init_27 (fun q27 L1 f1 H hw hN hq hqe => ?_)
  refine lv_dup hx hb dX12_init_30 rfl ?_
  refine pw_callv hw (va_runIN (host := RX12) (As := []) (rest := [.ref q27, .ref h0]) ⟨hx, hb, hml, hown, hts⟩ (c_X9_init l D cy q27 H.size _ _ hq hqe) ⟨va_cnB 0 hts gX12_init_X9_init_n18 rfl rfl rfl hG.2.1.2.1 (hts (.initialized RX9) (by decide +kernel)) (by decide +kernel) ⟨Nat.le_of_ble_eq_true rfl, Nat.le_of_ble_eq_true rfl⟩, rfl, hts (.instanceMethod yX9_init) (by decide +kernel)⟩ (pw_pre hG hw) rfl rfl hl.1 rfl (lv_room (Nat.le_of_ble_eq_true rfl)) dX12_init_31 ⟨Nat.le_of_ble_eq_true rfl, Nat.le_of_ble_eq_true rfl⟩) (fun L1 f1 H locs hw hS => ?_)
  obtain ⟨q28, q29, q30, h2⟩ := hS
  have hN := hN.call h2 (pw_nd hw)
  have hN : pw_N h0 12 L f _ _ [.ref q1, .ref q23, .null, .null, .null, .null, .null, .null, .null, .null, .null, .null, .null, .null, .null, .int 0, .null] _ := hN
  refine pw_cputF (ci := 12) (v := .ref q27) (C := RX12) (T := TX12) (N := 17) hx hb hts hi12 tyX12 tyX12_ok nmX12 hown hG hw hN rfl 2 (by decide) (hts (.fieldLink RX12 23 "TongueHouse" "out" "LTongueHouse$Text;") (by decide +kernel)) (fun _ h9 => h9) rfl hin rfl rfl rfl (Nat.le_of_ble_eq_true rfl) dX12_init_34 (fun f1 H locs hw hN => ?_)
  have hN : pw_N h0 12 L f _ _ [.ref q1, .ref q23, .ref q27, .null, .null, .null, .null, .null, .null, .null, .null, .null, .null, .null, .null, .int 0, .null] _ := hN
  refine lv_aload_n hx hb dX12_init_37 rfl (lv_at hl 0 rfl) ?_
  refine pw_cnew (cj := 9) (C := RX9) (T := TX9) (N := 10) (gs := [.null, .int 0, .null, .null, .int 0, .int 0, .int 0, .int 0, .int 0, .long 0]) hx hb hts hi9 tyX9 tyX9_ok hown (hts (.classLink RX12 16 RX9) (by decide +kernel)) (hts (.instantiable RX9 10) (by decide +kernel)) (hts (.initialized RX9) (by decide +kernel)) hG hw hN rfl bl_X9 (Nat.le_of_ble_eq_true rfl) (Nat.le_of_ble_eq_true rfl) dX12_init_38 (fun q31 L1 f1 H hw hN hq hqe => ?_)
  refine lv_dup hx hb dX12_init_41 rfl ?_
  refine pw_callv hw (va_runIN (host := RX12) (As := []) (rest := [.ref q31, .ref h0]) ⟨hx, hb, hml, hown, hts⟩ (c_X9_init l D cy q31 H.size _ _ hq hqe) ⟨va_cnB 0 hts gX12_init_X9_init_n18 rfl rfl rfl hG.2.1.2.1 (hts (.initialized RX9) (by decide +kernel)) (by decide +kernel) ⟨Nat.le_of_ble_eq_true rfl, Nat.le_of_ble_eq_true rfl⟩, rfl, hts (.instanceMethod yX9_init) (by decide +kernel)⟩ (pw_pre hG hw) rfl rfl hl.1 rfl (lv_room (Nat.le_of_ble_eq_true rfl)) dX12_init_42 ⟨Nat.le_of_ble_eq_true rfl, Nat.le_of_ble_eq_true rfl⟩) (fun L1 f1 H locs hw hS => ?_)
  obtain ⟨q32, q33, q34, h2⟩ := hS
  have hN := hN.call h2 (pw_nd hw)
  have hN : pw_N h0 12 L f _ _ [.ref q1, .ref q23, .ref q27, .null, .null, .null, .null, .null, .null, .null, .null, .null, .null, .null, .null, .int 0, .null] _ := hN
  refine pw_cputF (ci := 12) (v := .ref q31) (C := RX12) (T := TX12) (N := 17) hx hb hts hi12 tyX12 tyX12_ok nmX12 hown hG hw hN rfl 3 (by decide) (hts (.fieldLink RX12 26 "TongueHouse" "base" "LTongueHouse$Text;") (by decide +kernel)) (fun _ h9 => h9) rfl hin rfl rfl rfl (Nat.le_of_ble_eq_true rfl) dX12_init_45 (fun f1 H locs hw hN => ?_)
  have hN : pw_N h0 12 L f _ _ [.ref q1, .ref q23, .ref q27, .ref q31, .null, .null, .null, .null, .null, .null, .null, .null, .null, .null, .null, .int 0, .null] _ := hN
  refine lv_aload_n hx hb dX12_init_48 rfl (lv_at hl 0 rfl) ?_
  refine pw_cnew (cj := 9) (C := RX9) (T := TX9) (N := 10) (gs := [.null, .int 0, .null, .null, .int 0, .int 0, .int 0, .int 0, .int 0, .long 0]) hx hb hts hi9 tyX9 tyX9_ok hown (hts (.classLink RX12 16 RX9) (by decide +kernel)) (hts (.instantiable RX9 10) (by decide +kernel)) (hts (.initialized RX9) (by decide +kernel)) hG hw hN rfl bl_X9 (Nat.le_of_ble_eq_true rfl) (Nat.le_of_ble_eq_true rfl) dX12_init_49 (fun q35 L1 f1 H hw hN hq hqe => ?_)
  refine lv_dup hx hb dX12_init_52 rfl ?_
  refine pw_callv hw (va_runIN (host := RX12) (As := []) (rest := [.ref q35, .ref h0]) ⟨hx, hb, hml, hown, hts⟩ (c_X9_init l D cy q35 H.size _ _ hq hqe) ⟨va_cnB 0 hts gX12_init_X9_init_n18 rfl rfl rfl hG.2.1.2.1 (hts (.initialized RX9) (by decide +kernel)) (by decide +kernel) ⟨Nat.le_of_ble_eq_true rfl, Nat.le_of_ble_eq_true rfl⟩, rfl, hts (.instanceMethod yX9_init) (by decide +kernel)⟩ (pw_pre hG hw) rfl rfl hl.1 rfl (lv_room (Nat.le_of_ble_eq_true rfl)) dX12_init_53 ⟨Nat.le_of_ble_eq_true rfl, Nat.le_of_ble_eq_true rfl⟩) (fun L1 f1 H locs hw hS => ?_)
  obtain ⟨q36, q37, q38, h2⟩ := hS
  have hN := hN.call h2 (pw_nd hw)
  have hN : pw_N h0 12 L f _ _ [.ref q1, .ref q23, .ref q27, .ref q31, .null, .null, .null, .null, .null, .null, .null, .null, .null, .null, .null, .int 0, .null] _ := hN
  refine pw_cputF (ci := 12) (v := .ref q35) (C := RX12) (T := TX12) (N := 17) hx hb hts hi12 tyX12 tyX12_ok nmX12 hown hG hw hN rfl 4 (by decide) (hts (.fieldLink RX12 29 "TongueHouse" "draft" "LTongueHouse$Text;") (by decide +kernel)) (fun _ h9 => h9) rfl hin rfl rfl rfl (Nat.le_of_ble_eq_true rfl) dX12_init_56 (fun f1 H locs hw hN => ?_)
  have hN : pw_N h0 12 L f _ _ [.ref q1, .ref q23, .ref q27, .ref q31, .ref q35, .null, .null, .null, .null, .null, .null, .null, .null, .null, .null, .int 0, .null] _ := hN
  refine lv_aload_n hx hb dX12_init_59 rfl (lv_at hl 0 rfl) ?_
  refine pw_cnew (cj := 6) (C := RX6) (T := TX6) (N := 19) (gs := [.null, .null, .null, .int 0, .int 0, .int 0, .int 0, .int 0, .int 0, .null, .null, .null, .int 0, .null, .null, .int 0, .null, .null, .null]) hx hb hts hi6 tyX6 tyX6_ok hown (hts (.classLink RX12 32 RX6) (by decide +kernel)) (hts (.instantiable RX6 19) (by decide +kernel)) (hts (.initialized RX6) (by decide +kernel)) hG hw hN rfl bl_X6 (Nat.le_of_ble_eq_true rfl) (Nat.le_of_ble_eq_true rfl) dX12_init_60 (fun q39 L1 f1 H hw hN hq hqe => ?_)
  refine lv_dup hx hb dX12_init_63 rfl ?_
  refine lv_aload_n hx hb dX12_init_64 rfl (lv_at hl 0 rfl) ?_
  refine pw_cget (ci := 12) (v := .ref q1) (C := RX12) (T := TX12) (N := 17) hx hb hts hi12 hown hG hw hN rfl 0 (by decide) (hts (.fieldLink RX12 12 "TongueHouse" "store" "LTongueHouse$Store;") (by decide +kernel)) (fun _ h9 => h9) rfl dX12_init_65 ?_
  refine lv_aload_n hx hb dX12_init_68 rfl (lv_at hl 0 rfl) ?_
  refine pw_cget (ci := 12) (v := .ref q23) (C := RX12) (T := TX12) (N := 17) hx hb hts hi12 hown hG hw hN rfl 1 (by decide) (hts (.fieldLink RX12 19 "TongueHouse" "tape" "LTongueHouse$Text;") (by decide +kernel)) (fun _ h9 => h9) rfl dX12_init_69 ?_
  refine pw_callv hw (va_runI (As := [.ref q1, .ref q23]) (rest := [.ref q39, .ref h0]) ⟨hx, hb, hml, hown, hts⟩ (c_X6_init l D cy q39 H.size _ _ q1 q23 hq hqe) (cwI 2 hts gX12_init_X6_init rfl rfl rfl (hts (.initialized RX6) (by decide +kernel)) (hts (.methodLink RX12 34 yX6_init) (by decide +kernel)) (hts (.instanceMethod yX6_init) (by decide +kernel)) rfl (by decide +kernel) ⟨Nat.le_of_ble_eq_true rfl, Nat.le_of_ble_eq_true rfl⟩) (pw_pre hG hw) rfl rfl hl.1 rfl (lv_room (Nat.le_of_ble_eq_true rfl)) dX12_init_72 ⟨Nat.le_of_ble_eq_true rfl, Nat.le_of_ble_eq_true rfl⟩) (fun L1 f1 H locs hw hS => ?_)
  obtain ⟨q40, q41, q42, q43, q44, q45, q46, q47, h2⟩ := hS
  have hN := hN.call h2 (pw_nd hw)
  have hN : pw_N h0 12 L f _ _ [.ref q1, .ref q23, .ref q27, .ref q31, .ref q35, .null, .null, .null, .null, .null, .null, .null, .null, .null, .null, .int 0, .null] _ := hN
  refine pw_cputF (ci := 12) (v := .ref q39) (C := RX12) (T := TX12) (N := 17) hx hb hts hi12 tyX12 tyX12_ok nmX12 hown hG hw hN rfl 5 (by decide) (hts (.fieldLink RX12 37 "TongueHouse" "reader" "LTongueHouse$Reader;") (by decide +kernel)) (fun _ h9 => h9) rfl hin rfl rfl rfl (Nat.le_of_ble_eq_true rfl) dX12_init_75 (fun f1 H locs hw hN => ?_)
  have hN : pw_N h0 12 L f _ _ [.ref q1, .ref q23, .ref q27, .ref q31, .ref q35, .ref q39, .null, .null, .null, .null, .null, .null, .null, .null, .null, .int 0, .null] _ := hN
  refine lv_aload_n hx hb dX12_init_78 rfl (lv_at hl 0 rfl) ?_
  refine pw_cnew (cj := 0) (C := RX0) (T := TX0) (N := 22) (gs := [.null, .null, .null, .int 0, .null, .null, .int 0, .null, .null, .null, .int 0, .int 0, .int 0, .null, .null, .null, .null, .int 0, .int 0, .null, .null, .null]) hx hb hts hi0 tyX0 tyX0_ok hown (hts (.classLink RX12 41 RX0) (by decide +kernel)) (hts (.instantiable RX0 22) (by decide +kernel)) (hts (.initialized RX0) (by decide +kernel)) hG hw hN rfl bl_X0 (Nat.le_of_ble_eq_true rfl) (Nat.le_of_ble_eq_true rfl) dX12_init_79 (fun q48 L1 f1 H hw hN hq hqe => ?_)
  refine lv_dup hx hb dX12_init_82 rfl ?_
  refine lv_aload_n hx hb dX12_init_83 rfl (lv_at hl 0 rfl) ?_
  refine pw_cget (ci := 12) (v := .ref q1) (C := RX12) (T := TX12) (N := 17) hx hb hts hi12 hown hG hw hN rfl 0 (by decide) (hts (.fieldLink RX12 12 "TongueHouse" "store" "LTongueHouse$Store;") (by decide +kernel)) (fun _ h9 => h9) rfl dX12_init_84 ?_
  refine pw_callv hw (va_runI (As := [.ref q1]) (rest := [.ref q48, .ref h0]) ⟨hx, hb, hml, hown, hts⟩ (c_X0_init l D cy q48 H.size _ _ q1 hq hqe) (cwI 1 hts gX12_init_X0_init rfl rfl rfl (hts (.initialized RX0) (by decide +kernel)) (hts (.methodLink RX12 43 yX0_init) (by decide +kernel)) (hts (.instanceMethod yX0_init) (by decide +kernel)) rfl (by decide +kernel) ⟨Nat.le_of_ble_eq_true rfl, Nat.le_of_ble_eq_true rfl⟩) (pw_pre hG hw) rfl rfl hl.1 rfl (lv_room (Nat.le_of_ble_eq_true rfl)) dX12_init_87 ⟨Nat.le_of_ble_eq_true rfl, Nat.le_of_ble_eq_true rfl⟩) (fun L1 f1 H locs hw hS => ?_)
  obtain ⟨q49, q50, q51, q52, q53, q54, q55, q56, q57, q58, q59, q60, h2⟩ := hS
  have hN := hN.call h2 (pw_nd hw)
  have hN : pw_N h0 12 L f _ _ [.ref q1, .ref q23, .ref q27, .ref q31, .ref q35, .ref q39, .null, .null, .null, .null, .null, .null, .null, .null, .null, .int 0, .null] _ := hN
  refine pw_cputF (ci := 12) (v := .ref q48) (C := RX12) (T := TX12) (N := 17) hx hb hts hi12 tyX12 tyX12_ok nmX12 hown hG hw hN rfl 6 (by decide) (hts (.fieldLink RX12 46 "TongueHouse" "chart" "LTongueHouse$Chart;") (by decide +kernel)) (fun _ h9 => h9) rfl hin rfl rfl rfl (Nat.le_of_ble_eq_true rfl) dX12_init_90 (fun f1 H locs hw hN => ?_)
  have hN : pw_N h0 12 L f _ _ [.ref q1, .ref q23, .ref q27, .ref q31, .ref q35, .ref q39, .ref q48, .null, .null, .null, .null, .null, .null, .null, .null, .int 0, .null] _ := hN
  refine lv_aload_n hx hb dX12_init_93 rfl (lv_at hl 0 rfl) ?_
  refine pw_cnew (cj := 5) (C := RX5) (T := TX5) (N := 19) (gs := [.null, .null, .null, .int 0, .int 0, .null, .null, .null, .int 0, .null, .null, .null, .null, .null, .null, .int 0, .null, .null, .null]) hx hb hts hi5 tyX5 tyX5_ok hown (hts (.classLink RX12 50 RX5) (by decide +kernel)) (hts (.instantiable RX5 19) (by decide +kernel)) (hts (.initialized RX5) (by decide +kernel)) hG hw hN rfl bl_X5 (Nat.le_of_ble_eq_true rfl) (Nat.le_of_ble_eq_true rfl) dX12_init_94 (fun q61 L1 f1 H hw hN hq hqe => ?_)
  refine lv_dup hx hb dX12_init_97 rfl ?_
  refine lv_aload_n hx hb dX12_init_98 rfl (lv_at hl 0 rfl) ?_
  refine pw_cget (ci := 12) (v := .ref q1) (C := RX12) (T := TX12) (N := 17) hx hb hts hi12 hown hG hw hN rfl 0 (by decide) (hts (.fieldLink RX12 12 "TongueHouse" "store" "LTongueHouse$Store;") (by decide +kernel)) (fun _ h9 => h9) rfl dX12_init_99 ?_
  refine lv_aload_n hx hb dX12_init_102 rfl (lv_at hl 0 rfl) ?_
  refine pw_cget (ci := 12) (v := .ref q48) (C := RX12) (T := TX12) (N := 17) hx hb hts hi12 hown hG hw hN rfl 6 (by decide) (hts (.fieldLink RX12 46 "TongueHouse" "chart" "LTongueHouse$Chart;") (by decide +kernel)) (fun _ h9 => h9) rfl dX12_init_103 ?_
  refine pw_callv hw (va_runI (As := [.ref q1, .ref q48]) (rest := [.ref q61, .ref h0]) ⟨hx, hb, hml, hown, hts⟩ (c_X5_init l D cy q61 H.size _ _ q1 q48 hq hqe) (cwI 2 hts gX12_init_X5_init rfl rfl rfl (hts (.initialized RX5) (by decide +kernel)) (hts (.methodLink RX12 52 yX5_init) (by decide +kernel)) (hts (.instanceMethod yX5_init) (by decide +kernel)) rfl (by decide +kernel) ⟨Nat.le_of_ble_eq_true rfl, Nat.le_of_ble_eq_true rfl⟩) (pw_pre hG hw) rfl rfl hl.1 rfl (lv_room (Nat.le_of_ble_eq_true rfl)) dX12_init_106 ⟨Nat.le_of_ble_eq_true rfl, Nat.le_of_ble_eq_true rfl⟩) (fun L1 f1 H locs hw hS => ?_)
  obtain ⟨q62, q63, q64, q65, q66, q67, q68, q69, q70, q71, q72, q73, h2⟩ := hS
  have hN := hN.call h2 (pw_nd hw)
  have hN : pw_N h0 12 L f _ _ [.ref q1, .ref q23, .ref q27, .ref q31, .ref q35, .ref q39, .ref q48, .null, .null, .null, .null, .null, .null, .null, .null, .int 0, .null] _ := hN
  refine pw_cputF (ci := 12) (v := .ref q61) (C := RX12) (T := TX12) (N := 17) hx hb hts hi12 tyX12 tyX12_ok nmX12 hown hG hw hN rfl 7 (by decide) (hts (.fieldLink RX12 55 "TongueHouse" "ranking" "LTongueHouse$Ranking;") (by decide +kernel)) (fun _ h9 => h9) rfl hin rfl rfl rfl (Nat.le_of_ble_eq_true rfl) dX12_init_109 (fun f1 H locs hw hN => ?_)
  have hN : pw_N h0 12 L f _ _ [.ref q1, .ref q23, .ref q27, .ref q31, .ref q35, .ref q39, .ref q48, .ref q61, .null, .null, .null, .null, .null, .null, .null, .int 0, .null] _ := hN
  refine lv_aload_n hx hb dX12_init_112 rfl (lv_at hl 0 rfl) ?_
  refine pw_cnew (cj := 7) (C := RX7) (T := TX7) (N := 14) (gs := [.null, .null, .null, .null, .null, .null, .null, .null, .null, .int 0, .null, .null, .null, .null]) hx hb hts hi7 tyX7 tyX7_ok hown (hts (.classLink RX12 59 RX7) (by decide +kernel)) (hts (.instantiable RX7 14) (by decide +kernel)) (hts (.initialized RX7) (by decide +kernel)) hG hw hN rfl bl_X7 (Nat.le_of_ble_eq_true rfl) (Nat.le_of_ble_eq_true rfl) dX12_init_113 (fun q74 L1 f1 H hw hN hq hqe => ?_)
  refine lv_dup hx hb dX12_init_116 rfl ?_
  refine lv_aload_n hx hb dX12_init_117 rfl (lv_at hl 0 rfl) ?_
  refine pw_cget (ci := 12) (v := .ref q1) (C := RX12) (T := TX12) (N := 17) hx hb hts hi12 hown hG hw hN rfl 0 (by decide) (hts (.fieldLink RX12 12 "TongueHouse" "store" "LTongueHouse$Store;") (by decide +kernel)) (fun _ h9 => h9) rfl dX12_init_118 ?_
  refine pw_callv hw (va_runI (As := [.ref q1]) (rest := [.ref q74, .ref h0]) ⟨hx, hb, hml, hown, hts⟩ (c_X7_init l D cy q74 H.size _ _ q1 hq hqe) (cwI 1 hts gX12_init_X7_init rfl rfl rfl (hts (.initialized RX7) (by decide +kernel)) (hts (.methodLink RX12 61 yX7_init) (by decide +kernel)) (hts (.instanceMethod yX7_init) (by decide +kernel)) rfl (by decide +kernel) ⟨Nat.le_of_ble_eq_true rfl, Nat.le_of_ble_eq_true rfl⟩) (pw_pre hG hw) rfl rfl hl.1 rfl (lv_room (Nat.le_of_ble_eq_true rfl)) dX12_init_121 ⟨Nat.le_of_ble_eq_true rfl, Nat.le_of_ble_eq_true rfl⟩) (fun L1 f1 H locs hw hS => ?_)
  obtain ⟨q75, q76, q77, q78, q79, q80, q81, q82, q83, q84, q85, h2⟩ := hS
  have hN := hN.call h2 (pw_nd hw)
  have hN : pw_N h0 12 L f _ _ [.ref q1, .ref q23, .ref q27, .ref q31, .ref q35, .ref q39, .ref q48, .ref q61, .null, .null, .null, .null, .null, .null, .null, .int 0, .null] _ := hN
  refine pw_cputF (ci := 12) (v := .ref q74) (C := RX12) (T := TX12) (N := 17) hx hb hts hi12 tyX12 tyX12_ok nmX12 hown hG hw hN rfl 8 (by decide) (hts (.fieldLink RX12 62 "TongueHouse" "sayer" "LTongueHouse$Sayer;") (by decide +kernel)) (fun _ h9 => h9) rfl hin rfl rfl rfl (Nat.le_of_ble_eq_true rfl) dX12_init_124 (fun f1 H locs hw hN => ?_)
  have hN : pw_N h0 12 L f _ _ [.ref q1, .ref q23, .ref q27, .ref q31, .ref q35, .ref q39, .ref q48, .ref q61, .ref q74, .null, .null, .null, .null, .null, .null, .int 0, .null] _ := hN
  refine lv_aload_n hx hb dX12_init_127 rfl (lv_at hl 0 rfl) ?_
  refine pw_cnew (cj := 10) (C := RX10) (T := TX10) (N := 19) (gs := [.null, .int 0, .null, .null, .null, .null, .null, .null, .null, .int 0, .null, .null, .null, .null, .null, .null, .int 0, .int 0, .int 0]) hx hb hts hi10 tyX10 tyX10_ok hown (hts (.classLink RX12 66 RX10) (by decide +kernel)) (hts (.instantiable RX10 19) (by decide +kernel)) (hts (.initialized RX10) (by decide +kernel)) hG hw hN rfl bl_X10 (Nat.le_of_ble_eq_true rfl) (Nat.le_of_ble_eq_true rfl) dX12_init_128 (fun q86 L1 f1 H hw hN hq hqe => ?_)
  refine lv_dup hx hb dX12_init_131 rfl ?_
  refine lv_aload_n hx hb dX12_init_132 rfl (lv_at hl 0 rfl) ?_
  refine pw_cget (ci := 12) (v := .ref q1) (C := RX12) (T := TX12) (N := 17) hx hb hts hi12 hown hG hw hN rfl 0 (by decide) (hts (.fieldLink RX12 12 "TongueHouse" "store" "LTongueHouse$Store;") (by decide +kernel)) (fun _ h9 => h9) rfl dX12_init_133 ?_
  refine pw_callv hw (va_runI (As := [.ref q1]) (rest := [.ref q86, .ref h0]) ⟨hx, hb, hml, hown, hts⟩ (c_X10_init l D cy q86 H.size _ _ q1 hq hqe) (cwI 1 hts gX12_init_X10_init rfl rfl rfl (hts (.initialized RX10) (by decide +kernel)) (hts (.methodLink RX12 68 yX10_init) (by decide +kernel)) (hts (.instanceMethod yX10_init) (by decide +kernel)) rfl (by decide +kernel) ⟨Nat.le_of_ble_eq_true rfl, Nat.le_of_ble_eq_true rfl⟩) (pw_pre hG hw) rfl rfl hl.1 rfl (lv_room (Nat.le_of_ble_eq_true rfl)) dX12_init_136 ⟨Nat.le_of_ble_eq_true rfl, Nat.le_of_ble_eq_true rfl⟩) (fun L1 f1 H locs hw hS => ?_)
  obtain ⟨q87, q88, q89, q90, q91, q92, q93, q94, q95, q96, q97, q98, q99, h2⟩ := hS
  have hN := hN.call h2 (pw_nd hw)
  have hN : pw_N h0 12 L f _ _ [.ref q1, .ref q23, .ref q27, .ref q31, .ref q35, .ref q39, .ref q48, .ref q61, .ref q74, .null, .null, .null, .null, .null, .null, .int 0, .null] _ := hN
  refine pw_cputF (ci := 12) (v := .ref q86) (C := RX12) (T := TX12) (N := 17) hx hb hts hi12 tyX12 tyX12_ok nmX12 hown hG hw hN rfl 9 (by decide) (hts (.fieldLink RX12 69 "TongueHouse" "thought" "LTongueHouse$Thought;") (by decide +kernel)) (fun _ h9 => h9) rfl hin rfl rfl rfl (Nat.le_of_ble_eq_true rfl) dX12_init_139 (fun f1 H locs hw hN => ?_)
  have hN : pw_N h0 12 L f _ _ [.ref q1, .ref q23, .ref q27, .ref q31, .ref q35, .ref q39, .ref q48, .ref q61, .ref q74, .ref q86, .null, .null, .null, .null, .null, .int 0, .null] _ := hN
  refine lv_aload_n hx hb dX12_init_142 rfl (lv_at hl 0 rfl) ?_
  refine pw_cnew (cj := 1) (C := RX1) (T := TX1) (N := 19) (gs := [.null, .int 0, .int 0, .null, .int 0, .null, .null, .int 0, .int 0, .int 0, .null, .null, .null, .null, .int 0, .null, .null, .int 0, .null]) hx hb hts hi1 tyX1 tyX1_ok hown (hts (.classLink RX12 73 RX1) (by decide +kernel)) (hts (.instantiable RX1 19) (by decide +kernel)) (hts (.initialized RX1) (by decide +kernel)) hG hw hN rfl bl_X1 (Nat.le_of_ble_eq_true rfl) (Nat.le_of_ble_eq_true rfl) dX12_init_143 (fun q100 L1 f1 H hw hN hq hqe => ?_)
  refine lv_dup hx hb dX12_init_146 rfl ?_
  refine lv_aload_n hx hb dX12_init_147 rfl (lv_at hl 0 rfl) ?_
  refine pw_cget (ci := 12) (v := .ref q1) (C := RX12) (T := TX12) (N := 17) hx hb hts hi12 hown hG hw hN rfl 0 (by decide) (hts (.fieldLink RX12 12 "TongueHouse" "store" "LTongueHouse$Store;") (by decide +kernel)) (fun _ h9 => h9) rfl dX12_init_148 ?_
  refine pw_callv hw (va_runI (As := [.ref q1]) (rest := [.ref q100, .ref h0]) ⟨hx, hb, hml, hown, hts⟩ (c_X1_init l D cy q100 H.size _ _ q1 hq hqe) (cwI 1 hts gX12_init_X1_init rfl rfl rfl (hts (.initialized RX1) (by decide +kernel)) (hts (.methodLink RX12 75 yX1_init) (by decide +kernel)) (hts (.instanceMethod yX1_init) (by decide +kernel)) rfl (by decide +kernel) ⟨Nat.le_of_ble_eq_true rfl, Nat.le_of_ble_eq_true rfl⟩) (pw_pre hG hw) rfl rfl hl.1 rfl (lv_room (Nat.le_of_ble_eq_true rfl)) dX12_init_151 ⟨Nat.le_of_ble_eq_true rfl, Nat.le_of_ble_eq_true rfl⟩) (fun L1 f1 H locs hw hS => ?_)
  obtain ⟨q101, q102, q103, q104, q105, q106, q107, q108, q109, q110, q111, q112, q113, h2⟩ := hS
  have hN := hN.call h2 (pw_nd hw)
  have hN : pw_N h0 12 L f _ _ [.ref q1, .ref q23, .ref q27, .ref q31, .ref q35, .ref q39, .ref q48, .ref q61, .ref q74, .ref q86, .null, .null, .null, .null, .null, .int 0, .null] _ := hN
  refine pw_cputF (ci := 12) (v := .ref q100) (C := RX12) (T := TX12) (N := 17) hx hb hts hi12 tyX12 tyX12_ok nmX12 hown hG hw hN rfl 10 (by decide) (hts (.fieldLink RX12 76 "TongueHouse" "finder" "LTongueHouse$Finder;") (by decide +kernel)) (fun _ h9 => h9) rfl hin rfl rfl rfl (Nat.le_of_ble_eq_true rfl) dX12_init_154 (fun f1 H locs hw hN => ?_)
  have hN : pw_N h0 12 L f _ _ [.ref q1, .ref q23, .ref q27, .ref q31, .ref q35, .ref q39, .ref q48, .ref q61, .ref q74, .ref q86, .ref q100, .null, .null, .null, .null, .int 0, .null] _ := hN
  refine lv_aload_n hx hb dX12_init_157 rfl (lv_at hl 0 rfl) ?_
  refine lv_bipush (v := 9) hx hb dX12_init_158 (by decide) ?_
  refine lv_bipush (v := 60) hx hb dX12_init_160 (by decide) ?_
  refine pw_cmna (t0 := 7) (t1 := 1) (ty := .int) (cA := cy 7) (cB := cy 1) (nm := "[[I") (N' := 9) (K' := 60) (a0 := (60, .inl (fun _ => 0))) hx hb hown (by decide +kernel) (hts (.classLink RX12 80 "[[I") (by decide +kernel)) hG.2.2.2.2.2 (hts (.arrayClass .int) (by decide +kernel)) hG rfl rfl (fun _ h => h) hw hN (fun _ => rfl) (by decide) (by decide) (by decide) (by decide) (Nat.le_of_ble_eq_true rfl) (Nat.le_of_ble_eq_true rfl) (Nat.le_of_ble_eq_true rfl) rfl (Nat.le_of_ble_eq_true rfl) (Nat.le_of_ble_eq_true rfl) dX12_init_162 (fun q114 L1 f1 H locs hw hN => ?_)
  have hN : pw_N h0 12 L f _ _ [.ref q1, .ref q23, .ref q27, .ref q31, .ref q35, .ref q39, .ref q48, .ref q61, .ref q74, .ref q86, .ref q100, .null, .null, .null, .null, .int 0, .null] _ := hN
  refine pw_cputF (ci := 12) (v := .ref q114) (C := RX12) (T := TX12) (N := 17) hx hb hts hi12 tyX12 tyX12_ok nmX12 hown hG hw hN rfl 11 (by decide) (hts (.fieldLink RX12 82 "TongueHouse" "planted" "[[I") (by decide +kernel)) (fun _ h9 => h9) rfl hin rfl rfl rfl (Nat.le_of_ble_eq_true rfl) dX12_init_166 (fun f1 H locs hw hN => ?_)
  have hN : pw_N h0 12 L f _ _ [.ref q1, .ref q23, .ref q27, .ref q31, .ref q35, .ref q39, .ref q48, .ref q61, .ref q74, .ref q86, .ref q100, .ref q114, .null, .null, .null, .int 0, .null] _ := hN
  refine lv_aload_n hx hb dX12_init_169 rfl (lv_at hl 0 rfl) ?_
  refine lv_bipush (v := 9) hx hb dX12_init_170 (by decide) ?_
  refine pw_cnewa (atype := .int) (t0 := 1) (cA := cy 1) (ty := .int) (N' := 9) (a0 := (9, .inl (fun _ => 0))) hx hb (hts (.arrayClass .int) (by decide +kernel)) rfl hG rfl (fun _ h => h) hw hN (fun _ => rfl) (by decide) (by decide) (Nat.le_of_ble_eq_true rfl) (Nat.le_of_ble_eq_true rfl) (Nat.le_of_ble_eq_true rfl) dX12_init_172 (fun q115 L1 f1 H hw hN => ?_)
  have hN : pw_N h0 12 L f _ _ [.ref q1, .ref q23, .ref q27, .ref q31, .ref q35, .ref q39, .ref q48, .ref q61, .ref q74, .ref q86, .ref q100, .ref q114, .null, .null, .null, .int 0, .null] _ := hN
  refine pw_cputF (ci := 12) (v := .ref q115) (C := RX12) (T := TX12) (N := 17) hx hb hts hi12 tyX12 tyX12_ok nmX12 hown hG hw hN rfl 12 (by decide) (hts (.fieldLink RX12 85 "TongueHouse" "plantedSize" "[I") (by decide +kernel)) (fun _ h9 => h9) rfl hin rfl rfl rfl (Nat.le_of_ble_eq_true rfl) dX12_init_174 (fun f1 H locs hw hN => ?_)
  have hN : pw_N h0 12 L f _ _ [.ref q1, .ref q23, .ref q27, .ref q31, .ref q35, .ref q39, .ref q48, .ref q61, .ref q74, .ref q86, .ref q100, .ref q114, .ref q115, .null, .null, .int 0, .null] _ := hN
  refine lv_aload_n hx hb dX12_init_177 rfl (lv_at hl 0 rfl) ?_
  refine lv_bipush (v := 16) hx hb dX12_init_178 (by decide) ?_
  refine lv_sipush (v := 200) hx hb dX12_init_180 (by decide) ?_
  refine pw_cmna (t0 := 6) (t1 := 0) (ty := .byte) (cA := cy 6) (cB := cy 0) (nm := "[[B") (N' := 16) (K' := 200) (a0 := (200, .inl (fun _ => 0))) hx hb hown (by decide +kernel) (hts (.classLink RX12 89 "[[B") (by decide +kernel)) hG.2.2.2.2.1 (hts (.arrayClass .byte) (by decide +kernel)) hG rfl rfl (fun _ h => h) hw hN (fun _ => rfl) (by decide) (by decide) (by decide) (by decide) (Nat.le_of_ble_eq_true rfl) (Nat.le_of_ble_eq_true rfl) (Nat.le_of_ble_eq_true rfl) rfl (Nat.le_of_ble_eq_true rfl) (Nat.le_of_ble_eq_true rfl) dX12_init_183 (fun q116 L1 f1 H locs hw hN => ?_)
  have hN : pw_N h0 12 L f _ _ [.ref q1, .ref q23, .ref q27, .ref q31, .ref q35, .ref q39, .ref q48, .ref q61, .ref q74, .ref q86, .ref q100, .ref q114, .ref q115, .null, .null, .int 0, .null] _ := hN
  refine pw_cputF (ci := 12) (v := .ref q116) (C := RX12) (T := TX12) (N := 17) hx hb hts hi12 tyX12 tyX12_ok nmX12 hown hG hw hN rfl 13 (by decide) (hts (.fieldLink RX12 91 "TongueHouse" "candidates" "[[B") (by decide +kernel)) (fun _ h9 => h9) rfl hin rfl rfl rfl (Nat.le_of_ble_eq_true rfl) dX12_init_187 (fun f1 H locs hw hN => ?_)
  have hN : pw_N h0 12 L f _ _ [.ref q1, .ref q23, .ref q27, .ref q31, .ref q35, .ref q39, .ref q48, .ref q61, .ref q74, .ref q86, .ref q100, .ref q114, .ref q115, .ref q116, .null, .int 0, .null] _ := hN
  refine lv_aload_n hx hb dX12_init_190 rfl (lv_at hl 0 rfl) ?_
  refine lv_bipush (v := 16) hx hb dX12_init_191 (by decide) ?_
  refine pw_cnewa (atype := .int) (t0 := 1) (cA := cy 1) (ty := .int) (N' := 16) (a0 := (16, .inl (fun _ => 0))) hx hb (hts (.arrayClass .int) (by decide +kernel)) rfl hG rfl (fun _ h => h) hw hN (fun _ => rfl) (by decide) (by decide) (Nat.le_of_ble_eq_true rfl) (Nat.le_of_ble_eq_true rfl) (Nat.le_of_ble_eq_true rfl) dX12_init_193 (fun q117 L1 f1 H hw hN => ?_)
  have hN : pw_N h0 12 L f _ _ [.ref q1, .ref q23, .ref q27, .ref q31, .ref q35, .ref q39, .ref q48, .ref q61, .ref q74, .ref q86, .ref q100, .ref q114, .ref q115, .ref q116, .null, .int 0, .null] _ := hN
  refine pw_cputF (ci := 12) (v := .ref q117) (C := RX12) (T := TX12) (N := 17) hx hb hts hi12 tyX12 tyX12_ok nmX12 hown hG hw hN rfl 14 (by decide) (hts (.fieldLink RX12 94 "TongueHouse" "candidateSize" "[I") (by decide +kernel)) (fun _ h9 => h9) rfl hin rfl rfl rfl (Nat.le_of_ble_eq_true rfl) dX12_init_195 (fun f1 H locs hw hN => ?_)
  have hN : pw_N h0 12 L f _ _ [.ref q1, .ref q23, .ref q27, .ref q31, .ref q35, .ref q39, .ref q48, .ref q61, .ref q74, .ref q86, .ref q100, .ref q114, .ref q115, .ref q116, .ref q117, .int 0, .null] _ := hN
  refine lv_aload_n hx hb dX12_init_198 rfl (lv_at hl 0 rfl) ?_
  refine lv_sipush (v := 1000) hx hb dX12_init_199 (by decide) ?_
  refine pw_cnewa (atype := .int) (t0 := 1) (cA := cy 1) (ty := .int) (N' := 1000) (a0 := (1000, .inl (fun _ => 0))) hx hb (hts (.arrayClass .int) (by decide +kernel)) rfl hG rfl (fun _ h => h) hw hN (fun _ => rfl) (by decide) (by decide) (Nat.le_of_ble_eq_true rfl) (Nat.le_of_ble_eq_true rfl) (Nat.le_of_ble_eq_true rfl) dX12_init_202 (fun q118 L1 f1 H hw hN => ?_)
  have hN : pw_N h0 12 L f _ _ [.ref q1, .ref q23, .ref q27, .ref q31, .ref q35, .ref q39, .ref q48, .ref q61, .ref q74, .ref q86, .ref q100, .ref q114, .ref q115, .ref q116, .ref q117, .int 0, .null] _ := hN
  refine pw_cputF (ci := 12) (v := .ref q118) (C := RX12) (T := TX12) (N := 17) hx hb hts hi12 tyX12 tyX12_ok nmX12 hown hG hw hN rfl 16 (by decide) (hts (.fieldLink RX12 97 "TongueHouse" "changes" "[I") (by decide +kernel)) (fun _ h9 => h9) rfl hin rfl rfl rfl (Nat.le_of_ble_eq_true rfl) dX12_init_204 (fun f1 H locs hw hN => ?_)
  have hN : pw_N h0 12 L f _ _ [.ref q1, .ref q23, .ref q27, .ref q31, .ref q35, .ref q39, .ref q48, .ref q61, .ref q74, .ref q86, .ref q100, .ref q114, .ref q115, .ref q116, .ref q117, .int 0, .ref q118] _ := hN
  refine W.widen (k := 143) (n := 318342) (Nat.le_of_ble_eq_true rfl) (Nat.le_of_ble_eq_true rfl) ?_
  exact pw_vret hx hb hr hlocks hsz hw ⟨q1, q2, q3, q4, q5, q6, q7, q8, q9, q10, q11, q12, q13, q14, q15, q16, q17, q18, q19, q20, q21, q22, q23, q24, q25, q26, q27, q28, q29, q30, q31, q32, q33, q34, q35, q36, q37, q38, q39, q40, q41, q42, q43, q44, q45, q46, q47, q48, q49, q50, q51, q52, q53, q54, q55, q56, q57, q58, q59, q60, q61, q62, q63, q64, q65, q66, q67, q68, q69, q70, q71, q72, q73, q74, q75, q76, q77, q78, q79, q80, q81, q82, q83, q84, q85, q86, q87, q88, q89, q90, q91, q92, q93, q94, q95, q96, q97, q98, q99, q100, q101, q102, q103, q104, q105, q106, q107, q108, q109, q110, q111, q112, q113, q114, q115, q116, q117, q118, hN⟩ dX12_init_207
end
section
/-! THE WORLD OF A WALK: some cells of the pool, listed; all else as it was. -/
def pq_pick {α : Type} (cs : List α) (ks : List Nat) : List α := ks.filterMap (fun k => cs[k]?)
def pq_C (L : List Nat) (f : Nat → va_E) (cs : List (Nat × va_E)) : Prop := (cs.map Prod.fst).Nodup ∧ ∀ x ∈ cs, x.1 ∈ L ∧ f x.1 = x.2
/-- an object's fields, as far as they are known -/
def pq_E (N : Nat) (fs : List Value) (kv : List (Nat × Value)) : Prop := fs.length = N ∧ ∀ x ∈ kv, fs[x.1]? = some x.2
def pq_kv (kv : List (Nat × Value)) (k : Nat) (v : Value) : List (Nat × Value) := kv.map (fun x => cond (x.1 == k) (k, v) x)
theorem pq_E.set {N k : Nat} {fs : List Value} {kv : List (Nat × Value)} {v : Value} (h : pq_E N fs kv) (hk : k < N) : pq_E N (fs.set k v) (pq_kv kv k v) := by
  refine ⟨by rw [List.length_set]; exact h.1, fun y hy => ?_⟩
  obtain ⟨x, hx, rfl⟩ := List.mem_map.mp hy
  by_cases hb : (x.1 == k) = true
  · rw [hb]
    show (fs.set k v)[k]? = some v
    rw [List.getElem?_set_self (by rw [h.1]; exact hk)]
  · have hb' : (x.1 == k) = false := by simpa using hb
    rw [hb']
    have hne : k ≠ x.1 := fun q => by rw [q] at hb; simp at hb
    show (fs.set k v)[x.1]? = some x.2
    rw [List.getElem?_set_ne hne]
    exact h.2 x hx
theorem pq_E.at {N k i : Nat} {fs : List Value} {kv : List (Nat × Value)} {v : Value} (h : pq_E N fs kv) (hi : kv[i]? = some (k, v)) : fs[k]? = some v := h.2 (k, v) (List.mem_of_getElem? hi)
theorem pq_E.one {N k i : Nat} {fs : List Value} {kv : List (Nat × Value)} {v : Value} (h : pq_E N fs kv) (hi : kv[i]? = some (k, v)) : pq_E N fs [(k, v)] := ⟨h.1, fun x hx => by rw [List.mem_singleton.mp hx]; exact h.at hi⟩
theorem pq_pick_mem {α : Type} {cs : List α} {ks : List Nat} {x : α} (h : x ∈ pq_pick cs ks) : x ∈ cs := by
  obtain ⟨k, -, hk⟩ := List.mem_filterMap.mp h
  exact List.mem_of_getElem? hk
theorem pq_pick_app {α : Type} {cs : List α} {js ks : List Nat} : pq_pick cs (js ++ ks) = pq_pick cs js ++ pq_pick cs ks := List.filterMap_append
theorem pq_pick_nodup {cs : List (Nat × va_E)} (h : (cs.map Prod.fst).Nodup) : ∀ ks : List Nat, ks.Nodup → ((pq_pick cs ks).map Prod.fst).Nodup
  | [], _ => List.nodup_nil
  | k :: ks, hk => by
    have ih := pq_pick_nodup h ks (List.nodup_cons.mp hk).2
    cases hc : cs[k]? with
    | none =>
      have e : pq_pick cs (k :: ks) = pq_pick cs ks := by simp [pq_pick, List.filterMap_cons, hc]
      rw [e]; exact ih
    | some y =>
      have e : pq_pick cs (k :: ks) = y :: pq_pick cs ks := by simp [pq_pick, List.filterMap_cons, hc]
      rw [e, List.map_cons]
      refine List.nodup_cons.mpr ⟨fun hm => ?_, ih⟩
      obtain ⟨z, hz, hzy⟩ := List.mem_map.mp hm
      obtain ⟨j, hj, hjz⟩ := List.mem_filterMap.mp hz
      have h1 : (cs.map Prod.fst)[k]? = some y.1 := by rw [List.getElem?_map, hc]; rfl
      have h2 : (cs.map Prod.fst)[j]? = some y.1 := by rw [List.getElem?_map, hjz]; exact congrArg some hzy
      have hlt : k < (cs.map Prod.fst).length := (List.getElem?_eq_some_iff.mp h1).1
      have := (List.getElem?_inj hlt h).mp (h1.trans h2.symm)
      exact (List.nodup_cons.mp hk).1 (this ▸ hj)
theorem pq_C.pick {L : List Nat} {f : Nat → va_E} {cs : List (Nat × va_E)} (h : pq_C L f cs) (ks : List Nat) (hk : ks.Nodup) : pq_C L f (pq_pick cs ks) := ⟨pq_pick_nodup h.1 ks hk, fun x hx => h.2 x (pq_pick_mem hx)⟩
theorem pq_C.at {L : List Nat} {f : Nat → va_E} {cs : List (Nat × va_E)} {j a : Nat} {e : va_E} (h : pq_C L f cs) (hj : cs[j]? = some (a, e)) : a ∈ L ∧ f a = e := h.2 (a, e) (List.mem_of_getElem? hj)
theorem pq_C.set {L : List Nat} {f : Nat → va_E} {cs : List (Nat × va_E)} {j a : Nat} {e e1 : va_E} (h : pq_C L f cs) (hj : cs[j]? = some (a, e)) : pq_C L (va_up f a e1) (cs.set j (a, e1)) := by
  have hm : (cs.set j (a, e1)).map Prod.fst = cs.map Prod.fst := by
    refine List.ext_getElem? fun i => ?_
    rw [List.getElem?_map, List.getElem?_map]
    by_cases hi : j = i
    · subst hi
      rw [List.getElem?_set_self (List.getElem?_eq_some_iff.mp hj).1, hj]; rfl
    · rw [List.getElem?_set_ne hi]
  refine ⟨by rw [hm]; exact h.1, fun x hx => ?_⟩
  obtain ⟨i, hi⟩ := List.getElem?_of_mem hx
  by_cases hij : j = i
  · subst hij
    rw [List.getElem?_set_self (List.getElem?_eq_some_iff.mp hj).1] at hi
    cases hi
    exact ⟨(h.at hj).1, va_up_self _ _ _⟩
  · rw [List.getElem?_set_ne hij] at hi
    have hne : x.1 ≠ a := fun q => by
      have h1 : (cs.map Prod.fst)[i]? = some a := by rw [List.getElem?_map, hi]; exact congrArg some q
      have h2 : (cs.map Prod.fst)[j]? = some a := by rw [List.getElem?_map, hj]; rfl
      exact hij ((List.getElem?_inj (List.getElem?_eq_some_iff.mp h2).1 h.1).mp (h2.trans h1.symm))
    rw [va_up_ne _ _ hne]
    exact h.2 x (List.mem_of_getElem? hi)
theorem pq_C.join {L : List Nat} {f f1 : Nat → va_E} {cs cs1 : List (Nat × va_E)} (h : pq_C L f cs) (js ks : List Nat) (hjk : (js ++ ks).Nodup) (h1 : pq_C L f1 cs1) (ha : ∀ x ∈ cs1, x.1 ∈ (pq_pick cs js).map Prod.fst) (hF : ∀ x, x ∉ (pq_pick cs js).map Prod.fst → f1 x = f x) : pq_C L f1 (cs1 ++ pq_pick cs ks) := by
  have hnd : ((pq_pick cs js).map Prod.fst ++ (pq_pick cs ks).map Prod.fst).Nodup := by
    rw [← List.map_append, ← pq_pick_app]; exact pq_pick_nodup h.1 _ hjk
  refine ⟨?_, fun x hx => ?_⟩
  · rw [List.map_append]
    refine List.nodup_append.mpr ⟨h1.1, (List.nodup_append.mp hnd).2.1, fun a h3 b h4 => ?_⟩
    obtain ⟨y, hy, rfl⟩ := List.mem_map.mp h3
    exact (List.nodup_append.mp hnd).2.2 y.1 (ha y hy) b h4
  rcases List.mem_append.mp hx with hx | hx
  · exact h1.2 x hx
  · have h2 := h.2 x (pq_pick_mem hx)
    refine ⟨h2.1, ?_⟩
    rw [hF x.1 (fun q => (List.nodup_append.mp hnd).2.2 x.1 q x.1 (List.mem_map.mpr ⟨x, hx, rfl⟩) rfl)]
    exact h2.2
/-- the world at a point of a walk: its cells cs (they lie among as), all else of the pool as f0 has it -/
def pq_W (D : va_G) (A : Nat → Prop) (H0 : Heap) (L : List Nat) (f0 : Nat → va_E) (as : List Nat) (cs : List (Nat × va_E)) (H : Heap) (locs : List Loc) : Prop :=
  ∃ f, pw_W D A H0 L f H locs ∧ pq_C L f cs ∧ (∀ x ∈ cs, x.1 ∈ as) ∧ ∀ x, x ∉ as → f x = f0 x
/-- what a method leaves: its cells with P, all else as f has it -/
def pq_S (L : List Nat) (f : Nat → va_E) (as : List Nat) (P : List (Nat × va_E) → Prop) (u : List Nat × (Nat → va_E)) : Prop :=
  u.1 = L ∧ (∃ cs1, P cs1 ∧ pq_C L u.2 cs1 ∧ ∀ x ∈ cs1, x.1 ∈ as) ∧ ∀ x, x ∉ as → u.2 x = f x
def pq_Qv (D : va_G) (sz : Nat) (L : List Nat) (f : Nat → va_E) (as : List Nat) (P : List (Nat × va_E) → Prop) := va_Qv (fun u => pq_S L f as P u) (pw_B D (pw_A L f sz)) (pw_A L f sz)
def pq_Qi (D : va_G) (sz : Nat) (L : List Nat) (f : Nat → va_E) (as : List Nat) (P : Int32 → List (Nat × va_E) → Prop) := va_Qi (fun r u => pq_S L f as (P r) u) (pw_B D (pw_A L f sz)) (pw_A L f sz)
def pq_Ql (D : va_G) (sz : Nat) (L : List Nat) (f : Nat → va_E) (as : List Nat) (P : Int64 → List (Nat × va_E) → Prop) := va_Ql (fun r u => pq_S L f as (P r) u) (pw_B D (pw_A L f sz)) (pw_A L f sz)
section PQ
variable {p : Program} {l : Launch} {e : Env} {R : Room} {s : State} {m : MethodId} {args : Array Value} {below : List Frame} {meth : Method} {c : Code} {H : Heap} {locs : List Loc} {cells slots : Nat} {Q : State → Prop}
variable {cc : ByteArray} {pc : Nat} {ls : Array Slot} {rest : List Value} {D : va_G} {cy : Nat → ClassId} {A : Nat → Prop} {a sz : Nat} {H0 : Heap} {L as : List Nat} {f f0 : Nat → va_E} {cs cs0 cs2 : List (Nat × va_E)} {Ts : List Cond}
theorem pq_start (hw : pw_W D A H0 L f H locs) (hC : pq_C L f cs) (ha : cs.map Prod.fst = as) : pq_W D A H0 L f as cs H locs := ⟨f, hw, hC, fun x hx => ha ▸ List.mem_map.mpr ⟨x, hx, rfl⟩, fun _ _ => rfl⟩
theorem pq_W.pick (h : pq_W D A H0 L f0 as cs H locs) (ks : List Nat) (hk : ks.Nodup) (hc : pq_pick cs ks = cs2) : pq_W D A H0 L f0 as cs2 H locs := by
  obtain ⟨f, hw, hC, ha, hF⟩ := h
  subst hc
  exact ⟨f, hw, hC.pick ks hk, fun x hx => ha x (pq_pick_mem hx), hF⟩
/-- a computed number gets the name that it has -/
theorem pq_topi {x y : Int32} (h : x = y) (k : W p l e R s m args below meth c H locs cells slots Q (F0 m pc ls (.int y :: rest))) : W p l e R s m args below meth c H locs cells slots Q (F0 m pc ls (.int x :: rest)) := h ▸ k
theorem pq_topl {x y : Int64} (h : x = y) (k : W p l e R s m args below meth c H locs cells slots Q (F0 m pc ls (.long y :: rest))) : W p l e R s m args below meth c H locs cells slots Q (F0 m pc ls (.long x :: rest)) := h ▸ k
theorem pq_get (hexec : p.tables.exec = Jvm.exec) (hb : c.code = cc) (hts : ∀ w ∈ Ts, w.before args s = true) {own C : String} {T : u_T} {N ci index : Nat} (hin : ∀ w ∈ u_ws C T N, w ∈ Ts) (hc : vwCl[ci]? = some (C, T, N)) (hown : s.vm.findClass own = some m.cls) (hG : pw_G D cy s) (hW : pq_W D A H0 L f0 as cs H locs) (j : Nat) {fs : List Value} (hj : cs[j]? = some (a, .inr (ci, fs))) {kv : List (Nat × Value)} (hE : pq_E N fs kv) (i : Nat) {k : Nat} {v : Value} (hi : kv[i]? = some (k, v)) (hk : k < N) (hlink : Cond.fieldLink own index (T k).1 (T k).2.1 (T k).2.2.1 ∈ Ts) (hdg : decode cc pc = .ok (.getfield index, 3))
    (kk : W p l e R s m args below meth c H locs cells slots Q (F0 m (pc + 3) ls (v :: rest))) : W p l e R s m args below meth c H locs cells slots Q (F0 m pc ls (.ref a :: rest)) := by
  obtain ⟨f, hw, hC, -, -⟩ := hW
  exact pw_get hexec hb hts hin hown hG hw (hC.at hj).1 (hC.at hj).2 hc k hk (hts _ hlink) (fun _ h => h) (hE.at hi) hdg kk
theorem pq_put (hexec : p.tables.exec = Jvm.exec) (hb : c.code = cc) (hts : ∀ w ∈ Ts, w.before args s = true) {own C : String} {T : u_T} {N ci index : Nat} (hin : ∀ w ∈ u_ws C T N, w ∈ Ts) (ty0 : Nat → FieldType) (hty : ∀ k, k < N → parseFieldDescriptor (T k).2.2.1 = some (ty0 k)) (hnm : ∀ a, a < N → ∀ b, b < N → a ≠ b → (T a).2.1 ≠ (T b).2.1) (hc : vwCl[ci]? = some (C, T, N)) (hown : s.vm.findClass own = some m.cls) (hG : pw_G D cy s) (hW : pq_W D A H0 L f0 as cs H locs) (j : Nat) {fs : List Value} (hj : cs[j]? = some (a, .inr (ci, fs))) {kv kv' : List (Nat × Value)} (hE : pq_E N fs kv) (k : Nat) {v : Value} (hk : k < N) (hfin : (T k).2.2.2 = false) (hn : narrow (ty0 k) v = v) (hfit : fits (ty0 k) v = true) (hkv : pq_kv kv k v = kv') (hlink : Cond.fieldLink own index (T k).1 (T k).2.1 (T k).2.2.1 ∈ Ts) (hdg : decode cc pc = .ok (.putfield index, 3))
    (kk : ∀ (fs1 : List Value) (H1 : Heap) (locs1 : List Loc), pq_W D A H0 L f0 as (cs.set j (a, .inr (ci, fs1))) H1 locs1 → pq_E N fs1 kv' → W p l e R s m args below meth c H1 locs1 cells slots Q (F0 m (pc + 3) ls rest)) : W p l e R s m args below meth c H locs cells slots Q (F0 m pc ls (v :: .ref a :: rest)) := by
  obtain ⟨f, hw, hC, ha, hF⟩ := hW
  subst hkv
  refine pw_put hexec hb hts hin ty0 hty hnm hown hG hw (hC.at hj).1 (hC.at hj).2 hc k hk (hts _ hlink) (fun _ h => h) hfin (hty k hk) hn hfit (by rw [hE.1]; exact hk) hdg (fun H1 locs1 hw1 => ?_)
  have haa : a ∈ as := ha _ (List.mem_of_getElem? hj)
  refine kk _ H1 locs1 ⟨_, hw1, hC.set hj, fun x hx => ?_, fun x hx => ?_⟩ (hE.set hk)
  · rcases List.mem_or_eq_of_mem_set hx with h | h
    · exact ha x h
    · rw [h]; exact haa
  · rw [va_up_ne _ _ (fun (q : x = a) => hx (by rw [q]; exact haa))]; exact hF x hx
theorem pq_setW {H1 : Heap} {locs1 : List Loc} {j : Nat} {e1 e2 : va_E} (hC : pq_C L f cs) (ha : ∀ x ∈ cs, x.1 ∈ as) (hF : ∀ x, x ∉ as → f x = f0 x) (hj : cs[j]? = some (a, e1)) (hw1 : pw_W D A H0 L (va_up f a e2) H1 locs1) : pq_W D A H0 L f0 as (cs.set j (a, e2)) H1 locs1 := by
  have haa : a ∈ as := ha _ (List.mem_of_getElem? hj)
  refine ⟨_, hw1, hC.set hj, fun x hx => ?_, fun x hx => ?_⟩
  · rcases List.mem_or_eq_of_mem_set hx with h | h
    · exact ha x h
    · rw [h]; exact haa
  · rw [va_up_ne _ _ (fun (q : x = a) => hx (by rw [q]; exact haa))]; exact hF x hx
theorem pq_iald (hexec : p.tables.exec = Jvm.exec) (hb : c.code = cc) (hG : pw_G D cy s) (hW : pq_W D A H0 L f0 as cs H locs) (j : Nat) {n : Nat} {g : Nat → Int32} (hj : cs[j]? = some (a, .inl (cy 1, n, .inl g))) {i v : Int32} (hin : vp_in i n) (hv : g i.toNatClampNeg = v) (hdg : decode cc pc = .ok (.iaload, 1))
    (kk : W p l e R s m args below meth c H locs cells slots Q (F0 m (pc + 1) ls (.int v :: rest))) : W p l e R s m args below meth c H locs cells slots Q (F0 m pc ls (.int i :: .ref a :: rest)) := by
  obtain ⟨f, hw, hC, ha, hF⟩ := hW
  obtain ⟨k0, hk0⟩ := va_pl_get (X := []) (f := f) (hC.at hj).1
  rw [(hC.at hj).2] at hk0
  subst hv
  exact va_iald hexec hb hG.1 hw.1 k0 1 hk0 rfl hin hdg kk
theorem pq_alen (hexec : p.tables.exec = Jvm.exec) (hb : c.code = cc) (hG : pw_G D cy s) (hW : pq_W D A H0 L f0 as cs H locs) (j t0 : Nat) {cA : ClassId} {x : vp_A} (hj : cs[j]? = some (a, .inl (cA, x))) {ty : FieldType} (ht : (pw_T cy)[t0]? = some (cA, ty)) {v : Int32} (hv : Int32.ofNat x.1 = v) (hdg : decode cc pc = .ok (.arraylength, 1))
    (kk : W p l e R s m args below meth c H locs cells slots Q (F0 m (pc + 1) ls (.int v :: rest))) : W p l e R s m args below meth c H locs cells slots Q (F0 m pc ls (.ref a :: rest)) := by
  obtain ⟨f, hw, hC, ha, hF⟩ := hW
  obtain ⟨k0, hk0⟩ := va_pl_get (X := []) (f := f) (hC.at hj).1
  rw [(hC.at hj).2] at hk0
  exact va_alen hexec hb hG.1 hw.1 k0 t0 hk0 ht hv hdg kk
theorem pq_iast (hexec : p.tables.exec = Jvm.exec) (hb : c.code = cc) (hG : pw_G D cy s) (hW : pq_W D A s.heap L f0 as cs H locs) (j : Nat) {n : Nat} {g : Nat → Int32} (hj : cs[j]? = some (a, .inl (cy 1, n, .inl g))) {i x : Int32} (hin : vp_in i n) (hdg : decode cc pc = .ok (.iastore, 1))
    (kk : ∀ (H1 : Heap) (locs1 : List Loc), pq_W D A s.heap L f0 as (cs.set j (a, .inl (cy 1, n, .inl (upd g i.toNatClampNeg x)))) H1 locs1 → W p l e R s m args below meth c H1 locs1 cells slots Q (F0 m (pc + 1) ls rest)) : W p l e R s m args below meth c H locs cells slots Q (F0 m pc ls (.int x :: .int i :: .ref a :: rest)) := by
  obtain ⟨f, hw, hC, ha, hF⟩ := hW
  obtain ⟨k0, hk0⟩ := va_pl_get (X := []) (f := f) (hC.at hj).1
  have hk1 := hk0
  rw [(hC.at hj).2] at hk0
  exact va_iast hexec hb hG.1 hw.1 hw.2.1 hw.2.2.1 k0 1 hk0 rfl hin hdg (fun H1 locs1 hP hD hS => kk H1 locs1 (pq_setW hC ha hF hj (pw_set hw (hC.at hj).1 hk1 hP hD hS)))
theorem pq_bast (hexec : p.tables.exec = Jvm.exec) (hb : c.code = cc) (hG : pw_G D cy s) (hW : pq_W D A s.heap L f0 as cs H locs) (j : Nat) {n : Nat} {g : Nat → Int32} (hj : cs[j]? = some (a, .inl (cy 0, n, .inl g))) {i x : Int32} (hin : vp_in i n) (hdg : decode cc pc = .ok (.bastore, 1))
    (kk : ∀ (H1 : Heap) (locs1 : List Loc), pq_W D A s.heap L f0 as (cs.set j (a, .inl (cy 0, n, .inl (upd g i.toNatClampNeg (vp_nar .byte x))))) H1 locs1 → W p l e R s m args below meth c H1 locs1 cells slots Q (F0 m (pc + 1) ls rest)) : W p l e R s m args below meth c H locs cells slots Q (F0 m pc ls (.int x :: .int i :: .ref a :: rest)) := by
  obtain ⟨f, hw, hC, ha, hF⟩ := hW
  obtain ⟨k0, hk0⟩ := va_pl_get (X := []) (f := f) (hC.at hj).1
  have hk1 := hk0
  rw [(hC.at hj).2] at hk0
  exact va_bast hexec hb hG.1 hw.1 hw.2.1 hw.2.2.1 k0 0 hk0 rfl hin hdg (fun H1 locs1 hP hD hS => kk H1 locs1 (pq_setW hC ha hF hj (pw_set hw (hC.at hj).1 hk1 hP hD hS)))
theorem pq_last (hexec : p.tables.exec = Jvm.exec) (hb : c.code = cc) (hG : pw_G D cy s) (hW : pq_W D A s.heap L f0 as cs H locs) (j : Nat) {n : Nat} {g : Nat → Int64} (hj : cs[j]? = some (a, .inl (cy 2, n, .inr (.inl g)))) {i : Int32} {x : Int64} (hin : vp_in i n) (hdg : decode cc pc = .ok (.lastore, 1))
    (kk : ∀ (H1 : Heap) (locs1 : List Loc), pq_W D A s.heap L f0 as (cs.set j (a, .inl (cy 2, n, .inr (.inl (vp_updL g i.toNatClampNeg x))))) H1 locs1 → W p l e R s m args below meth c H1 locs1 cells slots Q (F0 m (pc + 1) ls rest)) : W p l e R s m args below meth c H locs cells slots Q (F0 m pc ls (.long x :: .int i :: .ref a :: rest)) := by
  obtain ⟨f, hw, hC, ha, hF⟩ := hW
  obtain ⟨k0, hk0⟩ := va_pl_get (X := []) (f := f) (hC.at hj).1
  have hk1 := hk0
  rw [(hC.at hj).2] at hk0
  exact va_last hexec hb hG.1 hw.1 hw.2.1 hw.2.2.1 k0 2 hk0 rfl hin hdg (fun H1 locs1 hP hD hS => kk H1 locs1 (pq_setW hC ha hF hj (pw_set hw (hC.at hj).1 hk1 hP hD hS)))
theorem pq_lald (hexec : p.tables.exec = Jvm.exec) (hb : c.code = cc) (hG : pw_G D cy s) (hW : pq_W D A H0 L f0 as cs H locs) (j : Nat) {n : Nat} {g : Nat → Int64} (hj : cs[j]? = some (a, .inl (cy 2, n, .inr (.inl g)))) {i : Int32} {v : Int64} (hin : vp_in i n) (hv : g i.toNatClampNeg = v) (hdg : decode cc pc = .ok (.laload, 1))
    (kk : W p l e R s m args below meth c H locs cells slots Q (F0 m (pc + 1) ls (.long v :: rest))) : W p l e R s m args below meth c H locs cells slots Q (F0 m pc ls (.int i :: .ref a :: rest)) := by
  obtain ⟨f, hw, hC, ha, hF⟩ := hW
  obtain ⟨k0, hk0⟩ := va_pl_get (X := []) (f := f) (hC.at hj).1
  rw [(hC.at hj).2] at hk0
  subst hv
  exact va_lald hexec hb hG.1 hw.1 k0 2 hk0 rfl hin hdg kk
/-- a row of rows of ints: which row -/
theorem pq_aaldI (hexec : p.tables.exec = Jvm.exec) (hb : c.code = cc) (hG : pw_G D cy s) (hW : pq_W D A H0 L f0 as cs H locs) (j : Nat) {n v : Nat} {g : Nat → Option Nat} (hj : cs[j]? = some (a, .inl (cy 7, n, .inr (.inr (.inr (.inr g)))))) {i : Int32} (hin : vp_in i n) (hv : g i.toNatClampNeg = some v) (hdg : decode cc pc = .ok (.aaload, 1))
    (kk : W p l e R s m args below meth c H locs cells slots Q (F0 m (pc + 1) ls (.ref v :: rest))) : W p l e R s m args below meth c H locs cells slots Q (F0 m pc ls (.int i :: .ref a :: rest)) := by
  obtain ⟨f, hw, hC, ha, hF⟩ := hW
  obtain ⟨k0, hk0⟩ := va_pl_get (X := []) (f := f) (hC.at hj).1
  rw [(hC.at hj).2] at hk0
  have hlt : i.toNatClampNeg < n := Nat.not_le.mp fun q => hin (Or.inr q)
  have e9 : va_rf (g i.toNatClampNeg) = .ref v := by rw [hv]; rfl
  rw [← e9] at kk
  exact W.aald (v := va_rf (g i.toNatClampNeg)) (ty := .array .int) hexec hb (hw.1 k0 _ hk0) ((hG.1.2 7 (cy 7, .array .int) rfl).1 n (fun j => va_rf (g j))) rfl (fun q => by cases q) (by show ¬ (i < 0 ∨ (arrV _ _ _).slots.size ≤ _); rw [arrV_size]; exact hin) (by show (arrV _ _ _).slots[_]? = _; rw [arrV_read _ _ hlt]) rfl rfl hdg kk
theorem pq_copyi (hexec : p.tables.exec = Jvm.exec) (hb : c.code = cc) (hml : c.maxLocals = ls.size) {own : String} {index : Nat} (hown : s.vm.findClass own = some m.cls) (hlink : (Cond.methodLink own index arraycopyName).before args s = true) (hnat : (Cond.native arraycopyName).before args s = true) (hstat : (Cond.static arraycopyName).before args s = true) (hini : (Cond.initialized "java/lang/System").before args s = true) (hG : pw_G D cy s) (hW : pq_W D A s.heap L f0 as cs H locs) (j0 j1 : Nat) {a0 n0 n1 : Nat} {g0 g1 : Nat → Int32} (hj0 : cs[j0]? = some (a0, .inl (cy 1, n0, .inl g0))) (hj1 : cs[j1]? = some (a, .inl (cy 1, n1, .inl g1)))
    {sp dp n : Int32} (h1 : ¬ sp < 0) (h2 : ¬ dp < 0) (h3 : ¬ n < 0) (h4 : sp.toNatClampNeg + n.toNatClampNeg ≤ n0) (h5 : dp.toNatClampNeg + n.toNatClampNeg ≤ n1) (hfit : ∀ i, i < n.toNatClampNeg → fits .int (.int (g0 (sp.toNatClampNeg + i))) = true) (hframes : 1 ≤ R.frames) (hlocals : (rest.map fun v => v.category).sum + (nativeFrameWords "java/lang/System" "arraycopy" 5 + 11) ≤ R.locals) (hdg : decode cc pc = .ok (.invokestatic index, 3))
    (kk : ∀ (H1 : Heap) (locs1 : List Loc), pq_W D A s.heap L f0 as (cs.set j1 (a, .inl (cy 1, n1, .inl (va_cpy g0 g1 sp.toNatClampNeg dp.toNatClampNeg n.toNatClampNeg)))) H1 locs1 → W p l e R s m args below meth c H1 locs1 cells slots Q (F0 m (pc + 3) ls rest)) : W p l e R s m args below meth c H locs cells slots Q (F0 m pc ls (.int n :: .int dp :: .ref a :: .int sp :: .ref a0 :: rest)) := by
  obtain ⟨f, hw, hC, ha, hF⟩ := hW
  obtain ⟨k0, hk0⟩ := va_pl_get (X := []) (f := f) (hC.at hj0).1
  obtain ⟨k1, hk1⟩ := va_pl_get (X := []) (f := f) (hC.at hj1).1
  have hk9 := hk1
  rw [(hC.at hj0).2] at hk0
  rw [(hC.at hj1).2] at hk1
  exact va_copyi hexec hb hml hown hlink hnat hstat hini hG.1 hw.1 hw.2.1 hw.2.2.1 k0 k1 1 1 hk0 hk1 rfl rfl rfl h1 h2 h3 h4 h5 hfit hframes hlocals hdg (fun H1 locs1 hP hD hS => kk H1 locs1 (pq_setW hC ha hF hj1 (pw_set hw (hC.at hj1).1 hk9 hP hD hS)))
/-- what a callee asks of its caller -/
theorem pq_preV {C : String} {T : u_T} {N ci b j : Nat} {fs : List Value} {As : List Value} (hG : pw_G D cy s) (hw : pw_W D A s.heap L f H locs) (hC : pq_C L f cs) (hj : cs[j]? = some (b, .inr (ci, fs))) (hc : vwCl[ci]? = some (C, T, N)) : PreV s H C b (pw_Pc D cy (.ref b :: As) H.size L f) As := by
  obtain ⟨k0, hk0⟩ := va_pl_get (X := []) (f := f) (hC.at hj).1
  rw [(hC.at hj).2] at hk0
  exact ⟨pw_blind, va_recv hG.1 hw.1 hc hk0, (pw_pre hG hw).2⟩
theorem pq_back {L1 : List Nat} {f1 : Nat → va_E} {H1 : Heap} {locs1 : List Loc} {P : List (Nat × va_E) → Prop} (hw1 : pw_W D A H0 L1 f1 H1 locs1) (hC : pq_C L f cs) (ha : ∀ x ∈ cs, x.1 ∈ as) (hF : ∀ x, x ∉ as → f x = f0 x) (js ks : List Nat) (hjk : (js ++ ks).Nodup) (h0 : pq_pick cs js = cs0) (h2 : pq_pick cs ks = cs2) (hS : pq_S L f (cs0.map Prod.fst) P (L1, f1)) : ∃ cs1, P cs1 ∧ pq_W D A H0 L f0 as (cs1 ++ cs2) H1 locs1 := by
  obtain ⟨hL, ⟨cs1, hP, hC1, hm⟩, hF1⟩ := hS
  dsimp only at hL hC1 hF1
  subst hL h0 h2
  have has : ∀ x, x ∈ (pq_pick cs js).map Prod.fst → x ∈ as := fun x hx => by
    obtain ⟨y, hy, rfl⟩ := List.mem_map.mp hx
    exact ha y (pq_pick_mem hy)
  refine ⟨cs1, hP, f1, hw1, hC.join js ks hjk hC1 hm hF1, fun x hx => ?_, fun x hx => ?_⟩
  · rcases List.mem_append.mp hx with h | h
    · exact has _ (hm x h)
    · exact ha x (pq_pick_mem h)
  · rw [hF1 x (fun q => hx (has x q))]; exact hF x hx
theorem pq_callv {mc ms : Nat} {st0 : List Value} {a : Array Value} {P : List (Nat × va_E) → Prop} (hW : pq_W D A s.heap L f0 as cs H locs) (js ks : List Nat) (hjk : (js ++ ks).Nodup) (h0 : pq_pick cs js = cs0) (h2 : pq_pick cs ks = cs2)
    (hr : ∀ f, pw_W D A s.heap L f H locs → pq_C L f cs0 → va_Run p l e R s m args below meth c H locs cells slots mc ms (F0 m pc ls st0) rest (pq_Qv D H.size L f (cs0.map Prod.fst) P a) (pw_A L f H.size))
    (kk : ∀ (cs1 : List (Nat × va_E)) (H1 : Heap) (locs1 : List Loc), P cs1 → pq_W D A s.heap L f0 as (cs1 ++ cs2) H1 locs1 → W p l e R s m args below meth c H1 locs1 (cells + mc) (slots + ms) Q (F0 m (pc + 3) ls rest)) : W p l e R s m args below meth c H locs cells slots Q (F0 m pc ls st0) := by
  obtain ⟨f, hw, hC, ha, hF⟩ := hW
  have hC0 : pq_C L f cs0 := h0 ▸ hC.pick js (List.nodup_append.mp hjk).1
  refine pw_callv hw (hr f hw hC0) (fun L1 f1 H1 locs1 hw1 hS => ?_)
  obtain ⟨cs1, hP, h9⟩ := pq_back hw1 hC ha hF js ks hjk h0 h2 hS
  exact kk cs1 H1 locs1 hP h9
theorem pq_calli {mc ms : Nat} {st0 : List Value} {a : Array Value} {P : Int32 → List (Nat × va_E) → Prop} (hW : pq_W D A s.heap L f0 as cs H locs) (js ks : List Nat) (hjk : (js ++ ks).Nodup) (h0 : pq_pick cs js = cs0) (h2 : pq_pick cs ks = cs2)
    (hr : ∀ f, pw_W D A s.heap L f H locs → pq_C L f cs0 → va_Run p l e R s m args below meth c H locs cells slots mc ms (F0 m pc ls st0) rest (pq_Qi D H.size L f (cs0.map Prod.fst) P a) (pw_A L f H.size))
    (kk : ∀ (r : Int32) (cs1 : List (Nat × va_E)) (H1 : Heap) (locs1 : List Loc), P r cs1 → pq_W D A s.heap L f0 as (cs1 ++ cs2) H1 locs1 → W p l e R s m args below meth c H1 locs1 (cells + mc) (slots + ms) Q (F0 m (pc + 3) ls (.int r :: rest))) : W p l e R s m args below meth c H locs cells slots Q (F0 m pc ls st0) := by
  obtain ⟨f, hw, hC, ha, hF⟩ := hW
  have hC0 : pq_C L f cs0 := h0 ▸ hC.pick js (List.nodup_append.mp hjk).1
  have hsub : ∀ q, pw_A L f H.size q → A q := fun q h => by
    rcases h with ⟨k, e1, h⟩ | h
    · exact hw.2.1.2 k _ h
    · exact hw.2.2.2 q (Nat.le_trans hw.2.2.1.1 h)
  refine va_calli (hr f hw hC0) hw.2.2.1 (fun q _ h => hsub q h) hsub (fun r u t H1 locs1 ht _ hp hB _ _ hS => ?_)
  obtain ⟨L1, f1⟩ := u
  obtain ⟨hP1, hD1⟩ := hB
  rw [ht] at hP1
  obtain ⟨cs1, hP, h9⟩ := pq_back ⟨hP1, hD1.weaken (fun k q _ h => hsub q.1 h), hS, hw.2.2.2⟩ hC ha hF js ks hjk h0 h2 hp
  exact kk r cs1 H1 locs1 hP h9
theorem pq_calll {mc ms : Nat} {st0 : List Value} {a : Array Value} {P : Int64 → List (Nat × va_E) → Prop} (hW : pq_W D A s.heap L f0 as cs H locs) (js ks : List Nat) (hjk : (js ++ ks).Nodup) (h0 : pq_pick cs js = cs0) (h2 : pq_pick cs ks = cs2)
    (hr : ∀ f, pw_W D A s.heap L f H locs → pq_C L f cs0 → va_Run p l e R s m args below meth c H locs cells slots mc ms (F0 m pc ls st0) rest (pq_Ql D H.size L f (cs0.map Prod.fst) P a) (pw_A L f H.size))
    (kk : ∀ (r : Int64) (cs1 : List (Nat × va_E)) (H1 : Heap) (locs1 : List Loc), P r cs1 → pq_W D A s.heap L f0 as (cs1 ++ cs2) H1 locs1 → W p l e R s m args below meth c H1 locs1 (cells + mc) (slots + ms) Q (F0 m (pc + 3) ls (.long r :: rest))) : W p l e R s m args below meth c H locs cells slots Q (F0 m pc ls st0) := by
  obtain ⟨f, hw, hC, ha, hF⟩ := hW
  have hC0 : pq_C L f cs0 := h0 ▸ hC.pick js (List.nodup_append.mp hjk).1
  have hsub : ∀ q, pw_A L f H.size q → A q := fun q h => by
    rcases h with ⟨k, e1, h⟩ | h
    · exact hw.2.1.2 k _ h
    · exact hw.2.2.2 q (Nat.le_trans hw.2.2.1.1 h)
  refine va_calll (hr f hw hC0) hw.2.2.1 (fun q _ h => hsub q h) hsub (fun r u t H1 locs1 ht _ hp hB _ _ hS => ?_)
  obtain ⟨L1, f1⟩ := u
  obtain ⟨hP1, hD1⟩ := hB
  rw [ht] at hP1
  obtain ⟨cs1, hP, h9⟩ := pq_back ⟨hP1, hD1.weaken (fun k q _ h => hsub q.1 h), hS, hw.2.2.2⟩ hC ha hF js ks hjk h0 h2 hp
  exact kk r cs1 H1 locs1 hP h9
/-- the world at the end, as a method's end wants it -/
theorem pq_end {P : List (Nat × va_E) → Prop} (hW : pq_W D A H0 L f0 as cs H locs) (hp : P cs) : ∃ f, pw_W D A H0 L f H locs ∧ pq_S L f0 as P (L, f) := by
  obtain ⟨f, hw, hC, ha, hF⟩ := hW
  exact ⟨f, hw, rfl, ⟨cs, hp, hC, ha⟩, hF⟩
theorem pq_vret {P : List (Nat × va_E) → Prop} (hexec : p.tables.exec = Jvm.exec) (hb : c.code = cc) (hr : meth.sig.returnType = none) (hlocks : meth.locks = false) (hW : pq_W D (pw_A L f0 sz) s.heap L f0 as cs H locs) (hp : P cs) (hdg : decode cc pc = .ok (.return_, 1)) :
    W p l e R s m args below meth c H locs cells slots (MQ below (pq_Qv D sz L f0 as P) args s cells slots (pw_A L f0 sz)) (F0 m pc ls []) := by
  obtain ⟨f, hw, hS⟩ := pq_end hW hp
  exact W.vret hexec hb hr (fun t ht hW => ⟨⟨(L, f), rfl, hS, by rw [ht]; exact hw.1, hw.2.1⟩, hw.2.2.1.F ht⟩) hw.2.2.1.2.2 hdg
theorem pq_iret {P : Int32 → List (Nat × va_E) → Prop} {ty : FieldType} (hexec : p.tables.exec = Jvm.exec) (hb : c.code = cc) (hr : meth.sig.returnType = some ty) (hlocks : meth.locks = false) {x : Int32} (hn : narrow ty (.int x) = .int x) (hW : pq_W D (pw_A L f0 sz) s.heap L f0 as cs H locs) (hp : P x cs) (hdg : decode cc pc = .ok (.ireturn, 1)) :
    W p l e R s m args below meth c H locs cells slots (MQ below (pq_Qi D sz L f0 as P) args s cells slots (pw_A L f0 sz)) (F0 m pc ls [.int x]) := by
  obtain ⟨f, hw, hS⟩ := pq_end (P := P x) hW hp
  exact W.zret hexec hb hr hn (fun t ht hW => ⟨⟨x, (L, f), rfl, hS, by rw [ht]; exact hw.1, hw.2.1⟩, hw.2.2.1.F ht⟩) hw.2.2.1.2.2 hdg
theorem pq_lret {P : Int64 → List (Nat × va_E) → Prop} (hexec : p.tables.exec = Jvm.exec) (hb : c.code = cc) (hr : meth.sig.returnType = some .long) (hlocks : meth.locks = false) {x : Int64} (hW : pq_W D (pw_A L f0 sz) s.heap L f0 as cs H locs) (hp : P x cs) (hdg : decode cc pc = .ok (.lreturn, 1)) :
    W p l e R s m args below meth c H locs cells slots (MQ below (pq_Ql D sz L f0 as P) args s cells slots (pw_A L f0 sz)) (F0 m pc ls [.long x]) := by
  obtain ⟨f, hw, hS⟩ := pq_end (P := P x) hW hp
  exact W.lret hexec hb hr (fun t ht hW => ⟨⟨x, (L, f), rfl, hS, by rw [ht]; exact hw.1, hw.2.1⟩, hw.2.2.1.F ht⟩) hw.2.2.1.2.2 hdg
end PQ
end
section
/-! WHAT THE CLASS THROWS: its texts, the words of the two exceptions that no list of words carries, Throwable's two statics. -/
def px_IAE : String := "java/lang/IllegalArgumentException"
def px_ISE : String := "java/lang/IllegalStateException"
def px_strs : List (Nat × String) := [(106, "the tape would be too long"), (117, "the tape has not so many bytes"), (143, "no such what"), (210, "no such word"), (216, "no such cell"), (240, "no such fun"), (298, "the collection is full"), (360, "no such tongue"), (362, "no such kind"), (364, "no such place")]
def px_X (sa : Nat → Nat) (A : Nat → Prop) (U : State) (H : Heap) : Prop :=
  (∀ x ∈ px_strs, vk_R RX12 x.1 x.2 (sa x.1) U) ∧
  (va_Nw (.castable "java/lang/IllegalArgumentException" "java/lang/IllegalArgumentException") U ∧ va_Nw (.castable "java/lang/IllegalStateException" "java/lang/IllegalStateException") U ∧
    va_Nw (.declares ⟨"java/lang/RuntimeException", "<init>", "(Ljava/lang/String;)V"⟩) U ∧ va_Nw (.declares ⟨"java/lang/Exception", "<init>", "(Ljava/lang/String;)V"⟩) U ∧ va_Nw (.declares ⟨"java/lang/Throwable", "<init>", "(Ljava/lang/String;)V"⟩) U) ∧
  vx_Zq Bundle.tN "UNASSIGNED_STACK" Bundle.steD A U H ∧ vx_Zq Bundle.tN "SUPPRESSED_SENTINEL" Bundle.listD A U H
theorem px_X.to {sa : Nat → Nat} {A A' : Nat → Prop} {s U : State} {H H1 : Heap} (hW : s.WarmedH U.vm) (hk : ∀ q : Nat, q < H.size → ¬ A q → H1[q]? = H[q]?) (hA : ∀ q, A' q → A q) (h : px_X sa A s H) : px_X sa A' U H1 :=
  ⟨fun x hx => (h.1 x hx).warm hW, ⟨va_Nw.warmC hW h.2.1.1, va_Nw.warmC hW h.2.1.2.1, va_Nw.warmD hW h.2.1.2.2.1, va_Nw.warmD hW h.2.1.2.2.2.1, va_Nw.warmD hW h.2.1.2.2.2.2⟩,
    ((h.2.2.1.moved hW.alike).kept hk).narrow hA, ((h.2.2.2.moved hW.alike).kept hk).narrow hA⟩
theorem px_X.same {sa : Nat → Nat} {A : Nat → Prop} {s U : State} {H : Heap} (hv : s.vm = U.vm) (h : px_X sa A s H) : px_X sa A U H := by
  have ha : s.vm.Alike U.vm := by rw [← hv]; exact Vm.Alike.refl s.vm
  exact ⟨fun x hx => (h.1 x hx).same hv.symm, ⟨va_Nw.same rfl hv h.2.1.1, va_Nw.same rfl hv h.2.1.2.1, va_Nw.same rfl hv h.2.1.2.2.1, va_Nw.same rfl hv h.2.1.2.2.2.1, va_Nw.same rfl hv h.2.1.2.2.2.2⟩, h.2.2.1.moved ha, h.2.2.2.moved ha⟩
/-- the start of a method that may throw -/
def px_Pc (D : va_G) (cy : Nat → ClassId) (sa : Nat → Nat) (av : List Value) (sz : Nat) (L : List Nat) (f : Nat → va_E) : Array Value → State → Prop :=
  va_Pc av (fun U => U.heap.size = sz ∧ pw_G D cy U ∧ px_X sa (pw_A L f sz) U U.heap ∧ va_P D vwCl (va_pl L f) U.heap ∧ va_D (fun _ => True) (va_pl L f))
theorem px_blind {D : va_G} {cy : Nat → ClassId} {sa : Nat → Nat} {av : List Value} {sz : Nat} {L : List Nat} {f : Nat → va_E} : FrameBlind (px_Pc D cy sa av sz L f) := by
  intro a U g mk q
  obtain ⟨q0, q1, qG, qX, qP, qD⟩ := q
  exact ⟨q0, q1, pw_G.same (s := U) (U := U.calling g mk a) rfl qG, px_X.same (s := U) (U := U.calling g mk a) rfl qX, qP, qD⟩
/-- where it throws: the class by its name, the pool as it stands then -/
def px_T (D : va_G) (A : Nat → Prop) (px : String → List Nat × (Nat → va_E) → Prop) : String → State → State → Prop := vx_X (fun _ : List Nat × (Nat → va_E) => True) (fun E u t => px E u ∧ pw_B D A u t) A
/-- the words of the throw of an IllegalArgumentException -/
def px_atI : List Cond := vx_atS RX12 119 "java/lang/IllegalArgumentException" ["java/lang/RuntimeException", "java/lang/Exception"]
theorem px_badI : ∀ w ∈ px_atI.filter (fun w => !goodWord w), w ∈ [Cond.castable "java/lang/IllegalArgumentException" "java/lang/IllegalArgumentException", .declares ⟨"java/lang/RuntimeException", "<init>", "(Ljava/lang/String;)V"⟩, .declares ⟨"java/lang/Exception", "<init>", "(Ljava/lang/String;)V"⟩, .declares ⟨"java/lang/Throwable", "<init>", "(Ljava/lang/String;)V"⟩] := by decide +kernel
theorem px_goodI : ∀ w ∈ Cond.classLink RX12 115 "java/lang/IllegalArgumentException" :: Cond.initialized "java/lang/IllegalArgumentException" :: px_atI, vx_ot w = true := by decide +kernel
theorem px_fitI : Bundle.fit "java/lang/IllegalArgumentException" = true := by decide +kernel
theorem px_fitN : ∀ n ∈ ["java/lang/RuntimeException", "java/lang/Exception"], Bundle.fit n = true := by decide +kernel
section PX
variable {p : Program} {l : Launch} {e : Env} {R : Room} {s : State} {m : MethodId} {args : Array Value} {below : List Frame} {meth : Method} {c : Code} {H : Heap} {locs : List Loc} {cells slots : Nat} {Q : State → Prop}
variable {D : va_G} {cy : Nat → ClassId} {sa : Nat → Nat} {sz : Nat} {L as : List Nat} {f f0 : Nat → va_E} {Qc : Array Value → State → Outcome → State → Prop} {XC : String → State → State → Prop} {PX : String → List (Nat × va_E) → Prop} {ls : Array Slot} {rest : List Value} {Ts : List Cond} {cs cs0 cs2 : List (Nat × va_E)} {cc : ByteArray} {pc : Nat} {A : Nat → Prop}
/-- where it throws: the class by its name, the cells then -/
def pq_T (D : va_G) (sz : Nat) (L : List Nat) (f : Nat → va_E) (as : List Nat) (PX : String → List (Nat × va_E) → Prop) : String → State → State → Prop := px_T D (pw_A L f sz) (fun E u => pq_S L f as (PX E) u)
theorem px_thrown (hW : pq_W D (pw_A L f0 sz) s.heap L f0 as cs H locs) {E : String} (hp : PX E cs) : ∃ f, pw_W D (pw_A L f0 sz) s.heap L f H locs ∧ (∀ t : State, s.vm.Alike t.vm → H.size ≤ t.heap.size → (∀ q : Nat, q < H.size → t.heap[q]? = H[q]?) → pq_T D sz L f0 as PX E s t) := by
  obtain ⟨f, hw, hS⟩ := pq_end (P := PX E) hW hp
  exact ⟨f, hw, fun t _ hz hkk => ⟨(L, f), trivial, ⟨hS, hw.1.kept (fun k q hq => hkk q.1 ((hw.1 k q hq).lt)), hw.2.1⟩, Nat.le_trans hw.2.2.1.1 hz, fun q h1 h2 => (hkk q (Nat.lt_of_lt_of_le h1 hw.2.2.1.1)).trans (hw.2.2.1.2.1 q h1 h2)⟩⟩
theorem px_hat (hts : ∀ w ∈ Ts, w.before args s = true) (hat : ∀ w ∈ px_atI.filter goodWord, w ∈ Ts) {A : Nat → Prop} (hX : px_X sa A s s.heap) : ∀ w ∈ px_atI, w.before args s = true :=
  vx_hat (fun w hw => hts w (hat w hw)) px_badI (vx_c (va_Nw.use rfl hX.2.1.1) (vx_c (va_Nw.use rfl hX.2.1.2.2.1) (vx_c (va_Nw.use rfl hX.2.1.2.2.2.1) (vx_c (va_Nw.use rfl hX.2.1.2.2.2.2) vx_n))))
/-- the class throws an IllegalArgumentException with a text -/
theorem px_throwI (hexec : p.tables.exec = Jvm.exec) (hb : c.code = cc) (hl : l.stackTraces = false) {text : String} {is mc ms : Nat} (hts : ∀ w ∈ Ts, w.before args s = true) (hown : s.vm.findClass RX12 = some m.cls)
    (hk : Cond.classLink RX12 115 "java/lang/IllegalArgumentException" ∈ Ts) (hini : Cond.initialized "java/lang/IllegalArgumentException" ∈ Ts) (hat : ∀ w ∈ px_atI.filter goodWord, w ∈ Ts) (hst : (is, text) ∈ px_strs)
    (hX : px_X sa (pw_A L f0 sz) s s.heap) (hW : pq_W D (pw_A L f0 sz) s.heap L f0 as cs H locs) (hp : PX px_IAE cs) (hsize : ls.size = c.maxLocals)
    (d0 : decode cc pc = .ok (.new 115, 3)) (d3 : decode cc (pc + 3) = .ok (.dup, 1)) (d4 : decode cc (pc + 4) = .ok (.ldc is, 2)) (d6 : decode cc (pc + 6) = .ok (.invokespecial 119, 3)) (d9 : decode cc (pc + 9) = .ok (.athrow, 1))
    (hout : ∀ x ∈ c.exceptionTable.toList, False) (hRframes : 5 < R.frames) (hRlocals : (rest.map fun v => v.category).sum + 82 ≤ R.locals) (hRcells : cells + 1 ≤ R.cells) (hRslots : slots + 6 ≤ R.slots) (hlocks : meth.locks = false) (hc : cells + 1 ≤ mc) (hs : slots + 6 ≤ ms) :
    W p l e R s m args below meth c H locs cells slots (vx_MQ below Qc (pq_T D sz L f0 as PX) args s mc ms (pw_A L f0 sz)) (F0 m pc ls rest) := by
  obtain ⟨f, hw, hT⟩ := px_thrown (PX := PX) hW hp
  exact vx_throwS (cls := "java/lang/IllegalArgumentException") (names := ["java/lang/RuntimeException", "java/lang/Exception"]) hexec hb hl hown px_fitI px_fitN (hts _ hk) (hts _ hini) (hX.1 _ hst) (px_hat hts hat hX) px_goodI hX.2.2.1 hX.2.2.2 hw.2.2.1 hsize d0 d3 d4 d6 d9 (fun x hx => (hout x hx).elim) hRframes hRlocals hRcells hRslots hlocks hT hw.2.2.1.2.2 hc hs
theorem px_throwIW (hexec : p.tables.exec = Jvm.exec) (hb : c.code = cc) (hl : l.stackTraces = false) {text : String} {is mc ms : Nat} (hts : ∀ w ∈ Ts, w.before args s = true) (hown : s.vm.findClass RX12 = some m.cls)
    (hk : Cond.classLink RX12 115 "java/lang/IllegalArgumentException" ∈ Ts) (hini : Cond.initialized "java/lang/IllegalArgumentException" ∈ Ts) (hat : ∀ w ∈ px_atI.filter goodWord, w ∈ Ts) (hst : (is, text) ∈ px_strs)
    (hX : px_X sa (pw_A L f0 sz) s s.heap) (hW : pq_W D (pw_A L f0 sz) s.heap L f0 as cs H locs) (hp : PX px_IAE cs) (hsize : ls.size = c.maxLocals)
    (d0 : decode cc pc = .ok (.new 115, 3)) (d3 : decode cc (pc + 3) = .ok (.dup, 1)) (d4 : decode cc (pc + 4) = .ok (.ldc_w is, 3)) (d7 : decode cc (pc + 7) = .ok (.invokespecial 119, 3)) (d10 : decode cc (pc + 10) = .ok (.athrow, 1))
    (hout : ∀ x ∈ c.exceptionTable.toList, False) (hRframes : 5 < R.frames) (hRlocals : (rest.map fun v => v.category).sum + 82 ≤ R.locals) (hRcells : cells + 1 ≤ R.cells) (hRslots : slots + 6 ≤ R.slots) (hlocks : meth.locks = false) (hc : cells + 1 ≤ mc) (hs : slots + 6 ≤ ms) :
    W p l e R s m args below meth c H locs cells slots (vx_MQ below Qc (pq_T D sz L f0 as PX) args s mc ms (pw_A L f0 sz)) (F0 m pc ls rest) := by
  obtain ⟨f, hw, hT⟩ := px_thrown (PX := PX) hW hp
  exact vx_throwSW (cls := "java/lang/IllegalArgumentException") (names := ["java/lang/RuntimeException", "java/lang/Exception"]) hexec hb hl hown px_fitI px_fitN (hts _ hk) (hts _ hini) (hX.1 _ hst) (px_hat hts hat hX) px_goodI hX.2.2.1 hX.2.2.2 hw.2.2.1 hsize d0 d3 d4 d7 d10 (fun x hx => (hout x hx).elim) hRframes hRlocals hRcells hRslots hlocks hT hw.2.2.1.2.2 hc hs
/-- a callee's exception goes on to the caller -/
theorem pq_out {E : String} {ce : Cell} {q : Addr} {mc ms : Nat} (hout : ∀ x ∈ c.exceptionTable.toList, False) (hlocks : meth.locks = false) (hcell : H[q]? = some ce) (hv : ce.vm = .none) (hcl : s.vm.findClass E = some ce.cls)
    (hW : pq_W D (pw_A L f0 sz) s.heap L f0 as cs H locs) (hp : PX E cs) (hc : cells ≤ mc) (hs : slots ≤ ms) :
    vx_W p l e R s m args below meth c H locs cells slots (vx_MQ below Qc (pq_T D sz L f0 as PX) args s mc ms (pw_A L f0 sz)) (F0 m pc ls rest) q := by
  obtain ⟨f, hw, hT⟩ := px_thrown (PX := PX) hW hp
  exact vx_out (fun x hx => (hout x hx).elim) hlocks hcell hv hcl (fun t ht hvm => hT t hvm (by rw [ht]; exact Nat.le_refl _) (fun q _ => by rw [ht])) hw.2.2.1.2.2 hc hs
/-- the ends of a method that may throw -/
theorem px_iret {P : Int32 → List (Nat × va_E) → Prop} {ty : FieldType} {mc ms : Nat} (hexec : p.tables.exec = Jvm.exec) (hb : c.code = cc) (hr : meth.sig.returnType = some ty) (hlocks : meth.locks = false) {x : Int32} (hn : narrow ty (.int x) = .int x) (hW : pq_W D (pw_A L f0 sz) s.heap L f0 as cs H locs) (hp : P x cs) (hc : cells ≤ mc) (hs : slots ≤ ms) (hdg : decode cc pc = .ok (.ireturn, 1)) :
    W p l e R s m args below meth c H locs cells slots (vx_MQ below (pq_Qi D sz L f0 as P) XC args s mc ms (pw_A L f0 sz)) (F0 m pc ls [.int x]) := vx_ret (W.widen hc hs (pq_iret hexec hb hr hlocks hn hW hp hdg))
theorem px_vret {P : List (Nat × va_E) → Prop} {mc ms : Nat} (hexec : p.tables.exec = Jvm.exec) (hb : c.code = cc) (hr : meth.sig.returnType = none) (hlocks : meth.locks = false) (hW : pq_W D (pw_A L f0 sz) s.heap L f0 as cs H locs) (hp : P cs) (hc : cells ≤ mc) (hs : slots ≤ ms) (hdg : decode cc pc = .ok (.return_, 1)) :
    W p l e R s m args below meth c H locs cells slots (vx_MQ below (pq_Qv D sz L f0 as P) XC args s mc ms (pw_A L f0 sz)) (F0 m pc ls []) := vx_ret (W.widen hc hs (pq_vret hexec hb hr hlocks hW hp hdg))
/-- what a callee that may throw asks of its caller's pool -/
theorem pq_xpre {av : List Value} (hG : pw_G D cy s) (hX : px_X sa A s s.heap) (hw : pw_W D A s.heap L f H locs) : ∀ U : State, U.heap = H → s.WarmedH U.vm → px_Pc D cy sa av H.size L f av.toArray U := fun U hU hW => by
  refine ⟨rfl, by rw [hU], hG.warm hW, ?_, by rw [hU]; exact hw.1, hw.2.1.weaken (fun _ _ _ _ => trivial)⟩
  refine hX.to hW (fun q h1 h2 => by rw [hU]; exact hw.2.2.1.2.1 q h1 h2) (fun q h => ?_)
  rcases h with ⟨k, e1, h⟩ | h
  · exact hw.2.1.2 k _ h
  · exact hw.2.2.2 q (Nat.le_trans hw.2.2.1.1 h)
theorem pq_xpreS {av : List Value} (hG : pw_G D cy s) (hX : px_X sa A s s.heap) (hw : pw_W D A s.heap L f H locs) : PreS s H (px_Pc D cy sa av H.size L f) av := ⟨px_blind, pq_xpre hG hX hw⟩
theorem pq_xpreV {C : String} {T : u_T} {N ci b j : Nat} {fs : List Value} {As : List Value} (hG : pw_G D cy s) (hX : px_X sa A s s.heap) (hw : pw_W D A s.heap L f H locs) (hC : pq_C L f cs) (hj : cs[j]? = some (b, .inr (ci, fs))) (hc : vwCl[ci]? = some (C, T, N)) : PreV s H C b (px_Pc D cy sa (.ref b :: As) H.size L f) As := by
  obtain ⟨k0, hk0⟩ := va_pl_get (X := []) (f := f) (hC.at hj).1
  rw [(hC.at hj).2] at hk0
  exact ⟨px_blind, va_recv hG.1 hw.1 hc hk0, pq_xpre hG hX hw⟩
theorem pq_sub (hw : pw_W D A s.heap L f H locs) : ∀ q, pw_A L f H.size q → A q := fun q h => by
  rcases h with ⟨k, e1, h⟩ | h
  · exact hw.2.1.2 k _ h
  · exact hw.2.2.2 q (Nat.le_trans hw.2.2.1.1 h)
/-- behind a call that may throw -/
theorem pq_xcalli {mc ms : Nat} {st0 : List Value} {a : Array Value} {P : Int32 → List (Nat × va_E) → Prop} (hW : pq_W D A s.heap L f0 as cs H locs) (js ks : List Nat) (hjk : (js ++ ks).Nodup) (h0 : pq_pick cs js = cs0) (h2 : pq_pick cs ks = cs2)
    (hr : ∀ f, pw_W D A s.heap L f H locs → pq_C L f cs0 → vx_Run p l e R s m args below meth c H locs cells slots mc ms (F0 m pc ls st0) rest (pq_Qi D H.size L f (cs0.map Prod.fst) P a) (pq_T D H.size L f (cs0.map Prod.fst) PX) (pw_A L f H.size))
    (kx : ∀ (E : String) (ce : Cell) (q9 : Nat) (cs1 : List (Nat × va_E)) (H1 : Heap) (locs1 : List Loc), PX E cs1 → pq_W D A s.heap L f0 as (cs1 ++ cs2) H1 locs1 → H1[q9]? = some ce → ce.vm = .none → s.vm.findClass E = some ce.cls → vx_W p l e R s m args below meth c H1 locs1 (cells + mc) (slots + ms) Q (F0 m pc ls rest) q9)
    (kk : ∀ (r : Int32) (cs1 : List (Nat × va_E)) (H1 : Heap) (locs1 : List Loc), P r cs1 → pq_W D A s.heap L f0 as (cs1 ++ cs2) H1 locs1 → W p l e R s m args below meth c H1 locs1 (cells + mc) (slots + ms) Q (F0 m (pc + 3) ls (.int r :: rest))) : W p l e R s m args below meth c H locs cells slots Q (F0 m pc ls st0) := by
  obtain ⟨f, hw, hC, ha, hF⟩ := hW
  have hC0 : pq_C L f cs0 := h0 ▸ hC.pick js (List.nodup_append.mp hjk).1
  refine vx_calli (hr f hw hC0) hw.2.2.1 (fun q _ h => pq_sub hw q h) (pq_sub hw) (fun q _ h => pq_sub hw q h) (fun E ce q9 u t H1 locs1 ht _ _ hB _ _ hS hce hcv hcl => ?_) (fun r u t H1 locs1 ht _ hp hB _ _ hS => ?_)
  · obtain ⟨L1, f1⟩ := u
    obtain ⟨hp, hP1, hD1⟩ := hB
    rw [ht] at hP1
    obtain ⟨cs1, hP, h9⟩ := pq_back ⟨hP1, hD1.weaken (fun k q _ h => pq_sub hw q.1 h), hS, hw.2.2.2⟩ hC ha hF js ks hjk h0 h2 hp
    exact kx E ce q9 cs1 H1 locs1 hP h9 hce hcv hcl
  · obtain ⟨L1, f1⟩ := u
    obtain ⟨hP1, hD1⟩ := hB
    rw [ht] at hP1
    obtain ⟨cs1, hP, h9⟩ := pq_back ⟨hP1, hD1.weaken (fun k q _ h => pq_sub hw q.1 h), hS, hw.2.2.2⟩ hC ha hF js ks hjk h0 h2 hp
    exact kk r cs1 H1 locs1 hP h9
theorem pq_xcallv {mc ms : Nat} {st0 : List Value} {a : Array Value} {P : List (Nat × va_E) → Prop} (hW : pq_W D A s.heap L f0 as cs H locs) (js ks : List Nat) (hjk : (js ++ ks).Nodup) (h0 : pq_pick cs js = cs0) (h2 : pq_pick cs ks = cs2)
    (hr : ∀ f, pw_W D A s.heap L f H locs → pq_C L f cs0 → vx_Run p l e R s m args below meth c H locs cells slots mc ms (F0 m pc ls st0) rest (pq_Qv D H.size L f (cs0.map Prod.fst) P a) (pq_T D H.size L f (cs0.map Prod.fst) PX) (pw_A L f H.size))
    (kx : ∀ (E : String) (ce : Cell) (q9 : Nat) (cs1 : List (Nat × va_E)) (H1 : Heap) (locs1 : List Loc), PX E cs1 → pq_W D A s.heap L f0 as (cs1 ++ cs2) H1 locs1 → H1[q9]? = some ce → ce.vm = .none → s.vm.findClass E = some ce.cls → vx_W p l e R s m args below meth c H1 locs1 (cells + mc) (slots + ms) Q (F0 m pc ls rest) q9)
    (kk : ∀ (cs1 : List (Nat × va_E)) (H1 : Heap) (locs1 : List Loc), P cs1 → pq_W D A s.heap L f0 as (cs1 ++ cs2) H1 locs1 → W p l e R s m args below meth c H1 locs1 (cells + mc) (slots + ms) Q (F0 m (pc + 3) ls rest)) : W p l e R s m args below meth c H locs cells slots Q (F0 m pc ls st0) := by
  obtain ⟨f, hw, hC, ha, hF⟩ := hW
  have hC0 : pq_C L f cs0 := h0 ▸ hC.pick js (List.nodup_append.mp hjk).1
  refine vx_callv (hr f hw hC0) hw.2.2.1 (fun q _ h => pq_sub hw q h) (pq_sub hw) (fun q _ h => pq_sub hw q h) (fun E ce q9 u t H1 locs1 ht _ _ hB _ _ hS hce hcv hcl => ?_) (fun u t H1 locs1 ht _ hp hB _ _ hS => ?_)
  · obtain ⟨L1, f1⟩ := u
    obtain ⟨hp, hP1, hD1⟩ := hB
    rw [ht] at hP1
    obtain ⟨cs1, hP, h9⟩ := pq_back ⟨hP1, hD1.weaken (fun k q _ h => pq_sub hw q.1 h), hS, hw.2.2.2⟩ hC ha hF js ks hjk h0 h2 hp
    exact kx E ce q9 cs1 H1 locs1 hP h9 hce hcv hcl
  · obtain ⟨L1, f1⟩ := u
    obtain ⟨hP1, hD1⟩ := hB
    rw [ht] at hP1
    obtain ⟨cs1, hP, h9⟩ := pq_back ⟨hP1, hD1.weaken (fun k q _ h => pq_sub hw q.1 h), hS, hw.2.2.2⟩ hC ha hF js ks hjk h0 h2 hp
    exact kk cs1 H1 locs1 hP h9
/-- behind a call that always throws -/
theorem pq_xcallN {mc ms : Nat} {st0 : List Value} (hW : pq_W D A s.heap L f0 as cs H locs) (js ks : List Nat) (hjk : (js ++ ks).Nodup) (h0 : pq_pick cs js = cs0) (h2 : pq_pick cs ks = cs2)
    (hr : ∀ f, pw_W D A s.heap L f H locs → pq_C L f cs0 → vx_Run p l e R s m args below meth c H locs cells slots mc ms (F0 m pc ls st0) rest (fun _ _ _ => False) (pq_T D H.size L f (cs0.map Prod.fst) PX) (pw_A L f H.size))
    (kx : ∀ (E : String) (ce : Cell) (q9 : Nat) (cs1 : List (Nat × va_E)) (H1 : Heap) (locs1 : List Loc), PX E cs1 → pq_W D A s.heap L f0 as (cs1 ++ cs2) H1 locs1 → H1[q9]? = some ce → ce.vm = .none → s.vm.findClass E = some ce.cls → vx_W p l e R s m args below meth c H1 locs1 (cells + mc) (slots + ms) Q (F0 m pc ls rest) q9) : W p l e R s m args below meth c H locs cells slots Q (F0 m pc ls st0) := by
  obtain ⟨f, hw, hC, ha, hF⟩ := hW
  have hC0 : pq_C L f cs0 := h0 ▸ hC.pick js (List.nodup_append.mp hjk).1
  intro T hT X
  rcases hr f hw hC0 T hT X with ⟨v, st₀, t, T', L1, h9, X', hL, e1, e2, hf, st⟩ | ⟨q, st₀, t, T', L1, E, ce, h9, X', hL, e1, e2, ⟨u, _, hb, hF9⟩, hce, hcv, hcl, st⟩
  · exact hf.elim
  · obtain ⟨k1, k2, k3⟩ := vx_keep h9 e1 hw.2.2.1 (fun q _ h => pq_sub hw q h) (pq_sub hw) hL hF9
    obtain ⟨L2, f2⟩ := u
    obtain ⟨hp, hP1, hD1⟩ := hb
    rw [← e1] at hP1
    obtain ⟨cs1, hP, h8⟩ := pq_back ⟨hP1, hD1.weaken (fun k q _ h => pq_sub hw q.1 h), k3, hw.2.2.2⟩ hC ha hF js ks hjk h0 h2 hp
    obtain ⟨t2, a1, b1⟩ := kx E ce q cs1 T'.heap (locs ++ L1) hP h8 (by rw [e1]; exact hce) hcv hcl T' rfl X'
    exact ⟨t2, st.trans a1, b1⟩
end PX
end
section
theorem dX12_add_0 : decode cX12_add 0 = .ok (.aload_n 0, 1) := by decide +kernel
theorem dX12_add_1 : decode cX12_add 1 = .ok (.iload_n 1, 1) := by decide +kernel
theorem dX12_add_2 : decode cX12_add 2 = .ok (.invokevirtual 155, 3) := by decide +kernel
theorem dX12_analyse_0 : decode cX12_analyse 0 = .ok (.aload_n 0, 1) := by decide +kernel
theorem dX12_analyse_1 : decode cX12_analyse 1 = .ok (.iload_n 1, 1) := by decide +kernel
theorem dX12_analyse_2 : decode cX12_analyse 2 = .ok (.invokevirtual 155, 3) := by decide +kernel
theorem dX12_analysis_0 : decode cX12_analysis 0 = .ok (.iload_n 2, 1) := by decide +kernel
theorem dX12_analysis_1 : decode cX12_analysis 1 = .ok (.ifCond .lt 9, 3) := by decide +kernel
theorem dX12_analysis_10 : decode cX12_analysis 10 = .ok (.new 115, 3) := by decide +kernel
theorem dX12_analysis_13 : decode cX12_analysis 13 = .ok (.dup, 1) := by decide +kernel
theorem dX12_analysis_14 : decode cX12_analysis 14 = .ok (.ldc 143, 2) := by decide +kernel
theorem dX12_analysis_16 : decode cX12_analysis 16 = .ok (.invokespecial 119, 3) := by decide +kernel
theorem dX12_analysis_19 : decode cX12_analysis 19 = .ok (.athrow, 1) := by decide +kernel
theorem dX12_analysis_20 : decode cX12_analysis 20 = .ok (.aload_n 0, 1) := by decide +kernel
theorem dX12_analysis_21 : decode cX12_analysis 21 = .ok (.getfield 76, 3) := by decide +kernel
theorem dX12_analysis_24 : decode cX12_analysis 24 = .ok (.iload_n 1, 1) := by decide +kernel
theorem dX12_analysis_25 : decode cX12_analysis 25 = .ok (.iload_n 2, 1) := by decide +kernel
theorem dX12_analysis_26 : decode cX12_analysis 26 = .ok (.invokevirtual 203, 3) := by decide +kernel
theorem dX12_analysis_29 : decode cX12_analysis 29 = .ok (.ireturn, 1) := by decide +kernel
theorem dX12_analysis_4 : decode cX12_analysis 4 = .ok (.iload_n 2, 1) := by decide +kernel
theorem dX12_analysis_5 : decode cX12_analysis 5 = .ok (.bipush 11, 2) := by decide +kernel
theorem dX12_analysis_7 : decode cX12_analysis 7 = .ok (.if_icmp .le 13, 3) := by decide +kernel
theorem dX12_ask_0 : decode cX12_ask 0 = .ok (.aload_n 0, 1) := by decide +kernel
theorem dX12_ask_1 : decode cX12_ask 1 = .ok (.iload_n 1, 1) := by decide +kernel
theorem dX12_ask_2 : decode cX12_ask 2 = .ok (.invokevirtual 155, 3) := by decide +kernel
theorem dX12_bar_0 : decode cX12_bar 0 = .ok (.iload_n 1, 1) := by decide +kernel
theorem dX12_bar_1 : decode cX12_bar 1 = .ok (.ifCond .lt 17, 3) := by decide +kernel
theorem dX12_bar_12 : decode cX12_bar 12 = .ok (.getfield 239, 3) := by decide +kernel
theorem dX12_bar_15 : decode cX12_bar 15 = .ok (.if_icmp .lt 13, 3) := by decide +kernel
theorem dX12_bar_18 : decode cX12_bar 18 = .ok (.new 115, 3) := by decide +kernel
theorem dX12_bar_21 : decode cX12_bar 21 = .ok (.dup, 1) := by decide +kernel
theorem dX12_bar_22 : decode cX12_bar 22 = .ok (.ldc 240, 2) := by decide +kernel
theorem dX12_bar_24 : decode cX12_bar 24 = .ok (.invokespecial 119, 3) := by decide +kernel
theorem dX12_bar_27 : decode cX12_bar 27 = .ok (.athrow, 1) := by decide +kernel
theorem dX12_bar_4 : decode cX12_bar 4 = .ok (.iload_n 1, 1) := by decide +kernel
theorem dX12_bar_5 : decode cX12_bar 5 = .ok (.aload_n 0, 1) := by decide +kernel
theorem dX12_bar_6 : decode cX12_bar 6 = .ok (.getfield 12, 3) := by decide +kernel
theorem dX12_bar_9 : decode cX12_bar 9 = .ok (.getfield 152, 3) := by decide +kernel
theorem dX12_candidate_0 : decode cX12_candidate 0 = .ok (.aload_n 0, 1) := by decide +kernel
theorem dX12_candidate_1 : decode cX12_candidate 1 = .ok (.getfield 23, 3) := by decide +kernel
theorem dX12_candidate_12 : decode cX12_candidate 12 = .ok (.iload_n 1, 1) := by decide +kernel
theorem dX12_candidate_13 : decode cX12_candidate 13 = .ok (.aload_n 0, 1) := by decide +kernel
theorem dX12_candidate_14 : decode cX12_candidate 14 = .ok (.getfield 289, 3) := by decide +kernel
theorem dX12_candidate_17 : decode cX12_candidate 17 = .ok (.if_icmp .lt 5, 3) := by decide +kernel
theorem dX12_candidate_20 : decode cX12_candidate 20 = .ok (.iconst (-1), 1) := by decide +kernel
theorem dX12_candidate_21 : decode cX12_candidate 21 = .ok (.ireturn, 1) := by decide +kernel
theorem dX12_candidate_4 : decode cX12_candidate 4 = .ok (.iconst 0, 1) := by decide +kernel
theorem dX12_candidate_5 : decode cX12_candidate 5 = .ok (.putfield 100, 3) := by decide +kernel
theorem dX12_candidate_8 : decode cX12_candidate 8 = .ok (.iload_n 1, 1) := by decide +kernel
theorem dX12_candidate_9 : decode cX12_candidate 9 = .ok (.ifCond .lt 11, 3) := by decide +kernel
theorem dX12_cell_0 : decode cX12_cell 0 = .ok (.aload_n 0, 1) := by decide +kernel
theorem dX12_cell_1 : decode cX12_cell 1 = .ok (.iload_n 1, 1) := by decide +kernel
theorem dX12_cell_2 : decode cX12_cell 2 = .ok (.invokevirtual 155, 3) := by decide +kernel
theorem dX12_checkPlace_0 : decode cX12_checkPlace 0 = .ok (.iload_n 0, 1) := by decide +kernel
theorem dX12_checkPlace_1 : decode cX12_checkPlace 1 = .ok (.ifCond .lt 9, 3) := by decide +kernel
theorem dX12_checkPlace_10 : decode cX12_checkPlace 10 = .ok (.new 115, 3) := by decide +kernel
theorem dX12_checkPlace_13 : decode cX12_checkPlace 13 = .ok (.dup, 1) := by decide +kernel
theorem dX12_checkPlace_14 : decode cX12_checkPlace 14 = .ok (.ldc_w 364, 3) := by decide +kernel
theorem dX12_checkPlace_17 : decode cX12_checkPlace 17 = .ok (.invokespecial 119, 3) := by decide +kernel
theorem dX12_checkPlace_20 : decode cX12_checkPlace 20 = .ok (.athrow, 1) := by decide +kernel
theorem dX12_checkPlace_21 : decode cX12_checkPlace 21 = .ok (.return_, 1) := by decide +kernel
theorem dX12_checkPlace_4 : decode cX12_checkPlace 4 = .ok (.iload_n 0, 1) := by decide +kernel
theorem dX12_checkPlace_5 : decode cX12_checkPlace 5 = .ok (.bipush 8, 2) := by decide +kernel
theorem dX12_checkPlace_7 : decode cX12_checkPlace 7 = .ok (.if_icmp .lt 14, 3) := by decide +kernel
theorem dX12_count_0 : decode cX12_count 0 = .ok (.iload_n 2, 1) := by decide +kernel
theorem dX12_count_1 : decode cX12_count 1 = .ok (.ifCond .lt 9, 3) := by decide +kernel
theorem dX12_count_10 : decode cX12_count 10 = .ok (.new 115, 3) := by decide +kernel
theorem dX12_count_13 : decode cX12_count 13 = .ok (.dup, 1) := by decide +kernel
theorem dX12_count_14 : decode cX12_count 14 = .ok (.ldc 143, 2) := by decide +kernel
theorem dX12_count_16 : decode cX12_count 16 = .ok (.invokespecial 119, 3) := by decide +kernel
theorem dX12_count_19 : decode cX12_count 19 = .ok (.athrow, 1) := by decide +kernel
theorem dX12_count_20 : decode cX12_count 20 = .ok (.iload_n 2, 1) := by decide +kernel
theorem dX12_count_21 : decode cX12_count 21 = .ok (.bipush 8, 2) := by decide +kernel
theorem dX12_count_23 : decode cX12_count 23 = .ok (.if_icmp .lt 13, 3) := by decide +kernel
theorem dX12_count_26 : decode cX12_count 26 = .ok (.aload_n 0, 1) := by decide +kernel
theorem dX12_count_27 : decode cX12_count 27 = .ok (.iload_n 1, 1) := by decide +kernel
theorem dX12_count_28 : decode cX12_count 28 = .ok (.invokevirtual 155, 3) := by decide +kernel
theorem dX12_count_36 : decode cX12_count 36 = .ok (.iload_n 2, 1) := by decide +kernel
theorem dX12_count_37 : decode cX12_count 37 = .ok (.tableswitch 51 5 7 #[27, 35, 43], 27) := by decide +kernel
theorem dX12_count_4 : decode cX12_count 4 = .ok (.iload_n 2, 1) := by decide +kernel
theorem dX12_count_5 : decode cX12_count 5 = .ok (.bipush 14, 2) := by decide +kernel
theorem dX12_count_64 : decode cX12_count 64 = .ok (.aload_n 0, 1) := by decide +kernel
theorem dX12_count_65 : decode cX12_count 65 = .ok (.getfield 46, 3) := by decide +kernel
theorem dX12_count_68 : decode cX12_count 68 = .ok (.getfield 346, 3) := by decide +kernel
theorem dX12_count_7 : decode cX12_count 7 = .ok (.if_icmp .le 13, 3) := by decide +kernel
theorem dX12_count_71 : decode cX12_count 71 = .ok (.ireturn, 1) := by decide +kernel
theorem dX12_count_72 : decode cX12_count 72 = .ok (.aload_n 0, 1) := by decide +kernel
theorem dX12_count_73 : decode cX12_count 73 = .ok (.getfield 46, 3) := by decide +kernel
theorem dX12_count_76 : decode cX12_count 76 = .ok (.getfield 349, 3) := by decide +kernel
theorem dX12_count_79 : decode cX12_count 79 = .ok (.ireturn, 1) := by decide +kernel
theorem dX12_count_80 : decode cX12_count 80 = .ok (.aload_n 0, 1) := by decide +kernel
theorem dX12_count_81 : decode cX12_count 81 = .ok (.getfield 76, 3) := by decide +kernel
theorem dX12_count_84 : decode cX12_count 84 = .ok (.getfield 352, 3) := by decide +kernel
theorem dX12_count_87 : decode cX12_count 87 = .ok (.ireturn, 1) := by decide +kernel
theorem dX12_count_88 : decode cX12_count 88 = .ok (.aload_n 0, 1) := by decide +kernel
theorem dX12_count_89 : decode cX12_count 89 = .ok (.getfield 12, 3) := by decide +kernel
theorem dX12_count_92 : decode cX12_count 92 = .ok (.iload_n 2, 1) := by decide +kernel
theorem dX12_count_93 : decode cX12_count 93 = .ok (.invokevirtual 355, 3) := by decide +kernel
theorem dX12_count_96 : decode cX12_count 96 = .ok (.ireturn, 1) := by decide +kernel
theorem dX12_end_0 : decode cX12_end 0 = .ok (.iload_n 1, 1) := by decide +kernel
theorem dX12_end_1 : decode cX12_end 1 = .ok (.ifCond .lt 14, 3) := by decide +kernel
theorem dX12_end_12 : decode cX12_end 12 = .ok (.if_icmp .le 13, 3) := by decide +kernel
theorem dX12_end_15 : decode cX12_end 15 = .ok (.new 115, 3) := by decide +kernel
theorem dX12_end_18 : decode cX12_end 18 = .ok (.dup, 1) := by decide +kernel
theorem dX12_end_19 : decode cX12_end 19 = .ok (.ldc 117, 2) := by decide +kernel
theorem dX12_end_21 : decode cX12_end 21 = .ok (.invokespecial 119, 3) := by decide +kernel
theorem dX12_end_24 : decode cX12_end 24 = .ok (.athrow, 1) := by decide +kernel
theorem dX12_end_25 : decode cX12_end 25 = .ok (.aload_n 0, 1) := by decide +kernel
theorem dX12_end_26 : decode cX12_end 26 = .ok (.getfield 19, 3) := by decide +kernel
theorem dX12_end_29 : decode cX12_end 29 = .ok (.iload_n 1, 1) := by decide +kernel
theorem dX12_end_30 : decode cX12_end 30 = .ok (.putfield 100, 3) := by decide +kernel
theorem dX12_end_33 : decode cX12_end 33 = .ok (.iload_n 1, 1) := by decide +kernel
theorem dX12_end_34 : decode cX12_end 34 = .ok (.ireturn, 1) := by decide +kernel
theorem dX12_end_4 : decode cX12_end 4 = .ok (.iload_n 1, 1) := by decide +kernel
theorem dX12_end_5 : decode cX12_end 5 = .ok (.aload_n 0, 1) := by decide +kernel
theorem dX12_end_6 : decode cX12_end 6 = .ok (.getfield 19, 3) := by decide +kernel
theorem dX12_end_9 : decode cX12_end 9 = .ok (.getfield 100, 3) := by decide +kernel
theorem dX12_feed_0 : decode cX12_feed 0 = .ok (.aload_n 0, 1) := by decide +kernel
theorem dX12_feed_1 : decode cX12_feed 1 = .ok (.getfield 19, 3) := by decide +kernel
theorem dX12_feed_10 : decode cX12_feed 10 = .ok (.sipush 1000, 3) := by decide +kernel
theorem dX12_feed_13 : decode cX12_feed 13 = .ok (.if_icmp .le 13, 3) := by decide +kernel
theorem dX12_feed_26 : decode cX12_feed 26 = .ok (.aload_n 0, 1) := by decide +kernel
theorem dX12_feed_27 : decode cX12_feed 27 = .ok (.getfield 19, 3) := by decide +kernel
theorem dX12_feed_30 : decode cX12_feed 30 = .ok (.iload_n 1, 1) := by decide +kernel
theorem dX12_feed_31 : decode cX12_feed 31 = .ok (.invokevirtual 111, 3) := by decide +kernel
theorem dX12_feed_34 : decode cX12_feed 34 = .ok (.aload_n 0, 1) := by decide +kernel
theorem dX12_feed_35 : decode cX12_feed 35 = .ok (.getfield 19, 3) := by decide +kernel
theorem dX12_feed_38 : decode cX12_feed 38 = .ok (.iload_n 2, 1) := by decide +kernel
theorem dX12_feed_39 : decode cX12_feed 39 = .ok (.invokevirtual 111, 3) := by decide +kernel
theorem dX12_feed_4 : decode cX12_feed 4 = .ok (.getfield 100, 3) := by decide +kernel
theorem dX12_feed_42 : decode cX12_feed 42 = .ok (.aload_n 0, 1) := by decide +kernel
theorem dX12_feed_43 : decode cX12_feed 43 = .ok (.getfield 19, 3) := by decide +kernel
theorem dX12_feed_46 : decode cX12_feed 46 = .ok (.iload_n 3, 1) := by decide +kernel
theorem dX12_feed_47 : decode cX12_feed 47 = .ok (.invokevirtual 111, 3) := by decide +kernel
theorem dX12_feed_50 : decode cX12_feed 50 = .ok (.aload_n 0, 1) := by decide +kernel
theorem dX12_feed_51 : decode cX12_feed 51 = .ok (.getfield 19, 3) := by decide +kernel
theorem dX12_feed_54 : decode cX12_feed 54 = .ok (.iload 4, 2) := by decide +kernel
theorem dX12_feed_56 : decode cX12_feed 56 = .ok (.invokevirtual 111, 3) := by decide +kernel
theorem dX12_feed_59 : decode cX12_feed 59 = .ok (.aload_n 0, 1) := by decide +kernel
theorem dX12_feed_60 : decode cX12_feed 60 = .ok (.getfield 19, 3) := by decide +kernel
theorem dX12_feed_63 : decode cX12_feed 63 = .ok (.iload 5, 2) := by decide +kernel
theorem dX12_feed_65 : decode cX12_feed 65 = .ok (.invokevirtual 111, 3) := by decide +kernel
theorem dX12_feed_68 : decode cX12_feed 68 = .ok (.aload_n 0, 1) := by decide +kernel
theorem dX12_feed_69 : decode cX12_feed 69 = .ok (.getfield 19, 3) := by decide +kernel
theorem dX12_feed_7 : decode cX12_feed 7 = .ok (.bipush 20, 2) := by decide +kernel
theorem dX12_feed_72 : decode cX12_feed 72 = .ok (.getfield 100, 3) := by decide +kernel
theorem dX12_feed_75 : decode cX12_feed 75 = .ok (.ireturn, 1) := by decide +kernel
theorem dX12_feed_9 : decode cX12_feed 9 = .ok (.iadd, 1) := by decide +kernel
theorem dX12_guess_0 : decode cX12_guess 0 = .ok (.aload_n 0, 1) := by decide +kernel
theorem dX12_guess_1 : decode cX12_guess 1 = .ok (.iload_n 1, 1) := by decide +kernel
theorem dX12_guess_2 : decode cX12_guess 2 = .ok (.invokevirtual 155, 3) := by decide +kernel
theorem dX12_guessed_0 : decode cX12_guessed 0 = .ok (.iload_n 2, 1) := by decide +kernel
theorem dX12_guessed_1 : decode cX12_guessed 1 = .ok (.ifCond .lt 8, 3) := by decide +kernel
theorem dX12_guessed_12 : decode cX12_guessed 12 = .ok (.dup, 1) := by decide +kernel
theorem dX12_guessed_13 : decode cX12_guessed 13 = .ok (.ldc 143, 2) := by decide +kernel
theorem dX12_guessed_15 : decode cX12_guessed 15 = .ok (.invokespecial 119, 3) := by decide +kernel
theorem dX12_guessed_18 : decode cX12_guessed 18 = .ok (.athrow, 1) := by decide +kernel
theorem dX12_guessed_19 : decode cX12_guessed 19 = .ok (.aload_n 0, 1) := by decide +kernel
theorem dX12_guessed_20 : decode cX12_guessed 20 = .ok (.getfield 76, 3) := by decide +kernel
theorem dX12_guessed_23 : decode cX12_guessed 23 = .ok (.iload_n 1, 1) := by decide +kernel
theorem dX12_guessed_24 : decode cX12_guessed 24 = .ok (.iload_n 2, 1) := by decide +kernel
theorem dX12_guessed_25 : decode cX12_guessed 25 = .ok (.invokevirtual 226, 3) := by decide +kernel
theorem dX12_guessed_28 : decode cX12_guessed 28 = .ok (.ireturn, 1) := by decide +kernel
theorem dX12_guessed_4 : decode cX12_guessed 4 = .ok (.iload_n 2, 1) := by decide +kernel
theorem dX12_guessed_5 : decode cX12_guessed 5 = .ok (.iconst 3, 1) := by decide +kernel
theorem dX12_guessed_6 : decode cX12_guessed 6 = .ok (.if_icmp .le 13, 3) := by decide +kernel
theorem dX12_guessed_9 : decode cX12_guessed 9 = .ok (.new 115, 3) := by decide +kernel
theorem dX12_hit_0 : decode cX12_hit 0 = .ok (.iload_n 2, 1) := by decide +kernel
theorem dX12_hit_1 : decode cX12_hit 1 = .ok (.ifCond .lt 8, 3) := by decide +kernel
theorem dX12_hit_12 : decode cX12_hit 12 = .ok (.dup, 1) := by decide +kernel
theorem dX12_hit_13 : decode cX12_hit 13 = .ok (.ldc 143, 2) := by decide +kernel
theorem dX12_hit_15 : decode cX12_hit 15 = .ok (.invokespecial 119, 3) := by decide +kernel
theorem dX12_hit_18 : decode cX12_hit 18 = .ok (.athrow, 1) := by decide +kernel
theorem dX12_hit_19 : decode cX12_hit 19 = .ok (.aload_n 0, 1) := by decide +kernel
theorem dX12_hit_20 : decode cX12_hit 20 = .ok (.getfield 76, 3) := by decide +kernel
theorem dX12_hit_23 : decode cX12_hit 23 = .ok (.iload_n 1, 1) := by decide +kernel
theorem dX12_hit_24 : decode cX12_hit 24 = .ok (.iload_n 2, 1) := by decide +kernel
theorem dX12_hit_25 : decode cX12_hit 25 = .ok (.invokevirtual 310, 3) := by decide +kernel
theorem dX12_hit_28 : decode cX12_hit 28 = .ok (.ireturn, 1) := by decide +kernel
theorem dX12_hit_4 : decode cX12_hit 4 = .ok (.iload_n 2, 1) := by decide +kernel
theorem dX12_hit_5 : decode cX12_hit 5 = .ok (.iconst 1, 1) := by decide +kernel
theorem dX12_hit_6 : decode cX12_hit 6 = .ok (.if_icmp .le 13, 3) := by decide +kernel
theorem dX12_hit_9 : decode cX12_hit 9 = .ok (.new 115, 3) := by decide +kernel
theorem dX12_mean_0 : decode cX12_mean 0 = .ok (.iload_n 1, 1) := by decide +kernel
theorem dX12_mean_1 : decode cX12_mean 1 = .ok (.invokestatic 249, 3) := by decide +kernel
theorem dX12_mean_12 : decode cX12_mean 12 = .ok (.aload_n 0, 1) := by decide +kernel
theorem dX12_mean_13 : decode cX12_mean 13 = .ok (.iload_n 1, 1) := by decide +kernel
theorem dX12_mean_14 : decode cX12_mean 14 = .ok (.invokevirtual 278, 3) := by decide +kernel
theorem dX12_mean_17 : decode cX12_mean 17 = .ok (.istore_n 2, 1) := by decide +kernel
theorem dX12_mean_18 : decode cX12_mean 18 = .ok (.iload_n 2, 1) := by decide +kernel
theorem dX12_mean_19 : decode cX12_mean 19 = .ok (.ifCond .ge 5, 3) := by decide +kernel
theorem dX12_mean_22 : decode cX12_mean 22 = .ok (.iload_n 2, 1) := by decide +kernel
theorem dX12_mean_23 : decode cX12_mean 23 = .ok (.ireturn, 1) := by decide +kernel
theorem dX12_mean_4 : decode cX12_mean 4 = .ok (.aload_n 0, 1) := by decide +kernel
theorem dX12_mean_5 : decode cX12_mean 5 = .ok (.getfield 23, 3) := by decide +kernel
theorem dX12_mean_8 : decode cX12_mean 8 = .ok (.iconst 0, 1) := by decide +kernel
theorem dX12_mean_9 : decode cX12_mean 9 = .ok (.putfield 100, 3) := by decide +kernel
theorem dX12_meaningOf_0 : decode cX12_meaningOf 0 = .ok (.aload_n 0, 1) := by decide +kernel
theorem dX12_meaningOf_1 : decode cX12_meaningOf 1 = .ok (.getfield 85, 3) := by decide +kernel
theorem dX12_meaningOf_11 : decode cX12_meaningOf 11 = .ok (.ireturn, 1) := by decide +kernel
theorem dX12_meaningOf_4 : decode cX12_meaningOf 4 = .ok (.iload_n 1, 1) := by decide +kernel
theorem dX12_meaningOf_5 : decode cX12_meaningOf 5 = .ok (.iaload, 1) := by decide +kernel
theorem dX12_meaningOf_6 : decode cX12_meaningOf 6 = .ok (.ifCond .ne 6, 3) := by decide +kernel
theorem dX12_meaningOf_9 : decode cX12_meaningOf 9 = .ok (.bipush (-4), 2) := by decide +kernel
theorem dX12_mend_0 : decode cX12_mend 0 = .ok (.aload_n 0, 1) := by decide +kernel
theorem dX12_mend_1 : decode cX12_mend 1 = .ok (.iload_n 1, 1) := by decide +kernel
theorem dX12_mend_2 : decode cX12_mend 2 = .ok (.invokevirtual 155, 3) := by decide +kernel
theorem dX12_module_0 : decode cX12_module 0 = .ok (.aload_n 0, 1) := by decide +kernel
theorem dX12_module_1 : decode cX12_module 1 = .ok (.getfield 37, 3) := by decide +kernel
theorem dX12_module_10 : decode cX12_module 10 = .ok (.sipush 1000, 3) := by decide +kernel
theorem dX12_module_13 : decode cX12_module 13 = .ok (.if_icmp .ge 55, 3) := by decide +kernel
theorem dX12_module_16 : decode cX12_module 16 = .ok (.aload_n 0, 1) := by decide +kernel
theorem dX12_module_17 : decode cX12_module 17 = .ok (.getfield 19, 3) := by decide +kernel
theorem dX12_module_20 : decode cX12_module 20 = .ok (.getfield 123, 3) := by decide +kernel
theorem dX12_module_23 : decode cX12_module 23 = .ok (.iconst 4, 1) := by decide +kernel
theorem dX12_module_24 : decode cX12_module 24 = .ok (.if_icmp .eq 44, 3) := by decide +kernel
theorem dX12_module_4 : decode cX12_module 4 = .ok (.invokevirtual 120, 3) := by decide +kernel
theorem dX12_module_68 : decode cX12_module 68 = .ok (.aload_n 0, 1) := by decide +kernel
theorem dX12_module_69 : decode cX12_module 69 = .ok (.getfield 19, 3) := by decide +kernel
theorem dX12_module_7 : decode cX12_module 7 = .ok (.iconst 0, 1) := by decide +kernel
theorem dX12_module_72 : decode cX12_module 72 = .ok (.iconst 0, 1) := by decide +kernel
theorem dX12_module_73 : decode cX12_module 73 = .ok (.putfield 100, 3) := by decide +kernel
theorem dX12_module_76 : decode cX12_module 76 = .ok (.iload_n 1, 1) := by decide +kernel
theorem dX12_module_77 : decode cX12_module 77 = .ok (.ireturn, 1) := by decide +kernel
theorem dX12_module_8 : decode cX12_module 8 = .ok (.istore_n 1, 1) := by decide +kernel
theorem dX12_module_9 : decode cX12_module 9 = .ok (.iload_n 1, 1) := by decide +kernel
theorem dX12_number_0 : decode cX12_number 0 = .ok (.iload_n 2, 1) := by decide +kernel
theorem dX12_number_1 : decode cX12_number 1 = .ok (.ifCond .lt 8, 3) := by decide +kernel
theorem dX12_number_101 : decode cX12_number 101 = .ok (.iconst (-1), 1) := by decide +kernel
theorem dX12_number_102 : decode cX12_number 102 = .ok (.goto 9, 3) := by decide +kernel
theorem dX12_number_111 : decode cX12_number 111 = .ok (.ireturn, 1) := by decide +kernel
theorem dX12_number_12 : decode cX12_number 12 = .ok (.dup, 1) := by decide +kernel
theorem dX12_number_13 : decode cX12_number 13 = .ok (.ldc 143, 2) := by decide +kernel
theorem dX12_number_15 : decode cX12_number 15 = .ok (.invokespecial 119, 3) := by decide +kernel
theorem dX12_number_18 : decode cX12_number 18 = .ok (.athrow, 1) := by decide +kernel
theorem dX12_number_19 : decode cX12_number 19 = .ok (.aload_n 0, 1) := by decide +kernel
theorem dX12_number_20 : decode cX12_number 20 = .ok (.getfield 12, 3) := by decide +kernel
theorem dX12_number_23 : decode cX12_number 23 = .ok (.getfield 145, 3) := by decide +kernel
theorem dX12_number_26 : decode cX12_number 26 = .ok (.astore_n 3, 1) := by decide +kernel
theorem dX12_number_27 : decode cX12_number 27 = .ok (.iload_n 2, 1) := by decide +kernel
theorem dX12_number_28 : decode cX12_number 28 = .ok (.ifCond .ne 14, 3) := by decide +kernel
theorem dX12_number_31 : decode cX12_number 31 = .ok (.aload_n 0, 1) := by decide +kernel
theorem dX12_number_32 : decode cX12_number 32 = .ok (.getfield 12, 3) := by decide +kernel
theorem dX12_number_35 : decode cX12_number 35 = .ok (.getfield 149, 3) := by decide +kernel
theorem dX12_number_38 : decode cX12_number 38 = .ok (.astore_n 3, 1) := by decide +kernel
theorem dX12_number_39 : decode cX12_number 39 = .ok (.goto 38, 3) := by decide +kernel
theorem dX12_number_4 : decode cX12_number 4 = .ok (.iload_n 2, 1) := by decide +kernel
theorem dX12_number_42 : decode cX12_number 42 = .ok (.iload_n 2, 1) := by decide +kernel
theorem dX12_number_43 : decode cX12_number 43 = .ok (.iconst 2, 1) := by decide +kernel
theorem dX12_number_44 : decode cX12_number 44 = .ok (.if_icmp .ne 14, 3) := by decide +kernel
theorem dX12_number_47 : decode cX12_number 47 = .ok (.aload_n 0, 1) := by decide +kernel
theorem dX12_number_48 : decode cX12_number 48 = .ok (.getfield 12, 3) := by decide +kernel
theorem dX12_number_5 : decode cX12_number 5 = .ok (.iconst 5, 1) := by decide +kernel
theorem dX12_number_51 : decode cX12_number 51 = .ok (.getfield 152, 3) := by decide +kernel
theorem dX12_number_54 : decode cX12_number 54 = .ok (.astore_n 3, 1) := by decide +kernel
theorem dX12_number_55 : decode cX12_number 55 = .ok (.goto 22, 3) := by decide +kernel
theorem dX12_number_58 : decode cX12_number 58 = .ok (.iload_n 2, 1) := by decide +kernel
theorem dX12_number_59 : decode cX12_number 59 = .ok (.iconst 2, 1) := by decide +kernel
theorem dX12_number_6 : decode cX12_number 6 = .ok (.if_icmp .le 13, 3) := by decide +kernel
theorem dX12_number_60 : decode cX12_number 60 = .ok (.if_icmp .le 17, 3) := by decide +kernel
theorem dX12_number_63 : decode cX12_number 63 = .ok (.aload_n 0, 1) := by decide +kernel
theorem dX12_number_64 : decode cX12_number 64 = .ok (.iload_n 1, 1) := by decide +kernel
theorem dX12_number_65 : decode cX12_number 65 = .ok (.invokevirtual 155, 3) := by decide +kernel
theorem dX12_number_77 : decode cX12_number 77 = .ok (.aload_n 0, 1) := by decide +kernel
theorem dX12_number_78 : decode cX12_number 78 = .ok (.getfield 19, 3) := by decide +kernel
theorem dX12_number_81 : decode cX12_number 81 = .ok (.invokevirtual 165, 3) := by decide +kernel
theorem dX12_number_84 : decode cX12_number 84 = .ok (.lstore 4, 2) := by decide +kernel
theorem dX12_number_86 : decode cX12_number 86 = .ok (.aload_n 0, 1) := by decide +kernel
theorem dX12_number_87 : decode cX12_number 87 = .ok (.getfield 19, 3) := by decide +kernel
theorem dX12_number_9 : decode cX12_number 9 = .ok (.new 115, 3) := by decide +kernel
theorem dX12_number_90 : decode cX12_number 90 = .ok (.iconst 0, 1) := by decide +kernel
theorem dX12_number_91 : decode cX12_number 91 = .ok (.putfield 100, 3) := by decide +kernel
theorem dX12_number_94 : decode cX12_number 94 = .ok (.lload 4, 2) := by decide +kernel
theorem dX12_number_96 : decode cX12_number 96 = .ok (.lconst 0, 1) := by decide +kernel
theorem dX12_number_97 : decode cX12_number 97 = .ok (.lcmp, 1) := by decide +kernel
theorem dX12_number_98 : decode cX12_number 98 = .ok (.ifCond .ne 7, 3) := by decide +kernel
theorem dX12_out_0 : decode cX12_out 0 = .ok (.iload_n 1, 1) := by decide +kernel
theorem dX12_out_1 : decode cX12_out 1 = .ok (.ifCond .lt 30, 3) := by decide +kernel
theorem dX12_out_12 : decode cX12_out 12 = .ok (.if_icmp .ge 19, 3) := by decide +kernel
theorem dX12_out_31 : decode cX12_out 31 = .ok (.iconst (-1), 1) := by decide +kernel
theorem dX12_out_32 : decode cX12_out 32 = .ok (.ireturn, 1) := by decide +kernel
theorem dX12_out_4 : decode cX12_out 4 = .ok (.iload_n 1, 1) := by decide +kernel
theorem dX12_out_5 : decode cX12_out 5 = .ok (.aload_n 0, 1) := by decide +kernel
theorem dX12_out_6 : decode cX12_out 6 = .ok (.getfield 23, 3) := by decide +kernel
theorem dX12_out_9 : decode cX12_out 9 = .ok (.getfield 100, 3) := by decide +kernel
theorem dX12_parse_0 : decode cX12_parse 0 = .ok (.aload_n 0, 1) := by decide +kernel
theorem dX12_parse_1 : decode cX12_parse 1 = .ok (.iload_n 1, 1) := by decide +kernel
theorem dX12_parse_2 : decode cX12_parse 2 = .ok (.invokevirtual 155, 3) := by decide +kernel
theorem dX12_price_0 : decode cX12_price 0 = .ok (.aload_n 0, 1) := by decide +kernel
theorem dX12_price_1 : decode cX12_price 1 = .ok (.getfield 55, 3) := by decide +kernel
theorem dX12_price_4 : decode cX12_price 4 = .ok (.iload_n 1, 1) := by decide +kernel
theorem dX12_price_5 : decode cX12_price 5 = .ok (.invokevirtual 246, 3) := by decide +kernel
theorem dX12_price_8 : decode cX12_price 8 = .ok (.ireturn, 1) := by decide +kernel
theorem dX12_reading_0 : decode cX12_reading 0 = .ok (.iload_n 2, 1) := by decide +kernel
theorem dX12_reading_1 : decode cX12_reading 1 = .ok (.invokestatic 249, 3) := by decide +kernel
theorem dX12_reading_10 : decode cX12_reading 10 = .ok (.getfield 82, 3) := by decide +kernel
theorem dX12_reading_13 : decode cX12_reading 13 = .ok (.bipush 8, 2) := by decide +kernel
theorem dX12_reading_15 : decode cX12_reading 15 = .ok (.aaload, 1) := by decide +kernel
theorem dX12_reading_16 : decode cX12_reading 16 = .ok (.invokevirtual 252, 3) := by decide +kernel
theorem dX12_reading_19 : decode cX12_reading 19 = .ok (.istore_n 3, 1) := by decide +kernel
theorem dX12_reading_20 : decode cX12_reading 20 = .ok (.iload_n 3, 1) := by decide +kernel
theorem dX12_reading_21 : decode cX12_reading 21 = .ok (.ifCond .le 29, 3) := by decide +kernel
theorem dX12_reading_4 : decode cX12_reading 4 = .ok (.aload_n 0, 1) := by decide +kernel
theorem dX12_reading_5 : decode cX12_reading 5 = .ok (.getfield 55, 3) := by decide +kernel
theorem dX12_reading_50 : decode cX12_reading 50 = .ok (.iload_n 3, 1) := by decide +kernel
theorem dX12_reading_51 : decode cX12_reading 51 = .ok (.ireturn, 1) := by decide +kernel
theorem dX12_reading_8 : decode cX12_reading 8 = .ok (.iload_n 1, 1) := by decide +kernel
theorem dX12_reading_9 : decode cX12_reading 9 = .ok (.aload_n 0, 1) := by decide +kernel
theorem dX12_rule_0 : decode cX12_rule 0 = .ok (.aload_n 0, 1) := by decide +kernel
theorem dX12_rule_1 : decode cX12_rule 1 = .ok (.getfield 37, 3) := by decide +kernel
theorem dX12_rule_4 : decode cX12_rule 4 = .ok (.getfield 136, 3) := by decide +kernel
theorem dX12_rule_7 : decode cX12_rule 7 = .ok (.ireturn, 1) := by decide +kernel
theorem dX12_same_0 : decode cX12_same 0 = .ok (.iload_n 1, 1) := by decide +kernel
theorem dX12_same_1 : decode cX12_same 1 = .ok (.invokestatic 249, 3) := by decide +kernel
theorem dX12_same_12 : decode cX12_same 12 = .ok (.iload_n 1, 1) := by decide +kernel
theorem dX12_same_13 : decode cX12_same 13 = .ok (.iaload, 1) := by decide +kernel
theorem dX12_same_14 : decode cX12_same 14 = .ok (.aload_n 0, 1) := by decide +kernel
theorem dX12_same_15 : decode cX12_same 15 = .ok (.getfield 85, 3) := by decide +kernel
theorem dX12_same_18 : decode cX12_same 18 = .ok (.iload_n 2, 1) := by decide +kernel
theorem dX12_same_19 : decode cX12_same 19 = .ok (.iaload, 1) := by decide +kernel
theorem dX12_same_20 : decode cX12_same 20 = .ok (.if_icmp .eq 5, 3) := by decide +kernel
theorem dX12_same_25 : decode cX12_same 25 = .ok (.iconst 0, 1) := by decide +kernel
theorem dX12_same_26 : decode cX12_same 26 = .ok (.istore_n 3, 1) := by decide +kernel
theorem dX12_same_27 : decode cX12_same 27 = .ok (.iload_n 3, 1) := by decide +kernel
theorem dX12_same_28 : decode cX12_same 28 = .ok (.aload_n 0, 1) := by decide +kernel
theorem dX12_same_29 : decode cX12_same 29 = .ok (.getfield 85, 3) := by decide +kernel
theorem dX12_same_32 : decode cX12_same 32 = .ok (.iload_n 1, 1) := by decide +kernel
theorem dX12_same_33 : decode cX12_same 33 = .ok (.iaload, 1) := by decide +kernel
theorem dX12_same_34 : decode cX12_same 34 = .ok (.if_icmp .ge 30, 3) := by decide +kernel
theorem dX12_same_4 : decode cX12_same 4 = .ok (.iload_n 2, 1) := by decide +kernel
theorem dX12_same_5 : decode cX12_same 5 = .ok (.invokestatic 249, 3) := by decide +kernel
theorem dX12_same_64 : decode cX12_same 64 = .ok (.iconst 1, 1) := by decide +kernel
theorem dX12_same_65 : decode cX12_same 65 = .ok (.ireturn, 1) := by decide +kernel
theorem dX12_same_8 : decode cX12_same 8 = .ok (.aload_n 0, 1) := by decide +kernel
theorem dX12_same_9 : decode cX12_same 9 = .ok (.getfield 85, 3) := by decide +kernel
theorem dX12_say_0 : decode cX12_say 0 = .ok (.aload_n 0, 1) := by decide +kernel
theorem dX12_say_1 : decode cX12_say 1 = .ok (.iload_n 1, 1) := by decide +kernel
theorem dX12_say_2 : decode cX12_say 2 = .ok (.invokevirtual 155, 3) := by decide +kernel
theorem dX12_show_0 : decode cX12_show 0 = .ok (.iload_n 1, 1) := by decide +kernel
theorem dX12_show_1 : decode cX12_show 1 = .ok (.invokestatic 249, 3) := by decide +kernel
theorem dX12_show_12 : decode cX12_show 12 = .ok (.aload_n 0, 1) := by decide +kernel
theorem dX12_show_13 : decode cX12_show 13 = .ok (.getfield 85, 3) := by decide +kernel
theorem dX12_show_16 : decode cX12_show 16 = .ok (.iload_n 1, 1) := by decide +kernel
theorem dX12_show_17 : decode cX12_show 17 = .ok (.iaload, 1) := by decide +kernel
theorem dX12_show_18 : decode cX12_show 18 = .ok (.ifCond .ne 5, 3) := by decide +kernel
theorem dX12_show_21 : decode cX12_show 21 = .ok (.iconst (-1), 1) := by decide +kernel
theorem dX12_show_22 : decode cX12_show 22 = .ok (.ireturn, 1) := by decide +kernel
theorem dX12_show_4 : decode cX12_show 4 = .ok (.aload_n 0, 1) := by decide +kernel
theorem dX12_show_5 : decode cX12_show 5 = .ok (.getfield 23, 3) := by decide +kernel
theorem dX12_show_8 : decode cX12_show 8 = .ok (.iconst 0, 1) := by decide +kernel
theorem dX12_show_9 : decode cX12_show 9 = .ok (.putfield 100, 3) := by decide +kernel
theorem dX12_sounds_0 : decode cX12_sounds 0 = .ok (.aload_n 0, 1) := by decide +kernel
theorem dX12_sounds_1 : decode cX12_sounds 1 = .ok (.iload_n 1, 1) := by decide +kernel
theorem dX12_sounds_2 : decode cX12_sounds 2 = .ok (.invokevirtual 155, 3) := by decide +kernel
theorem dX12_swap_0 : decode cX12_swap 0 = .ok (.aload_n 0, 1) := by decide +kernel
theorem dX12_swap_1 : decode cX12_swap 1 = .ok (.iload_n 1, 1) := by decide +kernel
theorem dX12_swap_2 : decode cX12_swap 2 = .ok (.invokevirtual 155, 3) := by decide +kernel
theorem dX12_tongueAt_0 : decode cX12_tongueAt 0 = .ok (.iload_n 1, 1) := by decide +kernel
theorem dX12_tongueAt_1 : decode cX12_tongueAt 1 = .ok (.ifCond .lt 29, 3) := by decide +kernel
theorem dX12_tongueAt_12 : decode cX12_tongueAt 12 = .ok (.getfield 239, 3) := by decide +kernel
theorem dX12_tongueAt_15 : decode cX12_tongueAt 15 = .ok (.if_icmp .ge 15, 3) := by decide +kernel
theorem dX12_tongueAt_30 : decode cX12_tongueAt 30 = .ok (.new 115, 3) := by decide +kernel
theorem dX12_tongueAt_33 : decode cX12_tongueAt 33 = .ok (.dup, 1) := by decide +kernel
theorem dX12_tongueAt_34 : decode cX12_tongueAt 34 = .ok (.ldc_w 360, 3) := by decide +kernel
theorem dX12_tongueAt_37 : decode cX12_tongueAt 37 = .ok (.invokespecial 119, 3) := by decide +kernel
theorem dX12_tongueAt_4 : decode cX12_tongueAt 4 = .ok (.iload_n 1, 1) := by decide +kernel
theorem dX12_tongueAt_40 : decode cX12_tongueAt 40 = .ok (.athrow, 1) := by decide +kernel
theorem dX12_tongueAt_5 : decode cX12_tongueAt 5 = .ok (.aload_n 0, 1) := by decide +kernel
theorem dX12_tongueAt_6 : decode cX12_tongueAt 6 = .ok (.getfield 12, 3) := by decide +kernel
theorem dX12_tongueAt_9 : decode cX12_tongueAt 9 = .ok (.getfield 149, 3) := by decide +kernel
theorem dX12_tree_0 : decode cX12_tree 0 = .ok (.iload_n 1, 1) := by decide +kernel
theorem dX12_tree_1 : decode cX12_tree 1 = .ok (.invokestatic 249, 3) := by decide +kernel
theorem dX12_tree_12 : decode cX12_tree 12 = .ok (.bipush 8, 2) := by decide +kernel
theorem dX12_tree_14 : decode cX12_tree 14 = .ok (.aaload, 1) := by decide +kernel
theorem dX12_tree_15 : decode cX12_tree 15 = .ok (.invokevirtual 262, 3) := by decide +kernel
theorem dX12_tree_18 : decode cX12_tree 18 = .ok (.istore_n 2, 1) := by decide +kernel
theorem dX12_tree_19 : decode cX12_tree 19 = .ok (.aload_n 0, 1) := by decide +kernel
theorem dX12_tree_20 : decode cX12_tree 20 = .ok (.getfield 19, 3) := by decide +kernel
theorem dX12_tree_23 : decode cX12_tree 23 = .ok (.iconst 0, 1) := by decide +kernel
theorem dX12_tree_24 : decode cX12_tree 24 = .ok (.putfield 100, 3) := by decide +kernel
theorem dX12_tree_27 : decode cX12_tree 27 = .ok (.iload_n 2, 1) := by decide +kernel
theorem dX12_tree_28 : decode cX12_tree 28 = .ok (.ifCond .le 29, 3) := by decide +kernel
theorem dX12_tree_4 : decode cX12_tree 4 = .ok (.aload_n 0, 1) := by decide +kernel
theorem dX12_tree_5 : decode cX12_tree 5 = .ok (.getfield 37, 3) := by decide +kernel
theorem dX12_tree_57 : decode cX12_tree 57 = .ok (.iload_n 2, 1) := by decide +kernel
theorem dX12_tree_58 : decode cX12_tree 58 = .ok (.ireturn, 1) := by decide +kernel
theorem dX12_tree_8 : decode cX12_tree 8 = .ok (.aload_n 0, 1) := by decide +kernel
theorem dX12_tree_9 : decode cX12_tree 9 = .ok (.getfield 82, 3) := by decide +kernel
theorem dX12_trees_0 : decode cX12_trees 0 = .ok (.aload_n 0, 1) := by decide +kernel
theorem dX12_trees_1 : decode cX12_trees 1 = .ok (.getfield 55, 3) := by decide +kernel
theorem dX12_trees_4 : decode cX12_trees 4 = .ok (.invokevirtual 236, 3) := by decide +kernel
theorem dX12_trees_7 : decode cX12_trees 7 = .ok (.lreturn, 1) := by decide +kernel
theorem dX12_truth_0 : decode cX12_truth 0 = .ok (.iload_n 1, 1) := by decide +kernel
theorem dX12_truth_1 : decode cX12_truth 1 = .ok (.invokestatic 249, 3) := by decide +kernel
theorem dX12_truth_10 : decode cX12_truth 10 = .ok (.iload_n 2, 1) := by decide +kernel
theorem dX12_truth_11 : decode cX12_truth 11 = .ok (.ifCond .ge 7, 3) := by decide +kernel
theorem dX12_truth_14 : decode cX12_truth 14 = .ok (.iload_n 2, 1) := by decide +kernel
theorem dX12_truth_15 : decode cX12_truth 15 = .ok (.goto 10, 3) := by decide +kernel
theorem dX12_truth_25 : decode cX12_truth 25 = .ok (.ireturn, 1) := by decide +kernel
theorem dX12_truth_4 : decode cX12_truth 4 = .ok (.aload_n 0, 1) := by decide +kernel
theorem dX12_truth_5 : decode cX12_truth 5 = .ok (.iload_n 1, 1) := by decide +kernel
theorem dX12_truth_6 : decode cX12_truth 6 = .ok (.invokevirtual 278, 3) := by decide +kernel
theorem dX12_truth_9 : decode cX12_truth 9 = .ok (.istore_n 2, 1) := by decide +kernel
theorem dX13_add_0 : decode cX13_add 0 = .ok (.aload_n 0, 1) := by decide +kernel
theorem dX13_add_1 : decode cX13_add 1 = .ok (.iload_n 1, 1) := by decide +kernel
theorem dX13_add_2 : decode cX13_add 2 = .ok (.invokevirtual 845, 3) := by decide +kernel
theorem dX13_add_5 : decode cX13_add 5 = .ok (.ifCond .eq 5, 3) := by decide +kernel
theorem dX13_add_8 : decode cX13_add 8 = .ok (.iconst 0, 1) := by decide +kernel
theorem dX13_add_9 : decode cX13_add 9 = .ok (.ireturn, 1) := by decide +kernel
theorem dX13_analyse_0 : decode cX13_analyse 0 = .ok (.aload_n 0, 1) := by decide +kernel
theorem dX13_analyse_1 : decode cX13_analyse 1 = .ok (.iload_n 1, 1) := by decide +kernel
theorem dX13_analyse_2 : decode cX13_analyse 2 = .ok (.invokevirtual 845, 3) := by decide +kernel
theorem dX13_analyse_5 : decode cX13_analyse 5 = .ok (.ifCond .eq 5, 3) := by decide +kernel
theorem dX13_analyse_8 : decode cX13_analyse 8 = .ok (.iconst 0, 1) := by decide +kernel
theorem dX13_analyse_9 : decode cX13_analyse 9 = .ok (.ireturn, 1) := by decide +kernel
theorem dX13_analysis_0 : decode cX13_analysis 0 = .ok (.aload_n 0, 1) := by decide +kernel
theorem dX13_analysis_1 : decode cX13_analysis 1 = .ok (.iconst 0, 1) := by decide +kernel
theorem dX13_analysis_10 : decode cX13_analysis 10 = .ok (.bipush 11, 2) := by decide +kernel
theorem dX13_analysis_12 : decode cX13_analysis 12 = .ok (.if_icmp .le 8, 3) := by decide +kernel
theorem dX13_analysis_15 : decode cX13_analysis 15 = .ok (.aload_n 0, 1) := by decide +kernel
theorem dX13_analysis_16 : decode cX13_analysis 16 = .ok (.invokevirtual 579, 3) := by decide +kernel
theorem dX13_analysis_19 : decode cX13_analysis 19 = .ok (.ireturn, 1) := by decide +kernel
theorem dX13_analysis_2 : decode cX13_analysis 2 = .ok (.putfield 3, 3) := by decide +kernel
theorem dX13_analysis_20 : decode cX13_analysis 20 = .ok (.iload_n 1, 1) := by decide +kernel
theorem dX13_analysis_21 : decode cX13_analysis 21 = .ok (.ifCond .lt 11, 3) := by decide +kernel
theorem dX13_analysis_24 : decode cX13_analysis 24 = .ok (.iload_n 1, 1) := by decide +kernel
theorem dX13_analysis_25 : decode cX13_analysis 25 = .ok (.aload_n 0, 1) := by decide +kernel
theorem dX13_analysis_26 : decode cX13_analysis 26 = .ok (.getfield 854, 3) := by decide +kernel
theorem dX13_analysis_29 : decode cX13_analysis 29 = .ok (.if_icmp .lt 5, 3) := by decide +kernel
theorem dX13_analysis_32 : decode cX13_analysis 32 = .ok (.iconst (-1), 1) := by decide +kernel
theorem dX13_analysis_33 : decode cX13_analysis 33 = .ok (.ireturn, 1) := by decide +kernel
theorem dX13_analysis_5 : decode cX13_analysis 5 = .ok (.iload_n 2, 1) := by decide +kernel
theorem dX13_analysis_6 : decode cX13_analysis 6 = .ok (.ifCond .lt 9, 3) := by decide +kernel
theorem dX13_analysis_9 : decode cX13_analysis 9 = .ok (.iload_n 2, 1) := by decide +kernel
theorem dX13_ask_0 : decode cX13_ask 0 = .ok (.aload_n 0, 1) := by decide +kernel
theorem dX13_ask_1 : decode cX13_ask 1 = .ok (.iload_n 1, 1) := by decide +kernel
theorem dX13_ask_2 : decode cX13_ask 2 = .ok (.invokevirtual 845, 3) := by decide +kernel
theorem dX13_ask_5 : decode cX13_ask 5 = .ok (.ifCond .eq 5, 3) := by decide +kernel
theorem dX13_ask_8 : decode cX13_ask 8 = .ok (.iconst 0, 1) := by decide +kernel
theorem dX13_ask_9 : decode cX13_ask 9 = .ok (.ireturn, 1) := by decide +kernel
theorem dX13_bad_0 : decode cX13_bad 0 = .ok (.aload_n 0, 1) := by decide +kernel
theorem dX13_bad_1 : decode cX13_bad 1 = .ok (.iconst 1, 1) := by decide +kernel
theorem dX13_bad_2 : decode cX13_bad 2 = .ok (.putfield 3, 3) := by decide +kernel
theorem dX13_bad_5 : decode cX13_bad 5 = .ok (.iconst 0, 1) := by decide +kernel
theorem dX13_bad_6 : decode cX13_bad 6 = .ok (.ireturn, 1) := by decide +kernel
theorem dX13_bar_0 : decode cX13_bar 0 = .ok (.aload_n 0, 1) := by decide +kernel
theorem dX13_bar_1 : decode cX13_bar 1 = .ok (.iconst 0, 1) := by decide +kernel
theorem dX13_bar_10 : decode cX13_bar 10 = .ok (.aload_n 0, 1) := by decide +kernel
theorem dX13_bar_11 : decode cX13_bar 11 = .ok (.getfield 664, 3) := by decide +kernel
theorem dX13_bar_14 : decode cX13_bar 14 = .ok (.if_icmp .lt 9, 3) := by decide +kernel
theorem dX13_bar_17 : decode cX13_bar 17 = .ok (.aload_n 0, 1) := by decide +kernel
theorem dX13_bar_18 : decode cX13_bar 18 = .ok (.invokevirtual 579, 3) := by decide +kernel
theorem dX13_bar_2 : decode cX13_bar 2 = .ok (.putfield 3, 3) := by decide +kernel
theorem dX13_bar_21 : decode cX13_bar 21 = .ok (.i2l, 1) := by decide +kernel
theorem dX13_bar_22 : decode cX13_bar 22 = .ok (.lreturn, 1) := by decide +kernel
theorem dX13_bar_5 : decode cX13_bar 5 = .ok (.iload_n 1, 1) := by decide +kernel
theorem dX13_bar_6 : decode cX13_bar 6 = .ok (.ifCond .lt 11, 3) := by decide +kernel
theorem dX13_bar_9 : decode cX13_bar 9 = .ok (.iload_n 1, 1) := by decide +kernel
theorem dX13_candidate_0 : decode cX13_candidate 0 = .ok (.aload_n 0, 1) := by decide +kernel
theorem dX13_candidate_1 : decode cX13_candidate 1 = .ok (.iconst 0, 1) := by decide +kernel
theorem dX13_candidate_10 : decode cX13_candidate 10 = .ok (.iload_n 1, 1) := by decide +kernel
theorem dX13_candidate_11 : decode cX13_candidate 11 = .ok (.ifCond .lt 11, 3) := by decide +kernel
theorem dX13_candidate_14 : decode cX13_candidate 14 = .ok (.iload_n 1, 1) := by decide +kernel
theorem dX13_candidate_15 : decode cX13_candidate 15 = .ok (.aload_n 0, 1) := by decide +kernel
theorem dX13_candidate_16 : decode cX13_candidate 16 = .ok (.getfield 1046, 3) := by decide +kernel
theorem dX13_candidate_19 : decode cX13_candidate 19 = .ok (.if_icmp .lt 5, 3) := by decide +kernel
theorem dX13_candidate_2 : decode cX13_candidate 2 = .ok (.putfield 3, 3) := by decide +kernel
theorem dX13_candidate_22 : decode cX13_candidate 22 = .ok (.iconst (-1), 1) := by decide +kernel
theorem dX13_candidate_23 : decode cX13_candidate 23 = .ok (.ireturn, 1) := by decide +kernel
theorem dX13_candidate_5 : decode cX13_candidate 5 = .ok (.aload_n 0, 1) := by decide +kernel
theorem dX13_candidate_6 : decode cX13_candidate 6 = .ok (.iconst 0, 1) := by decide +kernel
theorem dX13_candidate_7 : decode cX13_candidate 7 = .ok (.putfield 589, 3) := by decide +kernel
theorem dX13_cell_0 : decode cX13_cell 0 = .ok (.aload_n 0, 1) := by decide +kernel
theorem dX13_cell_1 : decode cX13_cell 1 = .ok (.iload_n 1, 1) := by decide +kernel
theorem dX13_cell_2 : decode cX13_cell 2 = .ok (.invokevirtual 845, 3) := by decide +kernel
theorem dX13_cell_5 : decode cX13_cell 5 = .ok (.ifCond .eq 5, 3) := by decide +kernel
theorem dX13_cell_8 : decode cX13_cell 8 = .ok (.iconst 0, 1) := by decide +kernel
theorem dX13_cell_9 : decode cX13_cell 9 = .ok (.ireturn, 1) := by decide +kernel
theorem dX13_count_0 : decode cX13_count 0 = .ok (.aload_n 0, 1) := by decide +kernel
theorem dX13_count_1 : decode cX13_count 1 = .ok (.iconst 0, 1) := by decide +kernel
theorem dX13_count_10 : decode cX13_count 10 = .ok (.bipush 14, 2) := by decide +kernel
theorem dX13_count_108 : decode cX13_count 108 = .ok (.aload_n 0, 1) := by decide +kernel
theorem dX13_count_109 : decode cX13_count 109 = .ok (.getfield 658, 3) := by decide +kernel
theorem dX13_count_112 : decode cX13_count 112 = .ok (.ireturn, 1) := by decide +kernel
theorem dX13_count_113 : decode cX13_count 113 = .ok (.aload_n 0, 1) := by decide +kernel
theorem dX13_count_114 : decode cX13_count 114 = .ok (.getfield 661, 3) := by decide +kernel
theorem dX13_count_117 : decode cX13_count 117 = .ok (.ireturn, 1) := by decide +kernel
theorem dX13_count_118 : decode cX13_count 118 = .ok (.aload_n 0, 1) := by decide +kernel
theorem dX13_count_119 : decode cX13_count 119 = .ok (.getfield 664, 3) := by decide +kernel
theorem dX13_count_12 : decode cX13_count 12 = .ok (.if_icmp .gt 21, 3) := by decide +kernel
theorem dX13_count_122 : decode cX13_count 122 = .ok (.ireturn, 1) := by decide +kernel
theorem dX13_count_123 : decode cX13_count 123 = .ok (.aload_n 0, 1) := by decide +kernel
theorem dX13_count_124 : decode cX13_count 124 = .ok (.getfield 667, 3) := by decide +kernel
theorem dX13_count_127 : decode cX13_count 127 = .ok (.ireturn, 1) := by decide +kernel
theorem dX13_count_128 : decode cX13_count 128 = .ok (.aload_n 0, 1) := by decide +kernel
theorem dX13_count_129 : decode cX13_count 129 = .ok (.getfield 670, 3) := by decide +kernel
theorem dX13_count_132 : decode cX13_count 132 = .ok (.ireturn, 1) := by decide +kernel
theorem dX13_count_133 : decode cX13_count 133 = .ok (.aload_n 0, 1) := by decide +kernel
theorem dX13_count_134 : decode cX13_count 134 = .ok (.getfield 989, 3) := by decide +kernel
theorem dX13_count_137 : decode cX13_count 137 = .ok (.ireturn, 1) := by decide +kernel
theorem dX13_count_138 : decode cX13_count 138 = .ok (.aload_n 0, 1) := by decide +kernel
theorem dX13_count_139 : decode cX13_count 139 = .ok (.getfield 992, 3) := by decide +kernel
theorem dX13_count_142 : decode cX13_count 142 = .ok (.ireturn, 1) := by decide +kernel
theorem dX13_count_143 : decode cX13_count 143 = .ok (.aload_n 0, 1) := by decide +kernel
theorem dX13_count_144 : decode cX13_count 144 = .ok (.getfield 1049, 3) := by decide +kernel
theorem dX13_count_147 : decode cX13_count 147 = .ok (.ireturn, 1) := by decide +kernel
theorem dX13_count_15 : decode cX13_count 15 = .ok (.iload_n 2, 1) := by decide +kernel
theorem dX13_count_16 : decode cX13_count 16 = .ok (.bipush 7, 2) := by decide +kernel
theorem dX13_count_18 : decode cX13_count 18 = .ok (.if_icmp .le 20, 3) := by decide +kernel
theorem dX13_count_2 : decode cX13_count 2 = .ok (.putfield 3, 3) := by decide +kernel
theorem dX13_count_21 : decode cX13_count 21 = .ok (.iload_n 1, 1) := by decide +kernel
theorem dX13_count_22 : decode cX13_count 22 = .ok (.ifCond .lt 11, 3) := by decide +kernel
theorem dX13_count_25 : decode cX13_count 25 = .ok (.iload_n 1, 1) := by decide +kernel
theorem dX13_count_26 : decode cX13_count 26 = .ok (.aload_n 0, 1) := by decide +kernel
theorem dX13_count_27 : decode cX13_count 27 = .ok (.getfield 658, 3) := by decide +kernel
theorem dX13_count_30 : decode cX13_count 30 = .ok (.if_icmp .lt 8, 3) := by decide +kernel
theorem dX13_count_33 : decode cX13_count 33 = .ok (.aload_n 0, 1) := by decide +kernel
theorem dX13_count_34 : decode cX13_count 34 = .ok (.invokevirtual 579, 3) := by decide +kernel
theorem dX13_count_37 : decode cX13_count 37 = .ok (.ireturn, 1) := by decide +kernel
theorem dX13_count_38 : decode cX13_count 38 = .ok (.iload_n 2, 1) := by decide +kernel
theorem dX13_count_39 : decode cX13_count 39 = .ok (.tableswitch 151 0 13 #[69, 74, 79, 84, 89, 94, 99, 104, 109, 116, 123, 130, 137, 144], 69) := by decide +kernel
theorem dX13_count_5 : decode cX13_count 5 = .ok (.iload_n 2, 1) := by decide +kernel
theorem dX13_count_6 : decode cX13_count 6 = .ok (.ifCond .lt 27, 3) := by decide +kernel
theorem dX13_count_9 : decode cX13_count 9 = .ok (.iload_n 2, 1) := by decide +kernel
theorem dX13_end_0 : decode cX13_end 0 = .ok (.aload_n 0, 1) := by decide +kernel
theorem dX13_end_1 : decode cX13_end 1 = .ok (.iconst 0, 1) := by decide +kernel
theorem dX13_end_10 : decode cX13_end 10 = .ok (.aload_n 0, 1) := by decide +kernel
theorem dX13_end_11 : decode cX13_end 11 = .ok (.getfield 576, 3) := by decide +kernel
theorem dX13_end_14 : decode cX13_end 14 = .ok (.if_icmp .le 8, 3) := by decide +kernel
theorem dX13_end_17 : decode cX13_end 17 = .ok (.aload_n 0, 1) := by decide +kernel
theorem dX13_end_18 : decode cX13_end 18 = .ok (.invokevirtual 579, 3) := by decide +kernel
theorem dX13_end_2 : decode cX13_end 2 = .ok (.putfield 3, 3) := by decide +kernel
theorem dX13_end_21 : decode cX13_end 21 = .ok (.ireturn, 1) := by decide +kernel
theorem dX13_end_22 : decode cX13_end 22 = .ok (.aload_n 0, 1) := by decide +kernel
theorem dX13_end_23 : decode cX13_end 23 = .ok (.iload_n 1, 1) := by decide +kernel
theorem dX13_end_24 : decode cX13_end 24 = .ok (.putfield 576, 3) := by decide +kernel
theorem dX13_end_27 : decode cX13_end 27 = .ok (.iload_n 1, 1) := by decide +kernel
theorem dX13_end_28 : decode cX13_end 28 = .ok (.ireturn, 1) := by decide +kernel
theorem dX13_end_5 : decode cX13_end 5 = .ok (.iload_n 1, 1) := by decide +kernel
theorem dX13_end_6 : decode cX13_end 6 = .ok (.ifCond .lt 11, 3) := by decide +kernel
theorem dX13_end_9 : decode cX13_end 9 = .ok (.iload_n 1, 1) := by decide +kernel
theorem dX13_feed_0 : decode cX13_feed 0 = .ok (.aload_n 0, 1) := by decide +kernel
theorem dX13_feed_1 : decode cX13_feed 1 = .ok (.iconst 0, 1) := by decide +kernel
theorem dX13_feed_11 : decode cX13_feed 11 = .ok (.iadd, 1) := by decide +kernel
theorem dX13_feed_12 : decode cX13_feed 12 = .ok (.sipush 1000, 3) := by decide +kernel
theorem dX13_feed_15 : decode cX13_feed 15 = .ok (.if_icmp .le 8, 3) := by decide +kernel
theorem dX13_feed_2 : decode cX13_feed 2 = .ok (.putfield 3, 3) := by decide +kernel
theorem dX13_feed_23 : decode cX13_feed 23 = .ok (.aload_n 0, 1) := by decide +kernel
theorem dX13_feed_24 : decode cX13_feed 24 = .ok (.iload_n 1, 1) := by decide +kernel
theorem dX13_feed_25 : decode cX13_feed 25 = .ok (.invokevirtual 583, 3) := by decide +kernel
theorem dX13_feed_28 : decode cX13_feed 28 = .ok (.aload_n 0, 1) := by decide +kernel
theorem dX13_feed_29 : decode cX13_feed 29 = .ok (.iload_n 2, 1) := by decide +kernel
theorem dX13_feed_30 : decode cX13_feed 30 = .ok (.invokevirtual 583, 3) := by decide +kernel
theorem dX13_feed_33 : decode cX13_feed 33 = .ok (.aload_n 0, 1) := by decide +kernel
theorem dX13_feed_34 : decode cX13_feed 34 = .ok (.iload_n 3, 1) := by decide +kernel
theorem dX13_feed_35 : decode cX13_feed 35 = .ok (.invokevirtual 583, 3) := by decide +kernel
theorem dX13_feed_38 : decode cX13_feed 38 = .ok (.aload_n 0, 1) := by decide +kernel
theorem dX13_feed_39 : decode cX13_feed 39 = .ok (.iload 4, 2) := by decide +kernel
theorem dX13_feed_41 : decode cX13_feed 41 = .ok (.invokevirtual 583, 3) := by decide +kernel
theorem dX13_feed_44 : decode cX13_feed 44 = .ok (.aload_n 0, 1) := by decide +kernel
theorem dX13_feed_45 : decode cX13_feed 45 = .ok (.iload 5, 2) := by decide +kernel
theorem dX13_feed_47 : decode cX13_feed 47 = .ok (.invokevirtual 583, 3) := by decide +kernel
theorem dX13_feed_5 : decode cX13_feed 5 = .ok (.aload_n 0, 1) := by decide +kernel
theorem dX13_feed_50 : decode cX13_feed 50 = .ok (.aload_n 0, 1) := by decide +kernel
theorem dX13_feed_51 : decode cX13_feed 51 = .ok (.getfield 576, 3) := by decide +kernel
theorem dX13_feed_54 : decode cX13_feed 54 = .ok (.ireturn, 1) := by decide +kernel
theorem dX13_feed_6 : decode cX13_feed 6 = .ok (.getfield 576, 3) := by decide +kernel
theorem dX13_feed_9 : decode cX13_feed 9 = .ok (.bipush 20, 2) := by decide +kernel
theorem dX13_four_0 : decode cX13_four 0 = .ok (.bipush 24, 2) := by decide +kernel
theorem dX13_four_11 : decode cX13_four 11 = .ok (.aload_n 0, 1) := by decide +kernel
theorem dX13_four_12 : decode cX13_four 12 = .ok (.dup, 1) := by decide +kernel
theorem dX13_four_13 : decode cX13_four 13 = .ok (.getfield 576, 3) := by decide +kernel
theorem dX13_four_16 : decode cX13_four 16 = .ok (.dup_x1, 1) := by decide +kernel
theorem dX13_four_17 : decode cX13_four 17 = .ok (.iconst 1, 1) := by decide +kernel
theorem dX13_four_18 : decode cX13_four 18 = .ok (.iadd, 1) := by decide +kernel
theorem dX13_four_19 : decode cX13_four 19 = .ok (.putfield 576, 3) := by decide +kernel
theorem dX13_four_2 : decode cX13_four 2 = .ok (.istore_n 2, 1) := by decide +kernel
theorem dX13_four_22 : decode cX13_four 22 = .ok (.iload_n 1, 1) := by decide +kernel
theorem dX13_four_23 : decode cX13_four 23 = .ok (.iload_n 2, 1) := by decide +kernel
theorem dX13_four_24 : decode cX13_four 24 = .ok (.iushr, 1) := by decide +kernel
theorem dX13_four_25 : decode cX13_four 25 = .ok (.i2b, 1) := by decide +kernel
theorem dX13_four_26 : decode cX13_four 26 = .ok (.bastore, 1) := by decide +kernel
theorem dX13_four_27 : decode cX13_four 27 = .ok (.iinc 2 (-8), 3) := by decide +kernel
theorem dX13_four_3 : decode cX13_four 3 = .ok (.iload_n 2, 1) := by decide +kernel
theorem dX13_four_30 : decode cX13_four 30 = .ok (.goto (-27), 3) := by decide +kernel
theorem dX13_four_33 : decode cX13_four 33 = .ok (.return_, 1) := by decide +kernel
theorem dX13_four_4 : decode cX13_four 4 = .ok (.ifCond .lt 29, 3) := by decide +kernel
theorem dX13_four_7 : decode cX13_four 7 = .ok (.aload_n 0, 1) := by decide +kernel
theorem dX13_four_8 : decode cX13_four 8 = .ok (.getfield 188, 3) := by decide +kernel
theorem dX13_guess_0 : decode cX13_guess 0 = .ok (.aload_n 0, 1) := by decide +kernel
theorem dX13_guess_1 : decode cX13_guess 1 = .ok (.iload_n 1, 1) := by decide +kernel
theorem dX13_guess_2 : decode cX13_guess 2 = .ok (.invokevirtual 845, 3) := by decide +kernel
theorem dX13_guess_5 : decode cX13_guess 5 = .ok (.ifCond .eq 5, 3) := by decide +kernel
theorem dX13_guess_8 : decode cX13_guess 8 = .ok (.iconst 0, 1) := by decide +kernel
theorem dX13_guess_9 : decode cX13_guess 9 = .ok (.ireturn, 1) := by decide +kernel
theorem dX13_guessed_0 : decode cX13_guessed 0 = .ok (.aload_n 0, 1) := by decide +kernel
theorem dX13_guessed_1 : decode cX13_guessed 1 = .ok (.iconst 0, 1) := by decide +kernel
theorem dX13_guessed_10 : decode cX13_guessed 10 = .ok (.iconst 3, 1) := by decide +kernel
theorem dX13_guessed_11 : decode cX13_guessed 11 = .ok (.if_icmp .le 8, 3) := by decide +kernel
theorem dX13_guessed_14 : decode cX13_guessed 14 = .ok (.aload_n 0, 1) := by decide +kernel
theorem dX13_guessed_15 : decode cX13_guessed 15 = .ok (.invokevirtual 579, 3) := by decide +kernel
theorem dX13_guessed_18 : decode cX13_guessed 18 = .ok (.ireturn, 1) := by decide +kernel
theorem dX13_guessed_19 : decode cX13_guessed 19 = .ok (.iload_n 1, 1) := by decide +kernel
theorem dX13_guessed_2 : decode cX13_guessed 2 = .ok (.putfield 3, 3) := by decide +kernel
theorem dX13_guessed_20 : decode cX13_guessed 20 = .ok (.ifCond .lt 11, 3) := by decide +kernel
theorem dX13_guessed_23 : decode cX13_guessed 23 = .ok (.iload_n 1, 1) := by decide +kernel
theorem dX13_guessed_24 : decode cX13_guessed 24 = .ok (.aload_n 0, 1) := by decide +kernel
theorem dX13_guessed_25 : decode cX13_guessed 25 = .ok (.getfield 870, 3) := by decide +kernel
theorem dX13_guessed_28 : decode cX13_guessed 28 = .ok (.if_icmp .lt 5, 3) := by decide +kernel
theorem dX13_guessed_31 : decode cX13_guessed 31 = .ok (.iconst (-1), 1) := by decide +kernel
theorem dX13_guessed_32 : decode cX13_guessed 32 = .ok (.ireturn, 1) := by decide +kernel
theorem dX13_guessed_5 : decode cX13_guessed 5 = .ok (.iload_n 2, 1) := by decide +kernel
theorem dX13_guessed_6 : decode cX13_guessed 6 = .ok (.ifCond .lt 8, 3) := by decide +kernel
theorem dX13_guessed_9 : decode cX13_guessed 9 = .ok (.iload_n 2, 1) := by decide +kernel
theorem dX13_hit_0 : decode cX13_hit 0 = .ok (.aload_n 0, 1) := by decide +kernel
theorem dX13_hit_1 : decode cX13_hit 1 = .ok (.iconst 0, 1) := by decide +kernel
theorem dX13_hit_10 : decode cX13_hit 10 = .ok (.iconst 1, 1) := by decide +kernel
theorem dX13_hit_11 : decode cX13_hit 11 = .ok (.if_icmp .le 8, 3) := by decide +kernel
theorem dX13_hit_14 : decode cX13_hit 14 = .ok (.aload_n 0, 1) := by decide +kernel
theorem dX13_hit_15 : decode cX13_hit 15 = .ok (.invokevirtual 579, 3) := by decide +kernel
theorem dX13_hit_18 : decode cX13_hit 18 = .ok (.ireturn, 1) := by decide +kernel
theorem dX13_hit_19 : decode cX13_hit 19 = .ok (.iload_n 1, 1) := by decide +kernel
theorem dX13_hit_2 : decode cX13_hit 2 = .ok (.putfield 3, 3) := by decide +kernel
theorem dX13_hit_20 : decode cX13_hit 20 = .ok (.ifCond .lt 11, 3) := by decide +kernel
theorem dX13_hit_23 : decode cX13_hit 23 = .ok (.iload_n 1, 1) := by decide +kernel
theorem dX13_hit_24 : decode cX13_hit 24 = .ok (.aload_n 0, 1) := by decide +kernel
theorem dX13_hit_25 : decode cX13_hit 25 = .ok (.getfield 1052, 3) := by decide +kernel
theorem dX13_hit_28 : decode cX13_hit 28 = .ok (.if_icmp .lt 7, 3) := by decide +kernel
theorem dX13_hit_31 : decode cX13_hit 31 = .ok (.iconst (-1), 1) := by decide +kernel
theorem dX13_hit_32 : decode cX13_hit 32 = .ok (.goto 22, 3) := by decide +kernel
theorem dX13_hit_5 : decode cX13_hit 5 = .ok (.iload_n 2, 1) := by decide +kernel
theorem dX13_hit_54 : decode cX13_hit 54 = .ok (.ireturn, 1) := by decide +kernel
theorem dX13_hit_6 : decode cX13_hit 6 = .ok (.ifCond .lt 8, 3) := by decide +kernel
theorem dX13_hit_9 : decode cX13_hit 9 = .ok (.iload_n 2, 1) := by decide +kernel
theorem dX13_mean__0 : decode cX13_mean_ 0 = .ok (.aload_n 0, 1) := by decide +kernel
theorem dX13_mean__1 : decode cX13_mean_ 1 = .ok (.iload_n 1, 1) := by decide +kernel
theorem dX13_mean__10 : decode cX13_mean_ 10 = .ok (.aload_n 0, 1) := by decide +kernel
theorem dX13_mean__11 : decode cX13_mean_ 11 = .ok (.iconst 0, 1) := by decide +kernel
theorem dX13_mean__12 : decode cX13_mean_ 12 = .ok (.putfield 589, 3) := by decide +kernel
theorem dX13_mean__15 : decode cX13_mean_ 15 = .ok (.aload_n 0, 1) := by decide +kernel
theorem dX13_mean__16 : decode cX13_mean_ 16 = .ok (.iload_n 1, 1) := by decide +kernel
theorem dX13_mean__17 : decode cX13_mean_ 17 = .ok (.invokevirtual 1030, 3) := by decide +kernel
theorem dX13_mean__2 : decode cX13_mean_ 2 = .ok (.invokevirtual 1017, 3) := by decide +kernel
theorem dX13_mean__20 : decode cX13_mean_ 20 = .ok (.ifCond .ne 6, 3) := by decide +kernel
theorem dX13_mean__23 : decode cX13_mean_ 23 = .ok (.bipush (-4), 2) := by decide +kernel
theorem dX13_mean__25 : decode cX13_mean_ 25 = .ok (.ireturn, 1) := by decide +kernel
theorem dX13_mean__5 : decode cX13_mean_ 5 = .ok (.ifCond .eq 5, 3) := by decide +kernel
theorem dX13_mean__8 : decode cX13_mean_ 8 = .ok (.iconst 0, 1) := by decide +kernel
theorem dX13_mean__9 : decode cX13_mean_ 9 = .ok (.ireturn, 1) := by decide +kernel
theorem dX13_mend_0 : decode cX13_mend 0 = .ok (.aload_n 0, 1) := by decide +kernel
theorem dX13_mend_1 : decode cX13_mend 1 = .ok (.iload_n 1, 1) := by decide +kernel
theorem dX13_mend_16 : decode cX13_mend 16 = .ok (.iconst 0, 1) := by decide +kernel
theorem dX13_mend_17 : decode cX13_mend 17 = .ok (.ireturn, 1) := by decide +kernel
theorem dX13_mend_2 : decode cX13_mend 2 = .ok (.invokevirtual 845, 3) := by decide +kernel
theorem dX13_mend_5 : decode cX13_mend 5 = .ok (.ifCond .ne 11, 3) := by decide +kernel
theorem dX13_module_0 : decode cX13_module 0 = .ok (.aload_n 0, 1) := by decide +kernel
theorem dX13_module_1 : decode cX13_module 1 = .ok (.iconst 0, 1) := by decide +kernel
theorem dX13_module_10 : decode cX13_module 10 = .ok (.invokevirtual 685, 3) := by decide +kernel
theorem dX13_module_13 : decode cX13_module 13 = .ok (.aload_n 0, 1) := by decide +kernel
theorem dX13_module_14 : decode cX13_module 14 = .ok (.iconst 0, 1) := by decide +kernel
theorem dX13_module_15 : decode cX13_module 15 = .ok (.putfield 597, 3) := by decide +kernel
theorem dX13_module_18 : decode cX13_module 18 = .ok (.aload_n 0, 1) := by decide +kernel
theorem dX13_module_19 : decode cX13_module 19 = .ok (.iconst 0, 1) := by decide +kernel
theorem dX13_module_2 : decode cX13_module 2 = .ok (.putfield 3, 3) := by decide +kernel
theorem dX13_module_20 : decode cX13_module 20 = .ok (.putfield 639, 3) := by decide +kernel
theorem dX13_module_23 : decode cX13_module 23 = .ok (.aload_n 0, 1) := by decide +kernel
theorem dX13_module_24 : decode cX13_module 24 = .ok (.invokevirtual 655, 3) := by decide +kernel
theorem dX13_module_27 : decode cX13_module 27 = .ok (.iconst 0, 1) := by decide +kernel
theorem dX13_module_28 : decode cX13_module 28 = .ok (.istore_n 1, 1) := by decide +kernel
theorem dX13_module_29 : decode cX13_module 29 = .ok (.aload_n 0, 1) := by decide +kernel
theorem dX13_module_30 : decode cX13_module 30 = .ok (.getfield 609, 3) := by decide +kernel
theorem dX13_module_33 : decode cX13_module 33 = .ok (.ifCond .eq 35, 3) := by decide +kernel
theorem dX13_module_5 : decode cX13_module 5 = .ok (.aload_n 0, 1) := by decide +kernel
theorem dX13_module_6 : decode cX13_module 6 = .ok (.invokevirtual 682, 3) := by decide +kernel
theorem dX13_module_68 : decode cX13_module 68 = .ok (.aload_n 0, 1) := by decide +kernel
theorem dX13_module_69 : decode cX13_module 69 = .ok (.iconst 0, 1) := by decide +kernel
theorem dX13_module_70 : decode cX13_module 70 = .ok (.putfield 695, 3) := by decide +kernel
theorem dX13_module_73 : decode cX13_module 73 = .ok (.aload_n 0, 1) := by decide +kernel
theorem dX13_module_74 : decode cX13_module 74 = .ok (.dup, 1) := by decide +kernel
theorem dX13_module_75 : decode cX13_module 75 = .ok (.getfield 698, 3) := by decide +kernel
theorem dX13_module_78 : decode cX13_module 78 = .ok (.iconst 1, 1) := by decide +kernel
theorem dX13_module_79 : decode cX13_module 79 = .ok (.iadd, 1) := by decide +kernel
theorem dX13_module_80 : decode cX13_module 80 = .ok (.putfield 698, 3) := by decide +kernel
theorem dX13_module_83 : decode cX13_module 83 = .ok (.iload_n 1, 1) := by decide +kernel
theorem dX13_module_84 : decode cX13_module 84 = .ok (.ireturn, 1) := by decide +kernel
theorem dX13_module_9 : decode cX13_module 9 = .ok (.aload_n 0, 1) := by decide +kernel
theorem dX13_next_0 : decode cX13_next 0 = .ok (.aload_n 0, 1) := by decide +kernel
theorem dX13_next_1 : decode cX13_next 1 = .ok (.getfield 597, 3) := by decide +kernel
theorem dX13_next_10 : decode cX13_next 10 = .ok (.if_icmp .ge 20, 3) := by decide +kernel
theorem dX13_next_30 : decode cX13_next 30 = .ok (.aload_n 0, 1) := by decide +kernel
theorem dX13_next_309 : decode cX13_next 309 = .ok (.aload_n 0, 1) := by decide +kernel
theorem dX13_next_31 : decode cX13_next 31 = .ok (.iload_n 1, 1) := by decide +kernel
theorem dX13_next_310 : decode cX13_next 310 = .ok (.iload_n 1, 1) := by decide +kernel
theorem dX13_next_311 : decode cX13_next 311 = .ok (.putfield 597, 3) := by decide +kernel
theorem dX13_next_314 : decode cX13_next 314 = .ok (.return_, 1) := by decide +kernel
theorem dX13_next_32 : decode cX13_next 32 = .ok (.putfield 600, 3) := by decide +kernel
theorem dX13_next_35 : decode cX13_next 35 = .ok (.aload_n 0, 1) := by decide +kernel
theorem dX13_next_36 : decode cX13_next 36 = .ok (.iconst 0, 1) := by decide +kernel
theorem dX13_next_37 : decode cX13_next 37 = .ok (.putfield 603, 3) := by decide +kernel
theorem dX13_next_4 : decode cX13_next 4 = .ok (.istore_n 1, 1) := by decide +kernel
theorem dX13_next_40 : decode cX13_next 40 = .ok (.aload_n 0, 1) := by decide +kernel
theorem dX13_next_41 : decode cX13_next 41 = .ok (.lconst 0, 1) := by decide +kernel
theorem dX13_next_42 : decode cX13_next 42 = .ok (.putfield 606, 3) := by decide +kernel
theorem dX13_next_45 : decode cX13_next 45 = .ok (.iload_n 1, 1) := by decide +kernel
theorem dX13_next_46 : decode cX13_next 46 = .ok (.aload_n 0, 1) := by decide +kernel
theorem dX13_next_47 : decode cX13_next 47 = .ok (.getfield 586, 3) := by decide +kernel
theorem dX13_next_5 : decode cX13_next 5 = .ok (.iload_n 1, 1) := by decide +kernel
theorem dX13_next_50 : decode cX13_next 50 = .ok (.if_icmp .ne 11, 3) := by decide +kernel
theorem dX13_next_53 : decode cX13_next 53 = .ok (.aload_n 0, 1) := by decide +kernel
theorem dX13_next_54 : decode cX13_next 54 = .ok (.iconst 0, 1) := by decide +kernel
theorem dX13_next_55 : decode cX13_next 55 = .ok (.putfield 609, 3) := by decide +kernel
theorem dX13_next_58 : decode cX13_next 58 = .ok (.goto 251, 3) := by decide +kernel
theorem dX13_next_6 : decode cX13_next 6 = .ok (.aload_n 0, 1) := by decide +kernel
theorem dX13_next_7 : decode cX13_next 7 = .ok (.getfield 586, 3) := by decide +kernel
theorem dX13_noPlace_0 : decode cX13_noPlace 0 = .ok (.aload_n 0, 1) := by decide +kernel
theorem dX13_noPlace_1 : decode cX13_noPlace 1 = .ok (.iload_n 1, 1) := by decide +kernel
theorem dX13_noPlace_11 : decode cX13_noPlace 11 = .ok (.iconst 1, 1) := by decide +kernel
theorem dX13_noPlace_12 : decode cX13_noPlace 12 = .ok (.goto 4, 3) := by decide +kernel
theorem dX13_noPlace_15 : decode cX13_noPlace 15 = .ok (.iconst 0, 1) := by decide +kernel
theorem dX13_noPlace_16 : decode cX13_noPlace 16 = .ok (.putfield 3, 3) := by decide +kernel
theorem dX13_noPlace_19 : decode cX13_noPlace 19 = .ok (.aload_n 0, 1) := by decide +kernel
theorem dX13_noPlace_2 : decode cX13_noPlace 2 = .ok (.ifCond .lt 9, 3) := by decide +kernel
theorem dX13_noPlace_20 : decode cX13_noPlace 20 = .ok (.getfield 3, 3) := by decide +kernel
theorem dX13_noPlace_23 : decode cX13_noPlace 23 = .ok (.ifCond .eq 7, 3) := by decide +kernel
theorem dX13_noPlace_26 : decode cX13_noPlace 26 = .ok (.iconst 1, 1) := by decide +kernel
theorem dX13_noPlace_27 : decode cX13_noPlace 27 = .ok (.goto 4, 3) := by decide +kernel
theorem dX13_noPlace_30 : decode cX13_noPlace 30 = .ok (.iconst 0, 1) := by decide +kernel
theorem dX13_noPlace_31 : decode cX13_noPlace 31 = .ok (.ireturn, 1) := by decide +kernel
theorem dX13_noPlace_5 : decode cX13_noPlace 5 = .ok (.iload_n 1, 1) := by decide +kernel
theorem dX13_noPlace_6 : decode cX13_noPlace 6 = .ok (.bipush 7, 2) := by decide +kernel
theorem dX13_noPlace_8 : decode cX13_noPlace 8 = .ok (.if_icmp .le 7, 3) := by decide +kernel
theorem dX13_noTongue_0 : decode cX13_noTongue 0 = .ok (.aload_n 0, 1) := by decide +kernel
theorem dX13_noTongue_1 : decode cX13_noTongue 1 = .ok (.iload_n 1, 1) := by decide +kernel
theorem dX13_noTongue_10 : decode cX13_noTongue 10 = .ok (.if_icmp .lt 7, 3) := by decide +kernel
theorem dX13_noTongue_13 : decode cX13_noTongue 13 = .ok (.iconst 1, 1) := by decide +kernel
theorem dX13_noTongue_14 : decode cX13_noTongue 14 = .ok (.goto 4, 3) := by decide +kernel
theorem dX13_noTongue_18 : decode cX13_noTongue 18 = .ok (.putfield 3, 3) := by decide +kernel
theorem dX13_noTongue_2 : decode cX13_noTongue 2 = .ok (.ifCond .lt 11, 3) := by decide +kernel
theorem dX13_noTongue_21 : decode cX13_noTongue 21 = .ok (.aload_n 0, 1) := by decide +kernel
theorem dX13_noTongue_22 : decode cX13_noTongue 22 = .ok (.getfield 3, 3) := by decide +kernel
theorem dX13_noTongue_25 : decode cX13_noTongue 25 = .ok (.ifCond .eq 7, 3) := by decide +kernel
theorem dX13_noTongue_28 : decode cX13_noTongue 28 = .ok (.iconst 1, 1) := by decide +kernel
theorem dX13_noTongue_29 : decode cX13_noTongue 29 = .ok (.goto 4, 3) := by decide +kernel
theorem dX13_noTongue_33 : decode cX13_noTongue 33 = .ok (.ireturn, 1) := by decide +kernel
theorem dX13_noTongue_5 : decode cX13_noTongue 5 = .ok (.iload_n 1, 1) := by decide +kernel
theorem dX13_noTongue_6 : decode cX13_noTongue 6 = .ok (.aload_n 0, 1) := by decide +kernel
theorem dX13_noTongue_7 : decode cX13_noTongue 7 = .ok (.getfield 658, 3) := by decide +kernel
theorem dX13_noTree_0 : decode cX13_noTree 0 = .ok (.aload_n 0, 1) := by decide +kernel
theorem dX13_noTree_1 : decode cX13_noTree 1 = .ok (.getfield 609, 3) := by decide +kernel
theorem dX13_noTree_4 : decode cX13_noTree 4 = .ok (.iconst 1, 1) := by decide +kernel
theorem dX13_noTree_5 : decode cX13_noTree 5 = .ok (.if_icmp .eq 5, 3) := by decide +kernel
theorem dX13_noTree_8 : decode cX13_noTree 8 = .ok (.iconst 1, 1) := by decide +kernel
theorem dX13_noTree_9 : decode cX13_noTree 9 = .ok (.ireturn, 1) := by decide +kernel
theorem dX13_number_0 : decode cX13_number 0 = .ok (.aload_n 0, 1) := by decide +kernel
theorem dX13_number_1 : decode cX13_number 1 = .ok (.iconst 0, 1) := by decide +kernel
theorem dX13_number_10 : decode cX13_number 10 = .ok (.iconst 5, 1) := by decide +kernel
theorem dX13_number_11 : decode cX13_number 11 = .ok (.if_icmp .gt 20, 3) := by decide +kernel
theorem dX13_number_14 : decode cX13_number 14 = .ok (.iload_n 2, 1) := by decide +kernel
theorem dX13_number_15 : decode cX13_number 15 = .ok (.iconst 2, 1) := by decide +kernel
theorem dX13_number_16 : decode cX13_number 16 = .ok (.if_icmp .le 20, 3) := by decide +kernel
theorem dX13_number_19 : decode cX13_number 19 = .ok (.iload_n 1, 1) := by decide +kernel
theorem dX13_number_2 : decode cX13_number 2 = .ok (.putfield 3, 3) := by decide +kernel
theorem dX13_number_20 : decode cX13_number 20 = .ok (.ifCond .lt 11, 3) := by decide +kernel
theorem dX13_number_23 : decode cX13_number 23 = .ok (.iload_n 1, 1) := by decide +kernel
theorem dX13_number_24 : decode cX13_number 24 = .ok (.aload_n 0, 1) := by decide +kernel
theorem dX13_number_25 : decode cX13_number 25 = .ok (.getfield 658, 3) := by decide +kernel
theorem dX13_number_28 : decode cX13_number 28 = .ok (.if_icmp .lt 8, 3) := by decide +kernel
theorem dX13_number_31 : decode cX13_number 31 = .ok (.aload_n 0, 1) := by decide +kernel
theorem dX13_number_32 : decode cX13_number 32 = .ok (.invokevirtual 579, 3) := by decide +kernel
theorem dX13_number_35 : decode cX13_number 35 = .ok (.ireturn, 1) := by decide +kernel
theorem dX13_number_36 : decode cX13_number 36 = .ok (.aload_n 0, 1) := by decide +kernel
theorem dX13_number_37 : decode cX13_number 37 = .ok (.invokevirtual 682, 3) := by decide +kernel
theorem dX13_number_40 : decode cX13_number 40 = .ok (.aload_n 0, 1) := by decide +kernel
theorem dX13_number_41 : decode cX13_number 41 = .ok (.iconst 0, 1) := by decide +kernel
theorem dX13_number_42 : decode cX13_number 42 = .ok (.putfield 597, 3) := by decide +kernel
theorem dX13_number_45 : decode cX13_number 45 = .ok (.aload_n 0, 1) := by decide +kernel
theorem dX13_number_46 : decode cX13_number 46 = .ok (.invokevirtual 655, 3) := by decide +kernel
theorem dX13_number_49 : decode cX13_number 49 = .ok (.aload_n 0, 1) := by decide +kernel
theorem dX13_number_5 : decode cX13_number 5 = .ok (.iload_n 2, 1) := by decide +kernel
theorem dX13_number_50 : decode cX13_number 50 = .ok (.getfield 609, 3) := by decide +kernel
theorem dX13_number_53 : decode cX13_number 53 = .ok (.iconst 1, 1) := by decide +kernel
theorem dX13_number_54 : decode cX13_number 54 = .ok (.if_icmp .eq 5, 3) := by decide +kernel
theorem dX13_number_57 : decode cX13_number 57 = .ok (.iconst (-1), 1) := by decide +kernel
theorem dX13_number_58 : decode cX13_number 58 = .ok (.ireturn, 1) := by decide +kernel
theorem dX13_number_6 : decode cX13_number 6 = .ok (.ifCond .lt 25, 3) := by decide +kernel
theorem dX13_number_9 : decode cX13_number 9 = .ok (.iload_n 2, 1) := by decide +kernel
theorem dX13_out_0 : decode cX13_out 0 = .ok (.aload_n 0, 1) := by decide +kernel
theorem dX13_out_1 : decode cX13_out 1 = .ok (.iconst 0, 1) := by decide +kernel
theorem dX13_out_10 : decode cX13_out 10 = .ok (.aload_n 0, 1) := by decide +kernel
theorem dX13_out_11 : decode cX13_out 11 = .ok (.getfield 589, 3) := by decide +kernel
theorem dX13_out_14 : decode cX13_out 14 = .ok (.if_icmp .lt 7, 3) := by decide +kernel
theorem dX13_out_17 : decode cX13_out 17 = .ok (.iconst (-1), 1) := by decide +kernel
theorem dX13_out_18 : decode cX13_out 18 = .ok (.goto 13, 3) := by decide +kernel
theorem dX13_out_2 : decode cX13_out 2 = .ok (.putfield 3, 3) := by decide +kernel
theorem dX13_out_31 : decode cX13_out 31 = .ok (.ireturn, 1) := by decide +kernel
theorem dX13_out_5 : decode cX13_out 5 = .ok (.iload_n 1, 1) := by decide +kernel
theorem dX13_out_6 : decode cX13_out 6 = .ok (.ifCond .lt 11, 3) := by decide +kernel
theorem dX13_out_9 : decode cX13_out 9 = .ok (.iload_n 1, 1) := by decide +kernel
theorem dX13_parse_0 : decode cX13_parse 0 = .ok (.aload_n 0, 1) := by decide +kernel
theorem dX13_parse_1 : decode cX13_parse 1 = .ok (.iload_n 1, 1) := by decide +kernel
theorem dX13_parse_16 : decode cX13_parse 16 = .ok (.iconst 0, 1) := by decide +kernel
theorem dX13_parse_17 : decode cX13_parse 17 = .ok (.ireturn, 1) := by decide +kernel
theorem dX13_parse_2 : decode cX13_parse 2 = .ok (.invokevirtual 845, 3) := by decide +kernel
theorem dX13_parse_5 : decode cX13_parse 5 = .ok (.ifCond .ne 11, 3) := by decide +kernel
theorem dX13_price_0 : decode cX13_price 0 = .ok (.aload_n 0, 1) := by decide +kernel
theorem dX13_price_1 : decode cX13_price 1 = .ok (.iconst 0, 1) := by decide +kernel
theorem dX13_price_10 : decode cX13_price 10 = .ok (.aload_n 0, 1) := by decide +kernel
theorem dX13_price_11 : decode cX13_price 11 = .ok (.getfield 977, 3) := by decide +kernel
theorem dX13_price_14 : decode cX13_price 14 = .ok (.if_icmp .lt 7, 3) := by decide +kernel
theorem dX13_price_17 : decode cX13_price 17 = .ok (.iconst (-1), 1) := by decide +kernel
theorem dX13_price_18 : decode cX13_price 18 = .ok (.goto 9, 3) := by decide +kernel
theorem dX13_price_2 : decode cX13_price 2 = .ok (.putfield 3, 3) := by decide +kernel
theorem dX13_price_27 : decode cX13_price 27 = .ok (.ireturn, 1) := by decide +kernel
theorem dX13_price_5 : decode cX13_price 5 = .ok (.iload_n 1, 1) := by decide +kernel
theorem dX13_price_6 : decode cX13_price 6 = .ok (.ifCond .lt 11, 3) := by decide +kernel
theorem dX13_price_9 : decode cX13_price 9 = .ok (.iload_n 1, 1) := by decide +kernel
theorem dX13_reading_0 : decode cX13_reading 0 = .ok (.aload_n 0, 1) := by decide +kernel
theorem dX13_reading_1 : decode cX13_reading 1 = .ok (.iload_n 2, 1) := by decide +kernel
theorem dX13_reading_10 : decode cX13_reading 10 = .ok (.iload_n 1, 1) := by decide +kernel
theorem dX13_reading_11 : decode cX13_reading 11 = .ok (.ifCond .lt 11, 3) := by decide +kernel
theorem dX13_reading_14 : decode cX13_reading 14 = .ok (.iload_n 1, 1) := by decide +kernel
theorem dX13_reading_15 : decode cX13_reading 15 = .ok (.aload_n 0, 1) := by decide +kernel
theorem dX13_reading_16 : decode cX13_reading 16 = .ok (.getfield 977, 3) := by decide +kernel
theorem dX13_reading_19 : decode cX13_reading 19 = .ok (.if_icmp .lt 5, 3) := by decide +kernel
theorem dX13_reading_2 : decode cX13_reading 2 = .ok (.invokevirtual 1017, 3) := by decide +kernel
theorem dX13_reading_22 : decode cX13_reading 22 = .ok (.iconst (-1), 1) := by decide +kernel
theorem dX13_reading_23 : decode cX13_reading 23 = .ok (.ireturn, 1) := by decide +kernel
theorem dX13_reading_5 : decode cX13_reading 5 = .ok (.ifCond .eq 5, 3) := by decide +kernel
theorem dX13_reading_8 : decode cX13_reading 8 = .ok (.iconst 0, 1) := by decide +kernel
theorem dX13_reading_9 : decode cX13_reading 9 = .ok (.ireturn, 1) := by decide +kernel
theorem dX13_reads_0 : decode cX13_reads 0 = .ok (.aload_n 0, 1) := by decide +kernel
theorem dX13_reads_1 : decode cX13_reads 1 = .ok (.aload_n 0, 1) := by decide +kernel
theorem dX13_reads_10 : decode cX13_reads 10 = .ok (.iload_n 1, 1) := by decide +kernel
theorem dX13_reads_11 : decode cX13_reads 11 = .ok (.aload_n 0, 1) := by decide +kernel
theorem dX13_reads_12 : decode cX13_reads 12 = .ok (.getfield 576, 3) := by decide +kernel
theorem dX13_reads_15 : decode cX13_reads 15 = .ok (.if_icmp .ge 21, 3) := by decide +kernel
theorem dX13_reads_2 : decode cX13_reads 2 = .ok (.getfield 576, 3) := by decide +kernel
theorem dX13_reads_36 : decode cX13_reads 36 = .ok (.aload_n 0, 1) := by decide +kernel
theorem dX13_reads_37 : decode cX13_reads 37 = .ok (.iconst 0, 1) := by decide +kernel
theorem dX13_reads_38 : decode cX13_reads 38 = .ok (.putfield 576, 3) := by decide +kernel
theorem dX13_reads_41 : decode cX13_reads 41 = .ok (.return_, 1) := by decide +kernel
theorem dX13_reads_5 : decode cX13_reads 5 = .ok (.putfield 586, 3) := by decide +kernel
theorem dX13_reads_8 : decode cX13_reads 8 = .ok (.iconst 0, 1) := by decide +kernel
theorem dX13_reads_9 : decode cX13_reads 9 = .ok (.istore_n 1, 1) := by decide +kernel
theorem dX13_remember_0 : decode cX13_remember 0 = .ok (.iconst 0, 1) := by decide +kernel
theorem dX13_remember_1 : decode cX13_remember 1 = .ok (.istore_n 1, 1) := by decide +kernel
theorem dX13_remember_10 : decode cX13_remember 10 = .ok (.aload_n 0, 1) := by decide +kernel
theorem dX13_remember_101 : decode cX13_remember 101 = .ok (.aload_n 0, 1) := by decide +kernel
theorem dX13_remember_102 : decode cX13_remember 102 = .ok (.getfield 637, 3) := by decide +kernel
theorem dX13_remember_105 : decode cX13_remember 105 = .ok (.iastore, 1) := by decide +kernel
theorem dX13_remember_106 : decode cX13_remember 106 = .ok (.aload_n 0, 1) := by decide +kernel
theorem dX13_remember_107 : decode cX13_remember 107 = .ok (.getfield 286, 3) := by decide +kernel
theorem dX13_remember_11 : decode cX13_remember 11 = .ok (.getfield 658, 3) := by decide +kernel
theorem dX13_remember_110 : decode cX13_remember 110 = .ok (.iload_n 1, 1) := by decide +kernel
theorem dX13_remember_111 : decode cX13_remember 111 = .ok (.iinc 1 1, 3) := by decide +kernel
theorem dX13_remember_114 : decode cX13_remember 114 = .ok (.aload_n 0, 1) := by decide +kernel
theorem dX13_remember_115 : decode cX13_remember 115 = .ok (.getfield 676, 3) := by decide +kernel
theorem dX13_remember_118 : decode cX13_remember 118 = .ok (.iastore, 1) := by decide +kernel
theorem dX13_remember_119 : decode cX13_remember 119 = .ok (.iconst 0, 1) := by decide +kernel
theorem dX13_remember_120 : decode cX13_remember 120 = .ok (.istore_n 2, 1) := by decide +kernel
theorem dX13_remember_121 : decode cX13_remember 121 = .ok (.iload_n 2, 1) := by decide +kernel
theorem dX13_remember_122 : decode cX13_remember 122 = .ok (.bipush 8, 2) := by decide +kernel
theorem dX13_remember_124 : decode cX13_remember 124 = .ok (.if_icmp .ge 114, 3) := by decide +kernel
theorem dX13_remember_127 : decode cX13_remember 127 = .ok (.aload_n 0, 1) := by decide +kernel
theorem dX13_remember_128 : decode cX13_remember 128 = .ok (.getfield 286, 3) := by decide +kernel
theorem dX13_remember_131 : decode cX13_remember 131 = .ok (.iload_n 1, 1) := by decide +kernel
theorem dX13_remember_132 : decode cX13_remember 132 = .ok (.iinc 1 1, 3) := by decide +kernel
theorem dX13_remember_135 : decode cX13_remember 135 = .ok (.aload_n 0, 1) := by decide +kernel
theorem dX13_remember_136 : decode cX13_remember 136 = .ok (.getfield 56, 3) := by decide +kernel
theorem dX13_remember_139 : decode cX13_remember 139 = .ok (.iload_n 2, 1) := by decide +kernel
theorem dX13_remember_14 : decode cX13_remember 14 = .ok (.iastore, 1) := by decide +kernel
theorem dX13_remember_140 : decode cX13_remember 140 = .ok (.iaload, 1) := by decide +kernel
theorem dX13_remember_141 : decode cX13_remember 141 = .ok (.iastore, 1) := by decide +kernel
theorem dX13_remember_142 : decode cX13_remember 142 = .ok (.aload_n 0, 1) := by decide +kernel
theorem dX13_remember_143 : decode cX13_remember 143 = .ok (.getfield 286, 3) := by decide +kernel
theorem dX13_remember_146 : decode cX13_remember 146 = .ok (.iload_n 1, 1) := by decide +kernel
theorem dX13_remember_147 : decode cX13_remember 147 = .ok (.iinc 1 1, 3) := by decide +kernel
theorem dX13_remember_15 : decode cX13_remember 15 = .ok (.aload_n 0, 1) := by decide +kernel
theorem dX13_remember_150 : decode cX13_remember 150 = .ok (.aload_n 0, 1) := by decide +kernel
theorem dX13_remember_151 : decode cX13_remember 151 = .ok (.getfield 59, 3) := by decide +kernel
theorem dX13_remember_154 : decode cX13_remember 154 = .ok (.iload_n 2, 1) := by decide +kernel
theorem dX13_remember_155 : decode cX13_remember 155 = .ok (.iaload, 1) := by decide +kernel
theorem dX13_remember_156 : decode cX13_remember 156 = .ok (.iastore, 1) := by decide +kernel
theorem dX13_remember_157 : decode cX13_remember 157 = .ok (.aload_n 0, 1) := by decide +kernel
theorem dX13_remember_158 : decode cX13_remember 158 = .ok (.getfield 286, 3) := by decide +kernel
theorem dX13_remember_16 : decode cX13_remember 16 = .ok (.getfield 286, 3) := by decide +kernel
theorem dX13_remember_161 : decode cX13_remember 161 = .ok (.iload_n 1, 1) := by decide +kernel
theorem dX13_remember_162 : decode cX13_remember 162 = .ok (.iinc 1 1, 3) := by decide +kernel
theorem dX13_remember_165 : decode cX13_remember 165 = .ok (.aload_n 0, 1) := by decide +kernel
theorem dX13_remember_166 : decode cX13_remember 166 = .ok (.getfield 62, 3) := by decide +kernel
theorem dX13_remember_169 : decode cX13_remember 169 = .ok (.iload_n 2, 1) := by decide +kernel
theorem dX13_remember_170 : decode cX13_remember 170 = .ok (.iaload, 1) := by decide +kernel
theorem dX13_remember_171 : decode cX13_remember 171 = .ok (.iastore, 1) := by decide +kernel
theorem dX13_remember_172 : decode cX13_remember 172 = .ok (.aload_n 0, 1) := by decide +kernel
theorem dX13_remember_173 : decode cX13_remember 173 = .ok (.getfield 286, 3) := by decide +kernel
theorem dX13_remember_176 : decode cX13_remember 176 = .ok (.iload_n 1, 1) := by decide +kernel
theorem dX13_remember_177 : decode cX13_remember 177 = .ok (.iinc 1 1, 3) := by decide +kernel
theorem dX13_remember_180 : decode cX13_remember 180 = .ok (.aload_n 0, 1) := by decide +kernel
theorem dX13_remember_181 : decode cX13_remember 181 = .ok (.getfield 65, 3) := by decide +kernel
theorem dX13_remember_184 : decode cX13_remember 184 = .ok (.iload_n 2, 1) := by decide +kernel
theorem dX13_remember_185 : decode cX13_remember 185 = .ok (.iaload, 1) := by decide +kernel
theorem dX13_remember_186 : decode cX13_remember 186 = .ok (.iastore, 1) := by decide +kernel
theorem dX13_remember_187 : decode cX13_remember 187 = .ok (.aload_n 0, 1) := by decide +kernel
theorem dX13_remember_188 : decode cX13_remember 188 = .ok (.getfield 286, 3) := by decide +kernel
theorem dX13_remember_19 : decode cX13_remember 19 = .ok (.iload_n 1, 1) := by decide +kernel
theorem dX13_remember_191 : decode cX13_remember 191 = .ok (.iload_n 1, 1) := by decide +kernel
theorem dX13_remember_192 : decode cX13_remember 192 = .ok (.iinc 1 1, 3) := by decide +kernel
theorem dX13_remember_195 : decode cX13_remember 195 = .ok (.aload_n 0, 1) := by decide +kernel
theorem dX13_remember_196 : decode cX13_remember 196 = .ok (.getfield 68, 3) := by decide +kernel
theorem dX13_remember_199 : decode cX13_remember 199 = .ok (.iload_n 2, 1) := by decide +kernel
theorem dX13_remember_2 : decode cX13_remember 2 = .ok (.aload_n 0, 1) := by decide +kernel
theorem dX13_remember_20 : decode cX13_remember 20 = .ok (.iinc 1 1, 3) := by decide +kernel
theorem dX13_remember_200 : decode cX13_remember 200 = .ok (.iaload, 1) := by decide +kernel
theorem dX13_remember_201 : decode cX13_remember 201 = .ok (.iastore, 1) := by decide +kernel
theorem dX13_remember_202 : decode cX13_remember 202 = .ok (.aload_n 0, 1) := by decide +kernel
theorem dX13_remember_203 : decode cX13_remember 203 = .ok (.getfield 286, 3) := by decide +kernel
theorem dX13_remember_206 : decode cX13_remember 206 = .ok (.iload_n 1, 1) := by decide +kernel
theorem dX13_remember_207 : decode cX13_remember 207 = .ok (.iinc 1 1, 3) := by decide +kernel
theorem dX13_remember_210 : decode cX13_remember 210 = .ok (.aload_n 0, 1) := by decide +kernel
theorem dX13_remember_211 : decode cX13_remember 211 = .ok (.getfield 71, 3) := by decide +kernel
theorem dX13_remember_214 : decode cX13_remember 214 = .ok (.iload_n 2, 1) := by decide +kernel
theorem dX13_remember_215 : decode cX13_remember 215 = .ok (.iaload, 1) := by decide +kernel
theorem dX13_remember_216 : decode cX13_remember 216 = .ok (.iastore, 1) := by decide +kernel
theorem dX13_remember_217 : decode cX13_remember 217 = .ok (.aload_n 0, 1) := by decide +kernel
theorem dX13_remember_218 : decode cX13_remember 218 = .ok (.getfield 286, 3) := by decide +kernel
theorem dX13_remember_221 : decode cX13_remember 221 = .ok (.iload_n 1, 1) := by decide +kernel
theorem dX13_remember_222 : decode cX13_remember 222 = .ok (.iinc 1 1, 3) := by decide +kernel
theorem dX13_remember_225 : decode cX13_remember 225 = .ok (.aload_n 0, 1) := by decide +kernel
theorem dX13_remember_226 : decode cX13_remember 226 = .ok (.getfield 74, 3) := by decide +kernel
theorem dX13_remember_229 : decode cX13_remember 229 = .ok (.iload_n 2, 1) := by decide +kernel
theorem dX13_remember_23 : decode cX13_remember 23 = .ok (.aload_n 0, 1) := by decide +kernel
theorem dX13_remember_230 : decode cX13_remember 230 = .ok (.iaload, 1) := by decide +kernel
theorem dX13_remember_231 : decode cX13_remember 231 = .ok (.iastore, 1) := by decide +kernel
theorem dX13_remember_232 : decode cX13_remember 232 = .ok (.iinc 2 1, 3) := by decide +kernel
theorem dX13_remember_235 : decode cX13_remember 235 = .ok (.goto (-114), 3) := by decide +kernel
theorem dX13_remember_238 : decode cX13_remember 238 = .ok (.aload_n 0, 1) := by decide +kernel
theorem dX13_remember_239 : decode cX13_remember 239 = .ok (.iconst 0, 1) := by decide +kernel
theorem dX13_remember_24 : decode cX13_remember 24 = .ok (.getfield 661, 3) := by decide +kernel
theorem dX13_remember_240 : decode cX13_remember 240 = .ok (.putfield 679, 3) := by decide +kernel
theorem dX13_remember_243 : decode cX13_remember 243 = .ok (.return_, 1) := by decide +kernel
theorem dX13_remember_27 : decode cX13_remember 27 = .ok (.iastore, 1) := by decide +kernel
theorem dX13_remember_28 : decode cX13_remember 28 = .ok (.aload_n 0, 1) := by decide +kernel
theorem dX13_remember_29 : decode cX13_remember 29 = .ok (.getfield 286, 3) := by decide +kernel
theorem dX13_remember_3 : decode cX13_remember 3 = .ok (.getfield 286, 3) := by decide +kernel
theorem dX13_remember_32 : decode cX13_remember 32 = .ok (.iload_n 1, 1) := by decide +kernel
theorem dX13_remember_33 : decode cX13_remember 33 = .ok (.iinc 1 1, 3) := by decide +kernel
theorem dX13_remember_36 : decode cX13_remember 36 = .ok (.aload_n 0, 1) := by decide +kernel
theorem dX13_remember_37 : decode cX13_remember 37 = .ok (.getfield 664, 3) := by decide +kernel
theorem dX13_remember_40 : decode cX13_remember 40 = .ok (.iastore, 1) := by decide +kernel
theorem dX13_remember_41 : decode cX13_remember 41 = .ok (.aload_n 0, 1) := by decide +kernel
theorem dX13_remember_42 : decode cX13_remember 42 = .ok (.getfield 286, 3) := by decide +kernel
theorem dX13_remember_45 : decode cX13_remember 45 = .ok (.iload_n 1, 1) := by decide +kernel
theorem dX13_remember_46 : decode cX13_remember 46 = .ok (.iinc 1 1, 3) := by decide +kernel
theorem dX13_remember_49 : decode cX13_remember 49 = .ok (.aload_n 0, 1) := by decide +kernel
theorem dX13_remember_50 : decode cX13_remember 50 = .ok (.getfield 667, 3) := by decide +kernel
theorem dX13_remember_53 : decode cX13_remember 53 = .ok (.iastore, 1) := by decide +kernel
theorem dX13_remember_54 : decode cX13_remember 54 = .ok (.aload_n 0, 1) := by decide +kernel
theorem dX13_remember_55 : decode cX13_remember 55 = .ok (.getfield 286, 3) := by decide +kernel
theorem dX13_remember_58 : decode cX13_remember 58 = .ok (.iload_n 1, 1) := by decide +kernel
theorem dX13_remember_59 : decode cX13_remember 59 = .ok (.iinc 1 1, 3) := by decide +kernel
theorem dX13_remember_6 : decode cX13_remember 6 = .ok (.iload_n 1, 1) := by decide +kernel
theorem dX13_remember_62 : decode cX13_remember 62 = .ok (.aload_n 0, 1) := by decide +kernel
theorem dX13_remember_63 : decode cX13_remember 63 = .ok (.getfield 670, 3) := by decide +kernel
theorem dX13_remember_66 : decode cX13_remember 66 = .ok (.iastore, 1) := by decide +kernel
theorem dX13_remember_67 : decode cX13_remember 67 = .ok (.aload_n 0, 1) := by decide +kernel
theorem dX13_remember_68 : decode cX13_remember 68 = .ok (.getfield 286, 3) := by decide +kernel
theorem dX13_remember_7 : decode cX13_remember 7 = .ok (.iinc 1 1, 3) := by decide +kernel
theorem dX13_remember_71 : decode cX13_remember 71 = .ok (.iload_n 1, 1) := by decide +kernel
theorem dX13_remember_72 : decode cX13_remember 72 = .ok (.iinc 1 1, 3) := by decide +kernel
theorem dX13_remember_75 : decode cX13_remember 75 = .ok (.aload_n 0, 1) := by decide +kernel
theorem dX13_remember_76 : decode cX13_remember 76 = .ok (.getfield 15, 3) := by decide +kernel
theorem dX13_remember_79 : decode cX13_remember 79 = .ok (.iastore, 1) := by decide +kernel
theorem dX13_remember_80 : decode cX13_remember 80 = .ok (.aload_n 0, 1) := by decide +kernel
theorem dX13_remember_81 : decode cX13_remember 81 = .ok (.getfield 286, 3) := by decide +kernel
theorem dX13_remember_84 : decode cX13_remember 84 = .ok (.iload_n 1, 1) := by decide +kernel
theorem dX13_remember_85 : decode cX13_remember 85 = .ok (.iinc 1 1, 3) := by decide +kernel
theorem dX13_remember_88 : decode cX13_remember 88 = .ok (.aload_n 0, 1) := by decide +kernel
theorem dX13_remember_89 : decode cX13_remember 89 = .ok (.getfield 673, 3) := by decide +kernel
theorem dX13_remember_92 : decode cX13_remember 92 = .ok (.iastore, 1) := by decide +kernel
theorem dX13_remember_93 : decode cX13_remember 93 = .ok (.aload_n 0, 1) := by decide +kernel
theorem dX13_remember_94 : decode cX13_remember 94 = .ok (.getfield 286, 3) := by decide +kernel
theorem dX13_remember_97 : decode cX13_remember 97 = .ok (.iload_n 1, 1) := by decide +kernel
theorem dX13_remember_98 : decode cX13_remember 98 = .ok (.iinc 1 1, 3) := by decide +kernel
theorem dX13_rule_0 : decode cX13_rule 0 = .ok (.aload_n 0, 1) := by decide +kernel
theorem dX13_rule_1 : decode cX13_rule 1 = .ok (.iconst 0, 1) := by decide +kernel
theorem dX13_rule_2 : decode cX13_rule 2 = .ok (.putfield 3, 3) := by decide +kernel
theorem dX13_rule_5 : decode cX13_rule 5 = .ok (.aload_n 0, 1) := by decide +kernel
theorem dX13_rule_6 : decode cX13_rule 6 = .ok (.getfield 695, 3) := by decide +kernel
theorem dX13_rule_9 : decode cX13_rule 9 = .ok (.ireturn, 1) := by decide +kernel
theorem dX13_same_0 : decode cX13_same 0 = .ok (.aload_n 0, 1) := by decide +kernel
theorem dX13_same_1 : decode cX13_same 1 = .ok (.iload_n 1, 1) := by decide +kernel
theorem dX13_same_11 : decode cX13_same 11 = .ok (.iload_n 2, 1) := by decide +kernel
theorem dX13_same_12 : decode cX13_same 12 = .ok (.ifCond .lt 9, 3) := by decide +kernel
theorem dX13_same_15 : decode cX13_same 15 = .ok (.iload_n 2, 1) := by decide +kernel
theorem dX13_same_16 : decode cX13_same 16 = .ok (.bipush 7, 2) := by decide +kernel
theorem dX13_same_18 : decode cX13_same 18 = .ok (.if_icmp .le 7, 3) := by decide +kernel
theorem dX13_same_2 : decode cX13_same 2 = .ok (.ifCond .lt 19, 3) := by decide +kernel
theorem dX13_same_21 : decode cX13_same 21 = .ok (.iconst 1, 1) := by decide +kernel
theorem dX13_same_22 : decode cX13_same 22 = .ok (.goto 4, 3) := by decide +kernel
theorem dX13_same_25 : decode cX13_same 25 = .ok (.iconst 0, 1) := by decide +kernel
theorem dX13_same_26 : decode cX13_same 26 = .ok (.putfield 3, 3) := by decide +kernel
theorem dX13_same_29 : decode cX13_same 29 = .ok (.aload_n 0, 1) := by decide +kernel
theorem dX13_same_30 : decode cX13_same 30 = .ok (.getfield 3, 3) := by decide +kernel
theorem dX13_same_33 : decode cX13_same 33 = .ok (.ifCond .ne 18, 3) := by decide +kernel
theorem dX13_same_36 : decode cX13_same 36 = .ok (.aload_n 0, 1) := by decide +kernel
theorem dX13_same_37 : decode cX13_same 37 = .ok (.getfield 467, 3) := by decide +kernel
theorem dX13_same_40 : decode cX13_same 40 = .ok (.iload_n 1, 1) := by decide +kernel
theorem dX13_same_41 : decode cX13_same 41 = .ok (.iaload, 1) := by decide +kernel
theorem dX13_same_42 : decode cX13_same 42 = .ok (.aload_n 0, 1) := by decide +kernel
theorem dX13_same_43 : decode cX13_same 43 = .ok (.getfield 467, 3) := by decide +kernel
theorem dX13_same_46 : decode cX13_same 46 = .ok (.iload_n 2, 1) := by decide +kernel
theorem dX13_same_47 : decode cX13_same 47 = .ok (.iaload, 1) := by decide +kernel
theorem dX13_same_48 : decode cX13_same 48 = .ok (.if_icmp .eq 5, 3) := by decide +kernel
theorem dX13_same_5 : decode cX13_same 5 = .ok (.iload_n 1, 1) := by decide +kernel
theorem dX13_same_51 : decode cX13_same 51 = .ok (.iconst 0, 1) := by decide +kernel
theorem dX13_same_52 : decode cX13_same 52 = .ok (.ireturn, 1) := by decide +kernel
theorem dX13_same_53 : decode cX13_same 53 = .ok (.iconst 0, 1) := by decide +kernel
theorem dX13_same_54 : decode cX13_same 54 = .ok (.istore_n 3, 1) := by decide +kernel
theorem dX13_same_55 : decode cX13_same 55 = .ok (.iload_n 3, 1) := by decide +kernel
theorem dX13_same_56 : decode cX13_same 56 = .ok (.aload_n 0, 1) := by decide +kernel
theorem dX13_same_57 : decode cX13_same 57 = .ok (.getfield 467, 3) := by decide +kernel
theorem dX13_same_6 : decode cX13_same 6 = .ok (.bipush 7, 2) := by decide +kernel
theorem dX13_same_60 : decode cX13_same 60 = .ok (.iload_n 1, 1) := by decide +kernel
theorem dX13_same_61 : decode cX13_same 61 = .ok (.iaload, 1) := by decide +kernel
theorem dX13_same_62 : decode cX13_same 62 = .ok (.if_icmp .ge 36, 3) := by decide +kernel
theorem dX13_same_8 : decode cX13_same 8 = .ok (.if_icmp .gt 13, 3) := by decide +kernel
theorem dX13_same_98 : decode cX13_same 98 = .ok (.iconst 1, 1) := by decide +kernel
theorem dX13_same_99 : decode cX13_same 99 = .ok (.ireturn, 1) := by decide +kernel
theorem dX13_say_0 : decode cX13_say 0 = .ok (.aload_n 0, 1) := by decide +kernel
theorem dX13_say_1 : decode cX13_say 1 = .ok (.iload_n 1, 1) := by decide +kernel
theorem dX13_say_16 : decode cX13_say 16 = .ok (.iconst 0, 1) := by decide +kernel
theorem dX13_say_17 : decode cX13_say 17 = .ok (.ireturn, 1) := by decide +kernel
theorem dX13_say_2 : decode cX13_say 2 = .ok (.invokevirtual 845, 3) := by decide +kernel
theorem dX13_say_5 : decode cX13_say 5 = .ok (.ifCond .ne 11, 3) := by decide +kernel
theorem dX13_show_0 : decode cX13_show 0 = .ok (.aload_n 0, 1) := by decide +kernel
theorem dX13_show_1 : decode cX13_show 1 = .ok (.iload_n 1, 1) := by decide +kernel
theorem dX13_show_10 : decode cX13_show 10 = .ok (.aload_n 0, 1) := by decide +kernel
theorem dX13_show_11 : decode cX13_show 11 = .ok (.iconst 0, 1) := by decide +kernel
theorem dX13_show_12 : decode cX13_show 12 = .ok (.putfield 589, 3) := by decide +kernel
theorem dX13_show_15 : decode cX13_show 15 = .ok (.aload_n 0, 1) := by decide +kernel
theorem dX13_show_16 : decode cX13_show 16 = .ok (.iload_n 1, 1) := by decide +kernel
theorem dX13_show_17 : decode cX13_show 17 = .ok (.invokevirtual 1030, 3) := by decide +kernel
theorem dX13_show_2 : decode cX13_show 2 = .ok (.invokevirtual 1017, 3) := by decide +kernel
theorem dX13_show_20 : decode cX13_show 20 = .ok (.ifCond .ne 5, 3) := by decide +kernel
theorem dX13_show_23 : decode cX13_show 23 = .ok (.iconst (-1), 1) := by decide +kernel
theorem dX13_show_24 : decode cX13_show 24 = .ok (.ireturn, 1) := by decide +kernel
theorem dX13_show_5 : decode cX13_show 5 = .ok (.ifCond .eq 5, 3) := by decide +kernel
theorem dX13_show_8 : decode cX13_show 8 = .ok (.iconst 0, 1) := by decide +kernel
theorem dX13_show_9 : decode cX13_show 9 = .ok (.ireturn, 1) := by decide +kernel
theorem dX13_sounds_0 : decode cX13_sounds 0 = .ok (.aload_n 0, 1) := by decide +kernel
theorem dX13_sounds_1 : decode cX13_sounds 1 = .ok (.iload_n 1, 1) := by decide +kernel
theorem dX13_sounds_2 : decode cX13_sounds 2 = .ok (.invokevirtual 845, 3) := by decide +kernel
theorem dX13_sounds_5 : decode cX13_sounds 5 = .ok (.ifCond .eq 5, 3) := by decide +kernel
theorem dX13_sounds_8 : decode cX13_sounds 8 = .ok (.iconst 0, 1) := by decide +kernel
theorem dX13_sounds_9 : decode cX13_sounds 9 = .ok (.ireturn, 1) := by decide +kernel
theorem dX13_swap_0 : decode cX13_swap 0 = .ok (.aload_n 0, 1) := by decide +kernel
theorem dX13_swap_1 : decode cX13_swap 1 = .ok (.iload_n 1, 1) := by decide +kernel
theorem dX13_swap_2 : decode cX13_swap 2 = .ok (.invokevirtual 845, 3) := by decide +kernel
theorem dX13_swap_24 : decode cX13_swap 24 = .ok (.iconst 0, 1) := by decide +kernel
theorem dX13_swap_25 : decode cX13_swap 25 = .ok (.ireturn, 1) := by decide +kernel
theorem dX13_swap_5 : decode cX13_swap 5 = .ok (.ifCond .ne 19, 3) := by decide +kernel
theorem dX13_takes_0 : decode cX13_takes 0 = .ok (.iconst 0, 1) := by decide +kernel
theorem dX13_takes_1 : decode cX13_takes 1 = .ok (.istore_n 2, 1) := by decide +kernel
theorem dX13_takes_2 : decode cX13_takes 2 = .ok (.iload_n 2, 1) := by decide +kernel
theorem dX13_takes_3 : decode cX13_takes 3 = .ok (.aload_n 0, 1) := by decide +kernel
theorem dX13_takes_35 : decode cX13_takes 35 = .ok (.aload_n 0, 1) := by decide +kernel
theorem dX13_takes_36 : decode cX13_takes 36 = .ok (.aload_n 0, 1) := by decide +kernel
theorem dX13_takes_37 : decode cX13_takes 37 = .ok (.getfield 467, 3) := by decide +kernel
theorem dX13_takes_4 : decode cX13_takes 4 = .ok (.getfield 467, 3) := by decide +kernel
theorem dX13_takes_40 : decode cX13_takes 40 = .ok (.iload_n 1, 1) := by decide +kernel
theorem dX13_takes_41 : decode cX13_takes 41 = .ok (.iaload, 1) := by decide +kernel
theorem dX13_takes_42 : decode cX13_takes 42 = .ok (.putfield 1011, 3) := by decide +kernel
theorem dX13_takes_45 : decode cX13_takes 45 = .ok (.aload_n 0, 1) := by decide +kernel
theorem dX13_takes_46 : decode cX13_takes 46 = .ok (.getfield 1011, 3) := by decide +kernel
theorem dX13_takes_49 : decode cX13_takes 49 = .ok (.ireturn, 1) := by decide +kernel
theorem dX13_takes_7 : decode cX13_takes 7 = .ok (.iload_n 1, 1) := by decide +kernel
theorem dX13_takes_8 : decode cX13_takes 8 = .ok (.iaload, 1) := by decide +kernel
theorem dX13_takes_9 : decode cX13_takes 9 = .ok (.if_icmp .ge 26, 3) := by decide +kernel
theorem dX13_tree_0 : decode cX13_tree 0 = .ok (.aload_n 0, 1) := by decide +kernel
theorem dX13_tree_1 : decode cX13_tree 1 = .ok (.iload_n 1, 1) := by decide +kernel
theorem dX13_tree_10 : decode cX13_tree 10 = .ok (.aload_n 0, 1) := by decide +kernel
theorem dX13_tree_11 : decode cX13_tree 11 = .ok (.invokevirtual 682, 3) := by decide +kernel
theorem dX13_tree_14 : decode cX13_tree 14 = .ok (.aload_n 0, 1) := by decide +kernel
theorem dX13_tree_15 : decode cX13_tree 15 = .ok (.iconst 0, 1) := by decide +kernel
theorem dX13_tree_16 : decode cX13_tree 16 = .ok (.putfield 597, 3) := by decide +kernel
theorem dX13_tree_19 : decode cX13_tree 19 = .ok (.aload_n 0, 1) := by decide +kernel
theorem dX13_tree_2 : decode cX13_tree 2 = .ok (.invokevirtual 1017, 3) := by decide +kernel
theorem dX13_tree_20 : decode cX13_tree 20 = .ok (.invokevirtual 655, 3) := by decide +kernel
theorem dX13_tree_23 : decode cX13_tree 23 = .ok (.aload_n 0, 1) := by decide +kernel
theorem dX13_tree_24 : decode cX13_tree 24 = .ok (.iconst 0, 1) := by decide +kernel
theorem dX13_tree_25 : decode cX13_tree 25 = .ok (.putfield 1011, 3) := by decide +kernel
theorem dX13_tree_28 : decode cX13_tree 28 = .ok (.aload_n 0, 1) := by decide +kernel
theorem dX13_tree_29 : decode cX13_tree 29 = .ok (.iconst (-1), 1) := by decide +kernel
theorem dX13_tree_30 : decode cX13_tree 30 = .ok (.invokevirtual 1020, 3) := by decide +kernel
theorem dX13_tree_33 : decode cX13_tree 33 = .ok (.ifCond .ne 10, 3) := by decide +kernel
theorem dX13_tree_43 : decode cX13_tree 43 = .ok (.iconst (-1), 1) := by decide +kernel
theorem dX13_tree_44 : decode cX13_tree 44 = .ok (.aload_n 0, 1) := by decide +kernel
theorem dX13_tree_45 : decode cX13_tree 45 = .ok (.getfield 609, 3) := by decide +kernel
theorem dX13_tree_48 : decode cX13_tree 48 = .ok (.ifCond .ne 10, 3) := by decide +kernel
theorem dX13_tree_5 : decode cX13_tree 5 = .ok (.ifCond .eq 5, 3) := by decide +kernel
theorem dX13_tree_51 : decode cX13_tree 51 = .ok (.aload_n 0, 1) := by decide +kernel
theorem dX13_tree_52 : decode cX13_tree 52 = .ok (.getfield 586, 3) := by decide +kernel
theorem dX13_tree_55 : decode cX13_tree 55 = .ok (.goto 7, 3) := by decide +kernel
theorem dX13_tree_62 : decode cX13_tree 62 = .ok (.isub, 1) := by decide +kernel
theorem dX13_tree_63 : decode cX13_tree 63 = .ok (.ireturn, 1) := by decide +kernel
theorem dX13_tree_8 : decode cX13_tree 8 = .ok (.iconst 0, 1) := by decide +kernel
theorem dX13_tree_9 : decode cX13_tree 9 = .ok (.ireturn, 1) := by decide +kernel
theorem dX13_trees_0 : decode cX13_trees 0 = .ok (.aload_n 0, 1) := by decide +kernel
theorem dX13_trees_1 : decode cX13_trees 1 = .ok (.iconst 0, 1) := by decide +kernel
theorem dX13_trees_2 : decode cX13_trees 2 = .ok (.putfield 3, 3) := by decide +kernel
theorem dX13_trees_5 : decode cX13_trees 5 = .ok (.aload_n 0, 1) := by decide +kernel
theorem dX13_trees_6 : decode cX13_trees 6 = .ok (.getfield 984, 3) := by decide +kernel
theorem dX13_trees_9 : decode cX13_trees 9 = .ok (.lreturn, 1) := by decide +kernel
theorem dX13_truth_0 : decode cX13_truth 0 = .ok (.aload_n 0, 1) := by decide +kernel
theorem dX13_truth_1 : decode cX13_truth 1 = .ok (.iload_n 1, 1) := by decide +kernel
theorem dX13_truth_10 : decode cX13_truth 10 = .ok (.aload_n 0, 1) := by decide +kernel
theorem dX13_truth_11 : decode cX13_truth 11 = .ok (.iload_n 1, 1) := by decide +kernel
theorem dX13_truth_12 : decode cX13_truth 12 = .ok (.invokevirtual 1030, 3) := by decide +kernel
theorem dX13_truth_15 : decode cX13_truth 15 = .ok (.ifCond .ne 6, 3) := by decide +kernel
theorem dX13_truth_18 : decode cX13_truth 18 = .ok (.bipush (-4), 2) := by decide +kernel
theorem dX13_truth_2 : decode cX13_truth 2 = .ok (.invokevirtual 1017, 3) := by decide +kernel
theorem dX13_truth_20 : decode cX13_truth 20 = .ok (.ireturn, 1) := by decide +kernel
theorem dX13_truth_5 : decode cX13_truth 5 = .ok (.ifCond .eq 5, 3) := by decide +kernel
theorem dX13_truth_8 : decode cX13_truth 8 = .ok (.iconst 0, 1) := by decide +kernel
theorem dX13_truth_9 : decode cX13_truth 9 = .ok (.ireturn, 1) := by decide +kernel
theorem dX1_tellAnalysis_0 : decode cX1_tellAnalysis 0 = .ok (.iload_n 1, 1) := by decide +kernel
theorem dX1_tellAnalysis_1 : decode cX1_tellAnalysis 1 = .ok (.ifCond .lt 11, 3) := by decide +kernel
theorem dX1_tellAnalysis_12 : decode cX1_tellAnalysis 12 = .ok (.iconst (-1), 1) := by decide +kernel
theorem dX1_tellAnalysis_13 : decode cX1_tellAnalysis 13 = .ok (.ireturn, 1) := by decide +kernel
theorem dX1_tellAnalysis_4 : decode cX1_tellAnalysis 4 = .ok (.iload_n 1, 1) := by decide +kernel
theorem dX1_tellAnalysis_5 : decode cX1_tellAnalysis 5 = .ok (.aload_n 0, 1) := by decide +kernel
theorem dX1_tellAnalysis_6 : decode cX1_tellAnalysis 6 = .ok (.getfield 53, 3) := by decide +kernel
theorem dX1_tellAnalysis_9 : decode cX1_tellAnalysis 9 = .ok (.if_icmp .lt 5, 3) := by decide +kernel
theorem dX1_tellGuess_0 : decode cX1_tellGuess 0 = .ok (.iload_n 1, 1) := by decide +kernel
theorem dX1_tellGuess_1 : decode cX1_tellGuess 1 = .ok (.ifCond .lt 11, 3) := by decide +kernel
theorem dX1_tellGuess_12 : decode cX1_tellGuess 12 = .ok (.iconst (-1), 1) := by decide +kernel
theorem dX1_tellGuess_13 : decode cX1_tellGuess 13 = .ok (.ireturn, 1) := by decide +kernel
theorem dX1_tellGuess_4 : decode cX1_tellGuess 4 = .ok (.iload_n 1, 1) := by decide +kernel
theorem dX1_tellGuess_5 : decode cX1_tellGuess 5 = .ok (.aload_n 0, 1) := by decide +kernel
theorem dX1_tellGuess_6 : decode cX1_tellGuess 6 = .ok (.getfield 113, 3) := by decide +kernel
theorem dX1_tellGuess_9 : decode cX1_tellGuess 9 = .ok (.if_icmp .lt 5, 3) := by decide +kernel
theorem dX1_tellHit_0 : decode cX1_tellHit 0 = .ok (.iload_n 1, 1) := by decide +kernel
theorem dX1_tellHit_1 : decode cX1_tellHit 1 = .ok (.ifCond .lt 11, 3) := by decide +kernel
theorem dX1_tellHit_12 : decode cX1_tellHit 12 = .ok (.iconst (-1), 1) := by decide +kernel
theorem dX1_tellHit_13 : decode cX1_tellHit 13 = .ok (.ireturn, 1) := by decide +kernel
theorem dX1_tellHit_4 : decode cX1_tellHit 4 = .ok (.iload_n 1, 1) := by decide +kernel
theorem dX1_tellHit_5 : decode cX1_tellHit 5 = .ok (.aload_n 0, 1) := by decide +kernel
theorem dX1_tellHit_6 : decode cX1_tellHit 6 = .ok (.getfield 165, 3) := by decide +kernel
theorem dX1_tellHit_9 : decode cX1_tellHit 9 = .ok (.if_icmp .lt 5, 3) := by decide +kernel
theorem dX5_priceOf_0 : decode cX5_priceOf 0 = .ok (.aload_n 0, 1) := by decide +kernel
theorem dX5_priceOf_1 : decode cX5_priceOf 1 = .ok (.invokevirtual 146, 3) := by decide +kernel
theorem dX5_priceOf_10 : decode cX5_priceOf 10 = .ok (.getfield 68, 3) := by decide +kernel
theorem dX5_priceOf_13 : decode cX5_priceOf 13 = .ok (.if_icmp .ge 12, 3) := by decide +kernel
theorem dX5_priceOf_25 : decode cX5_priceOf 25 = .ok (.iconst (-1), 1) := by decide +kernel
theorem dX5_priceOf_26 : decode cX5_priceOf 26 = .ok (.ireturn, 1) := by decide +kernel
theorem dX5_priceOf_4 : decode cX5_priceOf 4 = .ok (.iload_n 1, 1) := by decide +kernel
theorem dX5_priceOf_5 : decode cX5_priceOf 5 = .ok (.ifCond .lt 20, 3) := by decide +kernel
theorem dX5_priceOf_8 : decode cX5_priceOf 8 = .ok (.iload_n 1, 1) := by decide +kernel
theorem dX5_priceOf_9 : decode cX5_priceOf 9 = .ok (.aload_n 0, 1) := by decide +kernel
theorem dX5_rank_0 : decode cX5_rank 0 = .ok (.aload_n 0, 1) := by decide +kernel
theorem dX5_rank_1 : decode cX5_rank 1 = .ok (.getfield 61, 3) := by decide +kernel
theorem dX5_rank_14 : decode cX5_rank 14 = .ok (.return_, 1) := by decide +kernel
theorem dX5_rank_4 : decode cX5_rank 4 = .ok (.ifCond .eq 10, 3) := by decide +kernel
theorem dX5_spell_0 : decode cX5_spell 0 = .ok (.aload_n 0, 1) := by decide +kernel
theorem dX5_spell_1 : decode cX5_spell 1 = .ok (.invokevirtual 146, 3) := by decide +kernel
theorem dX5_spell_10 : decode cX5_spell 10 = .ok (.getfield 68, 3) := by decide +kernel
theorem dX5_spell_13 : decode cX5_spell 13 = .ok (.if_icmp .lt 5, 3) := by decide +kernel
theorem dX5_spell_16 : decode cX5_spell 16 = .ok (.iconst (-1), 1) := by decide +kernel
theorem dX5_spell_17 : decode cX5_spell 17 = .ok (.ireturn, 1) := by decide +kernel
theorem dX5_spell_4 : decode cX5_spell 4 = .ok (.iload_n 1, 1) := by decide +kernel
theorem dX5_spell_5 : decode cX5_spell 5 = .ok (.ifCond .lt 11, 3) := by decide +kernel
theorem dX5_spell_8 : decode cX5_spell 8 = .ok (.iload_n 1, 1) := by decide +kernel
theorem dX5_spell_9 : decode cX5_spell 9 = .ok (.aload_n 0, 1) := by decide +kernel
theorem dX5_total_0 : decode cX5_total 0 = .ok (.aload_n 0, 1) := by decide +kernel
theorem dX5_total_1 : decode cX5_total 1 = .ok (.getfield 61, 3) := by decide +kernel
theorem dX5_total_4 : decode cX5_total 4 = .ok (.ifCond .ne 5, 3) := by decide +kernel
theorem dX5_total_7 : decode cX5_total 7 = .ok (.lconst 0, 1) := by decide +kernel
theorem dX5_total_8 : decode cX5_total 8 = .ok (.lreturn, 1) := by decide +kernel
theorem dX6_begin_0 : decode cX6_begin 0 = .ok (.aload_n 0, 1) := by decide +kernel
theorem dX6_begin_1 : decode cX6_begin 1 = .ok (.iconst 0, 1) := by decide +kernel
theorem dX6_begin_12 : decode cX6_begin 12 = .ok (.aload_n 0, 1) := by decide +kernel
theorem dX6_begin_13 : decode cX6_begin 13 = .ok (.getfield 43, 3) := by decide +kernel
theorem dX6_begin_16 : decode cX6_begin 16 = .ok (.invokevirtual 56, 3) := by decide +kernel
theorem dX6_begin_19 : decode cX6_begin 19 = .ok (.return_, 1) := by decide +kernel
theorem dX6_begin_2 : decode cX6_begin 2 = .ok (.putfield 47, 3) := by decide +kernel
theorem dX6_begin_5 : decode cX6_begin 5 = .ok (.aload_n 0, 1) := by decide +kernel
theorem dX6_begin_6 : decode cX6_begin 6 = .ok (.getfield 39, 3) := by decide +kernel
theorem dX6_begin_9 : decode cX6_begin 9 = .ok (.invokevirtual 51, 3) := by decide +kernel
theorem dX6_readTree_0 : decode cX6_readTree 0 = .ok (.aload_n 0, 1) := by decide +kernel
theorem dX6_readTree_1 : decode cX6_readTree 1 = .ok (.getfield 43, 3) := by decide +kernel
theorem dX6_readTree_10 : decode cX6_readTree 10 = .ok (.istore_n 3, 1) := by decide +kernel
theorem dX6_readTree_11 : decode cX6_readTree 11 = .ok (.iload_n 2, 1) := by decide +kernel
theorem dX6_readTree_12 : decode cX6_readTree 12 = .ok (.bipush 60, 2) := by decide +kernel
theorem dX6_readTree_14 : decode cX6_readTree 14 = .ok (.if_icmp .ge 192, 3) := by decide +kernel
theorem dX6_readTree_17 : decode cX6_readTree 17 = .ok (.aload_n 0, 1) := by decide +kernel
theorem dX6_readTree_18 : decode cX6_readTree 18 = .ok (.getfield 43, 3) := by decide +kernel
theorem dX6_readTree_206 : decode cX6_readTree 206 = .ok (.iconst (-1), 1) := by decide +kernel
theorem dX6_readTree_207 : decode cX6_readTree 207 = .ok (.aload_n 0, 1) := by decide +kernel
theorem dX6_readTree_208 : decode cX6_readTree 208 = .ok (.getfield 43, 3) := by decide +kernel
theorem dX6_readTree_21 : decode cX6_readTree 21 = .ok (.getfield 67, 3) := by decide +kernel
theorem dX6_readTree_211 : decode cX6_readTree 211 = .ok (.getfield 61, 3) := by decide +kernel
theorem dX6_readTree_214 : decode cX6_readTree 214 = .ok (.isub, 1) := by decide +kernel
theorem dX6_readTree_215 : decode cX6_readTree 215 = .ok (.ireturn, 1) := by decide +kernel
theorem dX6_readTree_24 : decode cX6_readTree 24 = .ok (.iconst 1, 1) := by decide +kernel
theorem dX6_readTree_25 : decode cX6_readTree 25 = .ok (.if_icmp .ne 181, 3) := by decide +kernel
theorem dX6_readTree_4 : decode cX6_readTree 4 = .ok (.invokevirtual 56, 3) := by decide +kernel
theorem dX6_readTree_7 : decode cX6_readTree 7 = .ok (.iconst 0, 1) := by decide +kernel
theorem dX6_readTree_8 : decode cX6_readTree 8 = .ok (.istore_n 2, 1) := by decide +kernel
theorem dX6_readTree_9 : decode cX6_readTree 9 = .ok (.iconst 0, 1) := by decide +kernel
theorem dX8_mark_0 : decode cX8_mark 0 = .ok (.aload_n 0, 1) := by decide +kernel
theorem dX8_mark_1 : decode cX8_mark 1 = .ok (.iconst 0, 1) := by decide +kernel
theorem dX8_mark_10 : decode cX8_mark 10 = .ok (.aload_n 0, 1) := by decide +kernel
theorem dX8_mark_11 : decode cX8_mark 11 = .ok (.getfield 18, 3) := by decide +kernel
theorem dX8_mark_127 : decode cX8_mark 127 = .ok (.aload_n 0, 1) := by decide +kernel
theorem dX8_mark_128 : decode cX8_mark 128 = .ok (.getfield 52, 3) := by decide +kernel
theorem dX8_mark_131 : decode cX8_mark 131 = .ok (.iconst 0, 1) := by decide +kernel
theorem dX8_mark_132 : decode cX8_mark 132 = .ok (.aload_n 0, 1) := by decide +kernel
theorem dX8_mark_133 : decode cX8_mark 133 = .ok (.getfield 72, 3) := by decide +kernel
theorem dX8_mark_136 : decode cX8_mark 136 = .ok (.bipush 63, 2) := by decide +kernel
theorem dX8_mark_138 : decode cX8_mark 138 = .ok (.bipush 96, 2) := by decide +kernel
theorem dX8_mark_14 : decode cX8_mark 14 = .ok (.getfield 82, 3) := by decide +kernel
theorem dX8_mark_140 : decode cX8_mark 140 = .ok (.invokestatic 95, 3) := by decide +kernel
theorem dX8_mark_143 : decode cX8_mark 143 = .ok (.return_, 1) := by decide +kernel
theorem dX8_mark_17 : decode cX8_mark 17 = .ok (.iastore, 1) := by decide +kernel
theorem dX8_mark_18 : decode cX8_mark 18 = .ok (.aload_n 0, 1) := by decide +kernel
theorem dX8_mark_19 : decode cX8_mark 19 = .ok (.getfield 72, 3) := by decide +kernel
theorem dX8_mark_2 : decode cX8_mark 2 = .ok (.putfield 78, 3) := by decide +kernel
theorem dX8_mark_22 : decode cX8_mark 22 = .ok (.iconst 1, 1) := by decide +kernel
theorem dX8_mark_23 : decode cX8_mark 23 = .ok (.aload_n 0, 1) := by decide +kernel
theorem dX8_mark_24 : decode cX8_mark 24 = .ok (.getfield 22, 3) := by decide +kernel
theorem dX8_mark_27 : decode cX8_mark 27 = .ok (.getfield 82, 3) := by decide +kernel
theorem dX8_mark_30 : decode cX8_mark 30 = .ok (.iastore, 1) := by decide +kernel
theorem dX8_mark_31 : decode cX8_mark 31 = .ok (.aload_n 0, 1) := by decide +kernel
theorem dX8_mark_32 : decode cX8_mark 32 = .ok (.getfield 72, 3) := by decide +kernel
theorem dX8_mark_35 : decode cX8_mark 35 = .ok (.iconst 2, 1) := by decide +kernel
theorem dX8_mark_36 : decode cX8_mark 36 = .ok (.aload_n 0, 1) := by decide +kernel
theorem dX8_mark_37 : decode cX8_mark 37 = .ok (.getfield 25, 3) := by decide +kernel
theorem dX8_mark_40 : decode cX8_mark 40 = .ok (.getfield 82, 3) := by decide +kernel
theorem dX8_mark_43 : decode cX8_mark 43 = .ok (.iastore, 1) := by decide +kernel
theorem dX8_mark_44 : decode cX8_mark 44 = .ok (.aload_n 0, 1) := by decide +kernel
theorem dX8_mark_45 : decode cX8_mark 45 = .ok (.getfield 72, 3) := by decide +kernel
theorem dX8_mark_48 : decode cX8_mark 48 = .ok (.iconst 3, 1) := by decide +kernel
theorem dX8_mark_49 : decode cX8_mark 49 = .ok (.aload_n 0, 1) := by decide +kernel
theorem dX8_mark_5 : decode cX8_mark 5 = .ok (.aload_n 0, 1) := by decide +kernel
theorem dX8_mark_50 : decode cX8_mark 50 = .ok (.getfield 28, 3) := by decide +kernel
theorem dX8_mark_53 : decode cX8_mark 53 = .ok (.getfield 82, 3) := by decide +kernel
theorem dX8_mark_56 : decode cX8_mark 56 = .ok (.iastore, 1) := by decide +kernel
theorem dX8_mark_57 : decode cX8_mark 57 = .ok (.aload_n 0, 1) := by decide +kernel
theorem dX8_mark_58 : decode cX8_mark 58 = .ok (.getfield 72, 3) := by decide +kernel
theorem dX8_mark_6 : decode cX8_mark 6 = .ok (.getfield 72, 3) := by decide +kernel
theorem dX8_mark_61 : decode cX8_mark 61 = .ok (.iconst 4, 1) := by decide +kernel
theorem dX8_mark_62 : decode cX8_mark 62 = .ok (.aload_n 0, 1) := by decide +kernel
theorem dX8_mark_63 : decode cX8_mark 63 = .ok (.getfield 85, 3) := by decide +kernel
theorem dX8_mark_66 : decode cX8_mark 66 = .ok (.iastore, 1) := by decide +kernel
theorem dX8_mark_67 : decode cX8_mark 67 = .ok (.aload_n 0, 1) := by decide +kernel
theorem dX8_mark_68 : decode cX8_mark 68 = .ok (.getfield 72, 3) := by decide +kernel
theorem dX8_mark_71 : decode cX8_mark 71 = .ok (.iconst 5, 1) := by decide +kernel
theorem dX8_mark_72 : decode cX8_mark 72 = .ok (.aload_n 0, 1) := by decide +kernel
theorem dX8_mark_73 : decode cX8_mark 73 = .ok (.getfield 88, 3) := by decide +kernel
theorem dX8_mark_76 : decode cX8_mark 76 = .ok (.iastore, 1) := by decide +kernel
theorem dX8_mark_77 : decode cX8_mark 77 = .ok (.aload_n 0, 1) := by decide +kernel
theorem dX8_mark_78 : decode cX8_mark 78 = .ok (.getfield 72, 3) := by decide +kernel
theorem dX8_mark_81 : decode cX8_mark 81 = .ok (.bipush 6, 2) := by decide +kernel
theorem dX8_mark_83 : decode cX8_mark 83 = .ok (.aload_n 0, 1) := by decide +kernel
theorem dX8_mark_84 : decode cX8_mark 84 = .ok (.getfield 35, 3) := by decide +kernel
theorem dX8_mark_87 : decode cX8_mark 87 = .ok (.iastore, 1) := by decide +kernel
theorem dX8_mark_88 : decode cX8_mark 88 = .ok (.iconst 0, 1) := by decide +kernel
theorem dX8_mark_89 : decode cX8_mark 89 = .ok (.istore_n 1, 1) := by decide +kernel
theorem dX8_mark_9 : decode cX8_mark 9 = .ok (.iconst 0, 1) := by decide +kernel
theorem dX8_mark_90 : decode cX8_mark 90 = .ok (.iload_n 1, 1) := by decide +kernel
theorem dX8_mark_91 : decode cX8_mark 91 = .ok (.aload_n 0, 1) := by decide +kernel
theorem dX8_mark_92 : decode cX8_mark 92 = .ok (.getfield 28, 3) := by decide +kernel
theorem dX8_mark_95 : decode cX8_mark 95 = .ok (.getfield 82, 3) := by decide +kernel
theorem dX8_mark_98 : decode cX8_mark 98 = .ok (.if_icmp .ge 29, 3) := by decide +kernel
theorem dX8_sizeOf_0 : decode cX8_sizeOf 0 = .ok (.iload_n 1, 1) := by decide +kernel
theorem dX8_sizeOf_1 : decode cX8_sizeOf 1 = .ok (.tableswitch 63 0 3 #[31, 39, 47, 55], 31) := by decide +kernel
theorem dX8_sizeOf_32 : decode cX8_sizeOf 32 = .ok (.aload_n 0, 1) := by decide +kernel
theorem dX8_sizeOf_33 : decode cX8_sizeOf 33 = .ok (.getfield 28, 3) := by decide +kernel
theorem dX8_sizeOf_36 : decode cX8_sizeOf 36 = .ok (.getfield 82, 3) := by decide +kernel
theorem dX8_sizeOf_39 : decode cX8_sizeOf 39 = .ok (.ireturn, 1) := by decide +kernel
theorem dX8_sizeOf_40 : decode cX8_sizeOf 40 = .ok (.aload_n 0, 1) := by decide +kernel
theorem dX8_sizeOf_41 : decode cX8_sizeOf 41 = .ok (.getfield 18, 3) := by decide +kernel
theorem dX8_sizeOf_44 : decode cX8_sizeOf 44 = .ok (.getfield 82, 3) := by decide +kernel
theorem dX8_sizeOf_47 : decode cX8_sizeOf 47 = .ok (.ireturn, 1) := by decide +kernel
theorem dX8_sizeOf_48 : decode cX8_sizeOf 48 = .ok (.aload_n 0, 1) := by decide +kernel
theorem dX8_sizeOf_49 : decode cX8_sizeOf 49 = .ok (.getfield 22, 3) := by decide +kernel
theorem dX8_sizeOf_52 : decode cX8_sizeOf 52 = .ok (.getfield 82, 3) := by decide +kernel
theorem dX8_sizeOf_55 : decode cX8_sizeOf 55 = .ok (.ireturn, 1) := by decide +kernel
theorem dX8_sizeOf_56 : decode cX8_sizeOf 56 = .ok (.aload_n 0, 1) := by decide +kernel
theorem dX8_sizeOf_57 : decode cX8_sizeOf 57 = .ok (.getfield 25, 3) := by decide +kernel
theorem dX8_sizeOf_60 : decode cX8_sizeOf 60 = .ok (.getfield 82, 3) := by decide +kernel
theorem dX8_sizeOf_63 : decode cX8_sizeOf 63 = .ok (.ireturn, 1) := by decide +kernel
theorem dX8_sizeOf_64 : decode cX8_sizeOf 64 = .ok (.aload_n 0, 1) := by decide +kernel
theorem dX8_sizeOf_65 : decode cX8_sizeOf 65 = .ok (.getfield 85, 3) := by decide +kernel
theorem dX8_sizeOf_68 : decode cX8_sizeOf 68 = .ok (.ireturn, 1) := by decide +kernel
theorem dX9_advance_0 : decode cX9_advance 0 = .ok (.aload_n 0, 1) := by decide +kernel
theorem dX9_advance_1 : decode cX9_advance 1 = .ok (.getfield 49, 3) := by decide +kernel
theorem dX9_advance_10 : decode cX9_advance 10 = .ok (.if_icmp .ge 20, 3) := by decide +kernel
theorem dX9_advance_30 : decode cX9_advance 30 = .ok (.aload_n 0, 1) := by decide +kernel
theorem dX9_advance_31 : decode cX9_advance 31 = .ok (.iload_n 1, 1) := by decide +kernel
theorem dX9_advance_32 : decode cX9_advance 32 = .ok (.putfield 55, 3) := by decide +kernel
theorem dX9_advance_35 : decode cX9_advance 35 = .ok (.iload_n 1, 1) := by decide +kernel
theorem dX9_advance_36 : decode cX9_advance 36 = .ok (.aload_n 0, 1) := by decide +kernel
theorem dX9_advance_37 : decode cX9_advance 37 = .ok (.getfield 22, 3) := by decide +kernel
theorem dX9_advance_4 : decode cX9_advance 4 = .ok (.istore_n 1, 1) := by decide +kernel
theorem dX9_advance_40 : decode cX9_advance 40 = .ok (.if_icmp .lt 25, 3) := by decide +kernel
theorem dX9_advance_43 : decode cX9_advance 43 = .ok (.aload_n 0, 1) := by decide +kernel
theorem dX9_advance_44 : decode cX9_advance 44 = .ok (.iconst 4, 1) := by decide +kernel
theorem dX9_advance_45 : decode cX9_advance 45 = .ok (.putfield 58, 3) := by decide +kernel
theorem dX9_advance_48 : decode cX9_advance 48 = .ok (.aload_n 0, 1) := by decide +kernel
theorem dX9_advance_49 : decode cX9_advance 49 = .ok (.aload_n 0, 1) := by decide +kernel
theorem dX9_advance_5 : decode cX9_advance 5 = .ok (.iload_n 1, 1) := by decide +kernel
theorem dX9_advance_50 : decode cX9_advance 50 = .ok (.getfield 22, 3) := by decide +kernel
theorem dX9_advance_53 : decode cX9_advance 53 = .ok (.putfield 55, 3) := by decide +kernel
theorem dX9_advance_56 : decode cX9_advance 56 = .ok (.aload_n 0, 1) := by decide +kernel
theorem dX9_advance_57 : decode cX9_advance 57 = .ok (.aload_n 0, 1) := by decide +kernel
theorem dX9_advance_58 : decode cX9_advance 58 = .ok (.getfield 22, 3) := by decide +kernel
theorem dX9_advance_6 : decode cX9_advance 6 = .ok (.aload_n 0, 1) := by decide +kernel
theorem dX9_advance_61 : decode cX9_advance 61 = .ok (.putfield 49, 3) := by decide +kernel
theorem dX9_advance_64 : decode cX9_advance 64 = .ok (.return_, 1) := by decide +kernel
theorem dX9_advance_7 : decode cX9_advance 7 = .ok (.getfield 22, 3) := by decide +kernel
theorem dX9_onlyName_0 : decode cX9_onlyName 0 = .ok (.aload_n 0, 1) := by decide +kernel
theorem dX9_onlyName_1 : decode cX9_onlyName 1 = .ok (.invokevirtual 80, 3) := by decide +kernel
theorem dX9_onlyName_12 : decode cX9_onlyName 12 = .ok (.lconst 0, 1) := by decide +kernel
theorem dX9_onlyName_13 : decode cX9_onlyName 13 = .ok (.lreturn, 1) := by decide +kernel
theorem dX9_onlyName_4 : decode cX9_onlyName 4 = .ok (.aload_n 0, 1) := by decide +kernel
theorem dX9_onlyName_5 : decode cX9_onlyName 5 = .ok (.getfield 58, 3) := by decide +kernel
theorem dX9_onlyName_8 : decode cX9_onlyName 8 = .ok (.iconst 1, 1) := by decide +kernel
theorem dX9_onlyName_9 : decode cX9_onlyName 9 = .ok (.if_icmp .eq 5, 3) := by decide +kernel
theorem dX9_putFour_0 : decode cX9_putFour 0 = .ok (.aload_n 0, 1) := by decide +kernel
theorem dX9_putFour_1 : decode cX9_putFour 1 = .ok (.iload_n 1, 1) := by decide +kernel
theorem dX9_putFour_10 : decode cX9_putFour 10 = .ok (.bipush 16, 2) := by decide +kernel
theorem dX9_putFour_12 : decode cX9_putFour 12 = .ok (.ishr, 1) := by decide +kernel
theorem dX9_putFour_13 : decode cX9_putFour 13 = .ok (.invokevirtual 26, 3) := by decide +kernel
theorem dX9_putFour_16 : decode cX9_putFour 16 = .ok (.aload_n 0, 1) := by decide +kernel
theorem dX9_putFour_17 : decode cX9_putFour 17 = .ok (.iload_n 1, 1) := by decide +kernel
theorem dX9_putFour_18 : decode cX9_putFour 18 = .ok (.bipush 8, 2) := by decide +kernel
theorem dX9_putFour_2 : decode cX9_putFour 2 = .ok (.bipush 24, 2) := by decide +kernel
theorem dX9_putFour_20 : decode cX9_putFour 20 = .ok (.ishr, 1) := by decide +kernel
theorem dX9_putFour_21 : decode cX9_putFour 21 = .ok (.invokevirtual 26, 3) := by decide +kernel
theorem dX9_putFour_24 : decode cX9_putFour 24 = .ok (.aload_n 0, 1) := by decide +kernel
theorem dX9_putFour_25 : decode cX9_putFour 25 = .ok (.iload_n 1, 1) := by decide +kernel
theorem dX9_putFour_26 : decode cX9_putFour 26 = .ok (.invokevirtual 26, 3) := by decide +kernel
theorem dX9_putFour_29 : decode cX9_putFour 29 = .ok (.return_, 1) := by decide +kernel
theorem dX9_putFour_4 : decode cX9_putFour 4 = .ok (.ishr, 1) := by decide +kernel
theorem dX9_putFour_5 : decode cX9_putFour 5 = .ok (.invokevirtual 26, 3) := by decide +kernel
theorem dX9_putFour_8 : decode cX9_putFour 8 = .ok (.aload_n 0, 1) := by decide +kernel
theorem dX9_putFour_9 : decode cX9_putFour 9 = .ok (.iload_n 1, 1) := by decide +kernel
theorem dX9_put_0 : decode cX9_put 0 = .ok (.aload_n 0, 1) := by decide +kernel
theorem dX9_put_1 : decode cX9_put 1 = .ok (.getfield 22, 3) := by decide +kernel
theorem dX9_put_10 : decode cX9_put 10 = .ok (.aload_n 0, 1) := by decide +kernel
theorem dX9_put_11 : decode cX9_put 11 = .ok (.getfield 11, 3) := by decide +kernel
theorem dX9_put_14 : decode cX9_put 14 = .ok (.aload_n 0, 1) := by decide +kernel
theorem dX9_put_15 : decode cX9_put 15 = .ok (.dup, 1) := by decide +kernel
theorem dX9_put_16 : decode cX9_put 16 = .ok (.getfield 22, 3) := by decide +kernel
theorem dX9_put_19 : decode cX9_put 19 = .ok (.dup_x1, 1) := by decide +kernel
theorem dX9_put_20 : decode cX9_put 20 = .ok (.iconst 1, 1) := by decide +kernel
theorem dX9_put_21 : decode cX9_put 21 = .ok (.iadd, 1) := by decide +kernel
theorem dX9_put_22 : decode cX9_put 22 = .ok (.putfield 22, 3) := by decide +kernel
theorem dX9_put_25 : decode cX9_put 25 = .ok (.iload_n 1, 1) := by decide +kernel
theorem dX9_put_26 : decode cX9_put 26 = .ok (.i2b, 1) := by decide +kernel
theorem dX9_put_27 : decode cX9_put 27 = .ok (.bastore, 1) := by decide +kernel
theorem dX9_put_28 : decode cX9_put 28 = .ok (.return_, 1) := by decide +kernel
theorem dX9_put_4 : decode cX9_put 4 = .ok (.sipush 1000, 3) := by decide +kernel
theorem dX9_put_7 : decode cX9_put 7 = .ok (.if_icmp .ge 21, 3) := by decide +kernel
theorem dX9_rewind_0 : decode cX9_rewind 0 = .ok (.aload_n 0, 1) := by decide +kernel
theorem dX9_rewind_1 : decode cX9_rewind 1 = .ok (.iconst 0, 1) := by decide +kernel
theorem dX9_rewind_2 : decode cX9_rewind 2 = .ok (.putfield 49, 3) := by decide +kernel
theorem dX9_rewind_5 : decode cX9_rewind 5 = .ok (.aload_n 0, 1) := by decide +kernel
theorem dX9_rewind_6 : decode cX9_rewind 6 = .ok (.invokevirtual 52, 3) := by decide +kernel
theorem dX9_rewind_9 : decode cX9_rewind 9 = .ok (.return_, 1) := by decide +kernel
end
section
/-! THE WORDS of all contracts here: one list. -/
def pp_w0 : List Cond := [Cond.fieldLink RX12 19 "TongueHouse" "tape" "LTongueHouse$Text;",
  Cond.fieldLink RX12 100 "TongueHouse$Text" "size" "I",
  Cond.fieldLink RX9 22 "TongueHouse$Text" "size" "I",
  Cond.fieldLink RX9 11 "TongueHouse$Text" "bytes" "[B",
  Cond.methodLink RX9 26 yX9_put,
  Cond.code yX9_put cX9_put 2 none,
  Cond.instanceMethod yX9_put,
  Cond.selects RX9 yX9_put yX9_put,
  Cond.initialized RX9,
  Cond.methodLink RX12 111 yX9_putFour,
  Cond.code yX9_putFour cX9_putFour 2 none,
  Cond.instanceMethod yX9_putFour,
  Cond.selects RX9 yX9_putFour yX9_putFour,
  Cond.fieldLink RX13 3 "TongueHouseModel" "thrown" "I",
  Cond.fieldLink RX13 576 "TongueHouseModel" "taped" "I",
  Cond.fieldLink RX13 188 "TongueHouseModel" "tape" "[B",
  Cond.methodLink RX13 583 yX13_four,
  Cond.code yX13_four cX13_four 3 none,
  Cond.instanceMethod yX13_four,
  Cond.selects RX13 yX13_four yX13_four,
  Cond.initialized RX13,
  Cond.classLink RX12 115 "java/lang/IllegalArgumentException",
  Cond.initialized "java/lang/IllegalArgumentException",
  Cond.methodLink RX13 579 yX13_bad,
  Cond.code yX13_bad cX13_bad 1 (some .int),
  Cond.instanceMethod yX13_bad,
  Cond.selects RX13 yX13_bad yX13_bad,
  Cond.fieldLink RX12 37 "TongueHouse" "reader" "LTongueHouse$Reader;",
  Cond.fieldLink RX6 47 "TongueHouse$Reader" "rule" "I",
  Cond.fieldLink RX6 39 "TongueHouse$Reader" "store" "LTongueHouse$Store;",
  Cond.fieldLink RX8 78 "TongueHouse$Store" "isFull" "Z",
  Cond.fieldLink RX8 72 "TongueHouse$Store" "marks" "[I",
  Cond.fieldLink RX8 18 "TongueHouse$Store" "kinds" "LTongueHouse$Names;",
  Cond.fieldLink RX8 82 "TongueHouse$Names" "size" "I",
  Cond.fieldLink RX8 22 "TongueHouse$Store" "funs" "LTongueHouse$Names;",
  Cond.fieldLink RX8 25 "TongueHouse$Store" "things" "LTongueHouse$Names;",
  Cond.fieldLink RX8 28 "TongueHouse$Store" "tongueNames" "LTongueHouse$Names;",
  Cond.fieldLink RX8 85 "TongueHouse$Store" "factCount" "I",
  Cond.fieldLink RX8 88 "TongueHouse$Store" "poolSize" "I",
  Cond.fieldLink RX8 35 "TongueHouse$Store" "current" "I",
  Cond.fieldLink RX8 52 "TongueHouse$Store" "meanSize" "[I",
  Cond.methodLink RX8 95 arraycopyName,
  Cond.native arraycopyName,
  Cond.static arraycopyName,
  Cond.initialized "java/lang/System",
  Cond.methodLink RX6 51 yX8_mark,
  Cond.code yX8_mark cX8_mark 2 none,
  Cond.instanceMethod yX8_mark,
  Cond.selects RX8 yX8_mark yX8_mark,
  Cond.initialized RX8,
  Cond.fieldLink RX6 43 "TongueHouse$Reader" "tape" "LTongueHouse$Text;",
  Cond.fieldLink RX9 49 "TongueHouse$Text" "next" "I",
  Cond.fieldLink RX9 55 "TongueHouse$Text" "at" "I",
  Cond.fieldLink RX9 58 "TongueHouse$Text" "type" "I",
  Cond.methodLink RX9 52 yX9_advance,
  Cond.code yX9_advance cX9_advance 3 none,
  Cond.instanceMethod yX9_advance,
  Cond.selects RX9 yX9_advance yX9_advance,
  Cond.methodLink RX6 56 yX9_rewind,
  Cond.code yX9_rewind cX9_rewind 1 none,
  Cond.instanceMethod yX9_rewind,
  Cond.selects RX9 yX9_rewind yX9_rewind,
  Cond.methodLink RX12 120 yX6_begin,
  Cond.code yX6_begin cX6_begin 1 none,
  Cond.instanceMethod yX6_begin,
  Cond.selects RX6 yX6_begin yX6_begin,
  Cond.initialized RX6,
  Cond.fieldLink RX12 123 "TongueHouse$Text" "type" "I",
  Cond.fieldLink RX13 586 "TongueHouseModel" "textN" "I",
  Cond.methodLink RX13 682 yX13_reads,
  Cond.code yX13_reads cX13_reads 2 none,
  Cond.instanceMethod yX13_reads,
  Cond.selects RX13 yX13_reads yX13_reads,
  Cond.fieldLink RX13 286 "TongueHouseModel" "had" "[I",
  Cond.fieldLink RX13 658 "TongueHouseModel" "tongues" "I",
  Cond.fieldLink RX13 661 "TongueHouseModel" "kinds" "I",
  Cond.fieldLink RX13 664 "TongueHouseModel" "funs" "I",
  Cond.fieldLink RX13 667 "TongueHouseModel" "things" "I",
  Cond.fieldLink RX13 670 "TongueHouseModel" "facts" "I",
  Cond.fieldLink RX13 15 "TongueHouseModel" "current" "I",
  Cond.fieldLink RX13 673 "TongueHouseModel" "parts" "I",
  Cond.fieldLink RX13 637 "TongueHouseModel" "letters" "I",
  Cond.fieldLink RX13 676 "TongueHouseModel" "terms" "I",
  Cond.fieldLink RX13 56 "TongueHouseModel" "features" "[I",
  Cond.fieldLink RX13 59 "TongueHouseModel" "values" "[I",
  Cond.fieldLink RX13 62 "TongueHouseModel" "classes" "[I",
  Cond.fieldLink RX13 65 "TongueHouseModel" "sounds" "[I",
  Cond.fieldLink RX13 68 "TongueHouseModel" "patterns" "[I",
  Cond.fieldLink RX13 71 "TongueHouseModel" "words" "[I",
  Cond.fieldLink RX13 74 "TongueHouseModel" "lins" "[I",
  Cond.fieldLink RX13 679 "TongueHouseModel" "meants" "I",
  Cond.methodLink RX13 685 yX13_remember,
  Cond.code yX13_remember cX13_remember 3 none,
  Cond.instanceMethod yX13_remember,
  Cond.selects RX13 yX13_remember yX13_remember,
  Cond.fieldLink RX13 597 "TongueHouseModel" "tkEnd" "I",
  Cond.fieldLink RX13 639 "TongueHouseModel" "wrong" "I",
  Cond.fieldLink RX13 600 "TongueHouseModel" "tkAt" "I",
  Cond.fieldLink RX13 603 "TongueHouseModel" "tkNumber" "I",
  Cond.fieldLink RX13 606 "TongueHouseModel" "tkName" "J",
  Cond.fieldLink RX13 609 "TongueHouseModel" "tk" "I",
  Cond.methodLink RX13 655 yX13_next,
  Cond.code yX13_next cX13_next 2 none,
  Cond.instanceMethod yX13_next,
  Cond.selects RX13 yX13_next yX13_next,
  Cond.fieldLink RX13 695 "TongueHouseModel" "lastRule" "I",
  Cond.fieldLink RX13 698 "TongueHouseModel" "version" "I",
  Cond.fieldLink RX12 136 "TongueHouse$Reader" "rule" "I",
  Cond.fieldLink RX12 23 "TongueHouse" "out" "LTongueHouse$Text;",
  Cond.fieldLink RX13 589 "TongueHouseModel" "outN" "I",
  Cond.fieldLink RX12 12 "TongueHouse" "store" "LTongueHouse$Store;",
  Cond.fieldLink RX12 145 "TongueHouse$Store" "kinds" "LTongueHouse$Names;",
  Cond.methodLink RX9 80 yX9_rewind,
  Cond.methodLink RX12 165 yX9_onlyName,
  Cond.code yX9_onlyName cX9_onlyName 3 (some .long),
  Cond.instanceMethod yX9_onlyName,
  Cond.selects RX9 yX9_onlyName yX9_onlyName,
  Cond.fieldLink RX12 149 "TongueHouse$Store" "tongueNames" "LTongueHouse$Names;",
  Cond.fieldLink RX12 239 "TongueHouse$Names" "size" "I",
  Cond.methodLink RX12 155 yX12_tongueAt,
  Cond.code yX12_tongueAt cX12_tongueAt 2 (some (.object "TongueHouse$Tongue")),
  Cond.instanceMethod yX12_tongueAt,
  Cond.selects RX12 yX12_tongueAt yX12_tongueAt,
  Cond.initialized RX12,
  Cond.fieldLink RX12 152 "TongueHouse$Store" "funs" "LTongueHouse$Names;",
  Cond.fieldLink RX12 76 "TongueHouse" "finder" "LTongueHouse$Finder;",
  Cond.fieldLink RX1 53 "TongueHouse$Finder" "analyses" "I",
  Cond.methodLink RX12 203 yX1_tellAnalysis,
  Cond.code yX1_tellAnalysis cX1_tellAnalysis 6 (some .int),
  Cond.instanceMethod yX1_tellAnalysis,
  Cond.selects RX1 yX1_tellAnalysis yX1_tellAnalysis,
  Cond.initialized RX1,
  Cond.fieldLink RX13 854 "TongueHouseModel" "foundN" "I",
  Cond.fieldLink RX1 113 "TongueHouse$Finder" "guesses" "I",
  Cond.methodLink RX12 226 yX1_tellGuess,
  Cond.code yX1_tellGuess cX1_tellGuess 3 (some .int),
  Cond.instanceMethod yX1_tellGuess,
  Cond.selects RX1 yX1_tellGuess yX1_tellGuess,
  Cond.fieldLink RX13 870 "TongueHouseModel" "guesses" "I",
  Cond.fieldLink RX1 165 "TongueHouse$Finder" "hits" "I",
  Cond.methodLink RX12 310 yX1_tellHit,
  Cond.code yX1_tellHit cX1_tellHit 3 (some .int),
  Cond.instanceMethod yX1_tellHit,
  Cond.selects RX1 yX1_tellHit yX1_tellHit,
  Cond.fieldLink RX13 1052 "TongueHouseModel" "hits" "I",
  Cond.fieldLink RX12 55 "TongueHouse" "ranking" "LTongueHouse$Ranking;",
  Cond.fieldLink RX5 61 "TongueHouse$Ranking" "isOpen" "Z",
  Cond.methodLink RX12 236 yX5_total,
  Cond.code yX5_total cX5_total 5 (some .long),
  Cond.instanceMethod yX5_total,
  Cond.selects RX5 yX5_total yX5_total,
  Cond.initialized RX5,
  Cond.fieldLink RX13 984 "TongueHouseModel" "all" "J",
  Cond.methodLink RX5 146 yX5_rank,
  Cond.code yX5_rank cX5_rank 4 none,
  Cond.instanceMethod yX5_rank,
  Cond.selects RX5 yX5_rank yX5_rank,
  Cond.fieldLink RX5 68 "TongueHouse$Ranking" "topSize" "I",
  Cond.methodLink RX12 246 yX5_priceOf,
  Cond.code yX5_priceOf cX5_priceOf 2 (some .int),
  Cond.instanceMethod yX5_priceOf,
  Cond.selects RX5 yX5_priceOf yX5_priceOf,
  Cond.fieldLink RX13 977 "TongueHouseModel" "readings" "I",
  Cond.fieldLink RX12 289 "TongueHouse" "candidateCount" "I",
  Cond.fieldLink RX13 1046 "TongueHouseModel" "candidates" "I",
  Cond.methodLink RX12 249 yX12_checkPlace,
  Cond.code yX12_checkPlace cX12_checkPlace 1 none,
  Cond.static yX12_checkPlace,
  Cond.fieldLink RX12 82 "TongueHouse" "planted" "[[I",
  Cond.methodLink RX12 252 yX5_spell,
  Cond.code yX5_spell cX5_spell 11 (some .int),
  Cond.instanceMethod yX5_spell,
  Cond.selects RX5 yX5_spell yX5_spell,
  Cond.methodLink RX13 1017 yX13_noPlace,
  Cond.code yX13_noPlace cX13_noPlace 2 (some .boolean),
  Cond.instanceMethod yX13_noPlace,
  Cond.selects RX13 yX13_noPlace yX13_noPlace,
  Cond.fieldLink RX6 67 "TongueHouse$Text" "type" "I",
  Cond.fieldLink RX6 61 "TongueHouse$Text" "at" "I",
  Cond.methodLink RX12 262 yX6_readTree,
  Cond.code yX6_readTree cX6_readTree 5 (some .int),
  Cond.instanceMethod yX6_readTree,
  Cond.selects RX6 yX6_readTree yX6_readTree,
  Cond.fieldLink RX13 1011 "TongueHouseModel" "treeN" "I",
  Cond.methodLink RX13 1020 yX13_noTree,
  Cond.code yX13_noTree cX13_noTree 4 (some .boolean),
  Cond.instanceMethod yX13_noTree,
  Cond.selects RX13 yX13_noTree yX13_noTree,
  Cond.fieldLink RX12 85 "TongueHouse" "plantedSize" "[I",
  Cond.fieldLink RX13 467 "TongueHouseModel" "placeN" "[I",
  Cond.methodLink RX13 1030 yX13_takes,
  Cond.code yX13_takes cX13_takes 3 (some .int),
  Cond.instanceMethod yX13_takes,
  Cond.selects RX13 yX13_takes yX13_takes,
  Cond.methodLink RX12 278 yX12_meaningOf,
  Cond.code yX12_meaningOf cX12_meaningOf 2 (some .int),
  Cond.instanceMethod yX12_meaningOf,
  Cond.selects RX12 yX12_meaningOf yX12_meaningOf,
  Cond.methodLink RX12 355 yX8_sizeOf,
  Cond.code yX8_sizeOf cX8_sizeOf 2 (some .int),
  Cond.instanceMethod yX8_sizeOf,
  Cond.selects RX8 yX8_sizeOf yX8_sizeOf,
  Cond.fieldLink RX12 46 "TongueHouse" "chart" "LTongueHouse$Chart;",
  Cond.fieldLink RX12 346 "TongueHouse$Chart" "nodes" "I",
  Cond.fieldLink RX12 349 "TongueHouse$Chart" "ways" "I",
  Cond.fieldLink RX12 352 "TongueHouse$Finder" "collected" "I",
  Cond.fieldLink RX13 989 "TongueHouseModel" "noted" "I",
  Cond.fieldLink RX13 992 "TongueHouseModel" "notedWays" "I",
  Cond.fieldLink RX13 1049 "TongueHouseModel" "collected" "I",
  Cond.methodLink RX13 845 yX13_noTongue,
  Cond.code yX13_noTongue cX13_noTongue 2 (some .boolean),
  Cond.instanceMethod yX13_noTongue,
  Cond.selects RX13 yX13_noTongue yX13_noTongue]
theorem pp_w0_good : pp_w0.all goodWord = true := by decide +kernel
def pp_ws : List Cond := pp_w0 ++ (px_atI.filter goodWord ++ (u_ws RX0 TX0 22 ++ (u_ws RX1 TX1 19 ++ (u_ws RX4 TX4 2 ++ (u_ws RX5 TX5 19 ++ (u_ws RX6 TX6 19 ++ (u_ws RX8 TX8 21 ++ (u_ws RX9 TX9 10 ++ (u_ws RX12 TX12 17 ++ (u_ws RX13 TX13 229))))))))))
theorem pp0 : Cond.fieldLink RX12 19 "TongueHouse" "tape" "LTongueHouse$Text;" ∈ pp_ws := List.mem_append_left _ (List.mem_of_getElem? (i := 0) rfl)
theorem pp1 : Cond.fieldLink RX12 100 "TongueHouse$Text" "size" "I" ∈ pp_ws := List.mem_append_left _ (List.mem_of_getElem? (i := 1) rfl)
theorem pp2 : Cond.fieldLink RX9 22 "TongueHouse$Text" "size" "I" ∈ pp_ws := List.mem_append_left _ (List.mem_of_getElem? (i := 2) rfl)
theorem pp3 : Cond.fieldLink RX9 11 "TongueHouse$Text" "bytes" "[B" ∈ pp_ws := List.mem_append_left _ (List.mem_of_getElem? (i := 3) rfl)
theorem pp4 : Cond.methodLink RX9 26 yX9_put ∈ pp_ws := List.mem_append_left _ (List.mem_of_getElem? (i := 4) rfl)
theorem pp5 : Cond.code yX9_put cX9_put 2 none ∈ pp_ws := List.mem_append_left _ (List.mem_of_getElem? (i := 5) rfl)
theorem pp6 : Cond.instanceMethod yX9_put ∈ pp_ws := List.mem_append_left _ (List.mem_of_getElem? (i := 6) rfl)
theorem pp7 : Cond.selects RX9 yX9_put yX9_put ∈ pp_ws := List.mem_append_left _ (List.mem_of_getElem? (i := 7) rfl)
theorem pp8 : Cond.initialized RX9 ∈ pp_ws := List.mem_append_left _ (List.mem_of_getElem? (i := 8) rfl)
theorem pp9 : Cond.methodLink RX12 111 yX9_putFour ∈ pp_ws := List.mem_append_left _ (List.mem_of_getElem? (i := 9) rfl)
theorem pp10 : Cond.code yX9_putFour cX9_putFour 2 none ∈ pp_ws := List.mem_append_left _ (List.mem_of_getElem? (i := 10) rfl)
theorem pp11 : Cond.instanceMethod yX9_putFour ∈ pp_ws := List.mem_append_left _ (List.mem_of_getElem? (i := 11) rfl)
theorem pp12 : Cond.selects RX9 yX9_putFour yX9_putFour ∈ pp_ws := List.mem_append_left _ (List.mem_of_getElem? (i := 12) rfl)
theorem pp13 : Cond.fieldLink RX13 3 "TongueHouseModel" "thrown" "I" ∈ pp_ws := List.mem_append_left _ (List.mem_of_getElem? (i := 13) rfl)
theorem pp14 : Cond.fieldLink RX13 576 "TongueHouseModel" "taped" "I" ∈ pp_ws := List.mem_append_left _ (List.mem_of_getElem? (i := 14) rfl)
theorem pp15 : Cond.fieldLink RX13 188 "TongueHouseModel" "tape" "[B" ∈ pp_ws := List.mem_append_left _ (List.mem_of_getElem? (i := 15) rfl)
theorem pp16 : Cond.methodLink RX13 583 yX13_four ∈ pp_ws := List.mem_append_left _ (List.mem_of_getElem? (i := 16) rfl)
theorem pp17 : Cond.code yX13_four cX13_four 3 none ∈ pp_ws := List.mem_append_left _ (List.mem_of_getElem? (i := 17) rfl)
theorem pp18 : Cond.instanceMethod yX13_four ∈ pp_ws := List.mem_append_left _ (List.mem_of_getElem? (i := 18) rfl)
theorem pp19 : Cond.selects RX13 yX13_four yX13_four ∈ pp_ws := List.mem_append_left _ (List.mem_of_getElem? (i := 19) rfl)
theorem pp20 : Cond.initialized RX13 ∈ pp_ws := List.mem_append_left _ (List.mem_of_getElem? (i := 20) rfl)
theorem pp21 : Cond.classLink RX12 115 "java/lang/IllegalArgumentException" ∈ pp_ws := List.mem_append_left _ (List.mem_of_getElem? (i := 21) rfl)
theorem pp22 : Cond.initialized "java/lang/IllegalArgumentException" ∈ pp_ws := List.mem_append_left _ (List.mem_of_getElem? (i := 22) rfl)
theorem pp23 : Cond.methodLink RX13 579 yX13_bad ∈ pp_ws := List.mem_append_left _ (List.mem_of_getElem? (i := 23) rfl)
theorem pp24 : Cond.code yX13_bad cX13_bad 1 (some .int) ∈ pp_ws := List.mem_append_left _ (List.mem_of_getElem? (i := 24) rfl)
theorem pp25 : Cond.instanceMethod yX13_bad ∈ pp_ws := List.mem_append_left _ (List.mem_of_getElem? (i := 25) rfl)
theorem pp26 : Cond.selects RX13 yX13_bad yX13_bad ∈ pp_ws := List.mem_append_left _ (List.mem_of_getElem? (i := 26) rfl)
theorem pp27 : Cond.fieldLink RX12 37 "TongueHouse" "reader" "LTongueHouse$Reader;" ∈ pp_ws := List.mem_append_left _ (List.mem_of_getElem? (i := 27) rfl)
theorem pp28 : Cond.fieldLink RX6 47 "TongueHouse$Reader" "rule" "I" ∈ pp_ws := List.mem_append_left _ (List.mem_of_getElem? (i := 28) rfl)
theorem pp29 : Cond.fieldLink RX6 39 "TongueHouse$Reader" "store" "LTongueHouse$Store;" ∈ pp_ws := List.mem_append_left _ (List.mem_of_getElem? (i := 29) rfl)
theorem pp30 : Cond.fieldLink RX8 78 "TongueHouse$Store" "isFull" "Z" ∈ pp_ws := List.mem_append_left _ (List.mem_of_getElem? (i := 30) rfl)
theorem pp31 : Cond.fieldLink RX8 72 "TongueHouse$Store" "marks" "[I" ∈ pp_ws := List.mem_append_left _ (List.mem_of_getElem? (i := 31) rfl)
theorem pp32 : Cond.fieldLink RX8 18 "TongueHouse$Store" "kinds" "LTongueHouse$Names;" ∈ pp_ws := List.mem_append_left _ (List.mem_of_getElem? (i := 32) rfl)
theorem pp33 : Cond.fieldLink RX8 82 "TongueHouse$Names" "size" "I" ∈ pp_ws := List.mem_append_left _ (List.mem_of_getElem? (i := 33) rfl)
theorem pp34 : Cond.fieldLink RX8 22 "TongueHouse$Store" "funs" "LTongueHouse$Names;" ∈ pp_ws := List.mem_append_left _ (List.mem_of_getElem? (i := 34) rfl)
theorem pp35 : Cond.fieldLink RX8 25 "TongueHouse$Store" "things" "LTongueHouse$Names;" ∈ pp_ws := List.mem_append_left _ (List.mem_of_getElem? (i := 35) rfl)
theorem pp36 : Cond.fieldLink RX8 28 "TongueHouse$Store" "tongueNames" "LTongueHouse$Names;" ∈ pp_ws := List.mem_append_left _ (List.mem_of_getElem? (i := 36) rfl)
theorem pp37 : Cond.fieldLink RX8 85 "TongueHouse$Store" "factCount" "I" ∈ pp_ws := List.mem_append_left _ (List.mem_of_getElem? (i := 37) rfl)
theorem pp38 : Cond.fieldLink RX8 88 "TongueHouse$Store" "poolSize" "I" ∈ pp_ws := List.mem_append_left _ (List.mem_of_getElem? (i := 38) rfl)
theorem pp39 : Cond.fieldLink RX8 35 "TongueHouse$Store" "current" "I" ∈ pp_ws := List.mem_append_left _ (List.mem_of_getElem? (i := 39) rfl)
theorem pp40 : Cond.fieldLink RX8 52 "TongueHouse$Store" "meanSize" "[I" ∈ pp_ws := List.mem_append_left _ (List.mem_of_getElem? (i := 40) rfl)
theorem pp41 : Cond.methodLink RX8 95 arraycopyName ∈ pp_ws := List.mem_append_left _ (List.mem_of_getElem? (i := 41) rfl)
theorem pp42 : Cond.native arraycopyName ∈ pp_ws := List.mem_append_left _ (List.mem_of_getElem? (i := 42) rfl)
theorem pp43 : Cond.static arraycopyName ∈ pp_ws := List.mem_append_left _ (List.mem_of_getElem? (i := 43) rfl)
theorem pp44 : Cond.initialized "java/lang/System" ∈ pp_ws := List.mem_append_left _ (List.mem_of_getElem? (i := 44) rfl)
theorem pp45 : Cond.methodLink RX6 51 yX8_mark ∈ pp_ws := List.mem_append_left _ (List.mem_of_getElem? (i := 45) rfl)
theorem pp46 : Cond.code yX8_mark cX8_mark 2 none ∈ pp_ws := List.mem_append_left _ (List.mem_of_getElem? (i := 46) rfl)
theorem pp47 : Cond.instanceMethod yX8_mark ∈ pp_ws := List.mem_append_left _ (List.mem_of_getElem? (i := 47) rfl)
theorem pp48 : Cond.selects RX8 yX8_mark yX8_mark ∈ pp_ws := List.mem_append_left _ (List.mem_of_getElem? (i := 48) rfl)
theorem pp49 : Cond.initialized RX8 ∈ pp_ws := List.mem_append_left _ (List.mem_of_getElem? (i := 49) rfl)
theorem pp50 : Cond.fieldLink RX6 43 "TongueHouse$Reader" "tape" "LTongueHouse$Text;" ∈ pp_ws := List.mem_append_left _ (List.mem_of_getElem? (i := 50) rfl)
theorem pp51 : Cond.fieldLink RX9 49 "TongueHouse$Text" "next" "I" ∈ pp_ws := List.mem_append_left _ (List.mem_of_getElem? (i := 51) rfl)
theorem pp52 : Cond.fieldLink RX9 55 "TongueHouse$Text" "at" "I" ∈ pp_ws := List.mem_append_left _ (List.mem_of_getElem? (i := 52) rfl)
theorem pp53 : Cond.fieldLink RX9 58 "TongueHouse$Text" "type" "I" ∈ pp_ws := List.mem_append_left _ (List.mem_of_getElem? (i := 53) rfl)
theorem pp54 : Cond.methodLink RX9 52 yX9_advance ∈ pp_ws := List.mem_append_left _ (List.mem_of_getElem? (i := 54) rfl)
theorem pp55 : Cond.code yX9_advance cX9_advance 3 none ∈ pp_ws := List.mem_append_left _ (List.mem_of_getElem? (i := 55) rfl)
theorem pp56 : Cond.instanceMethod yX9_advance ∈ pp_ws := List.mem_append_left _ (List.mem_of_getElem? (i := 56) rfl)
theorem pp57 : Cond.selects RX9 yX9_advance yX9_advance ∈ pp_ws := List.mem_append_left _ (List.mem_of_getElem? (i := 57) rfl)
theorem pp58 : Cond.methodLink RX6 56 yX9_rewind ∈ pp_ws := List.mem_append_left _ (List.mem_of_getElem? (i := 58) rfl)
theorem pp59 : Cond.code yX9_rewind cX9_rewind 1 none ∈ pp_ws := List.mem_append_left _ (List.mem_of_getElem? (i := 59) rfl)
theorem pp60 : Cond.instanceMethod yX9_rewind ∈ pp_ws := List.mem_append_left _ (List.mem_of_getElem? (i := 60) rfl)
theorem pp61 : Cond.selects RX9 yX9_rewind yX9_rewind ∈ pp_ws := List.mem_append_left _ (List.mem_of_getElem? (i := 61) rfl)
theorem pp62 : Cond.methodLink RX12 120 yX6_begin ∈ pp_ws := List.mem_append_left _ (List.mem_of_getElem? (i := 62) rfl)
theorem pp63 : Cond.code yX6_begin cX6_begin 1 none ∈ pp_ws := List.mem_append_left _ (List.mem_of_getElem? (i := 63) rfl)
theorem pp64 : Cond.instanceMethod yX6_begin ∈ pp_ws := List.mem_append_left _ (List.mem_of_getElem? (i := 64) rfl)
theorem pp65 : Cond.selects RX6 yX6_begin yX6_begin ∈ pp_ws := List.mem_append_left _ (List.mem_of_getElem? (i := 65) rfl)
theorem pp66 : Cond.initialized RX6 ∈ pp_ws := List.mem_append_left _ (List.mem_of_getElem? (i := 66) rfl)
theorem pp67 : Cond.fieldLink RX12 123 "TongueHouse$Text" "type" "I" ∈ pp_ws := List.mem_append_left _ (List.mem_of_getElem? (i := 67) rfl)
theorem pp68 : Cond.fieldLink RX13 586 "TongueHouseModel" "textN" "I" ∈ pp_ws := List.mem_append_left _ (List.mem_of_getElem? (i := 68) rfl)
theorem pp69 : Cond.methodLink RX13 682 yX13_reads ∈ pp_ws := List.mem_append_left _ (List.mem_of_getElem? (i := 69) rfl)
theorem pp70 : Cond.code yX13_reads cX13_reads 2 none ∈ pp_ws := List.mem_append_left _ (List.mem_of_getElem? (i := 70) rfl)
theorem pp71 : Cond.instanceMethod yX13_reads ∈ pp_ws := List.mem_append_left _ (List.mem_of_getElem? (i := 71) rfl)
theorem pp72 : Cond.selects RX13 yX13_reads yX13_reads ∈ pp_ws := List.mem_append_left _ (List.mem_of_getElem? (i := 72) rfl)
theorem pp73 : Cond.fieldLink RX13 286 "TongueHouseModel" "had" "[I" ∈ pp_ws := List.mem_append_left _ (List.mem_of_getElem? (i := 73) rfl)
theorem pp74 : Cond.fieldLink RX13 658 "TongueHouseModel" "tongues" "I" ∈ pp_ws := List.mem_append_left _ (List.mem_of_getElem? (i := 74) rfl)
theorem pp75 : Cond.fieldLink RX13 661 "TongueHouseModel" "kinds" "I" ∈ pp_ws := List.mem_append_left _ (List.mem_of_getElem? (i := 75) rfl)
theorem pp76 : Cond.fieldLink RX13 664 "TongueHouseModel" "funs" "I" ∈ pp_ws := List.mem_append_left _ (List.mem_of_getElem? (i := 76) rfl)
theorem pp77 : Cond.fieldLink RX13 667 "TongueHouseModel" "things" "I" ∈ pp_ws := List.mem_append_left _ (List.mem_of_getElem? (i := 77) rfl)
theorem pp78 : Cond.fieldLink RX13 670 "TongueHouseModel" "facts" "I" ∈ pp_ws := List.mem_append_left _ (List.mem_of_getElem? (i := 78) rfl)
theorem pp79 : Cond.fieldLink RX13 15 "TongueHouseModel" "current" "I" ∈ pp_ws := List.mem_append_left _ (List.mem_of_getElem? (i := 79) rfl)
theorem pp80 : Cond.fieldLink RX13 673 "TongueHouseModel" "parts" "I" ∈ pp_ws := List.mem_append_left _ (List.mem_of_getElem? (i := 80) rfl)
theorem pp81 : Cond.fieldLink RX13 637 "TongueHouseModel" "letters" "I" ∈ pp_ws := List.mem_append_left _ (List.mem_of_getElem? (i := 81) rfl)
theorem pp82 : Cond.fieldLink RX13 676 "TongueHouseModel" "terms" "I" ∈ pp_ws := List.mem_append_left _ (List.mem_of_getElem? (i := 82) rfl)
theorem pp83 : Cond.fieldLink RX13 56 "TongueHouseModel" "features" "[I" ∈ pp_ws := List.mem_append_left _ (List.mem_of_getElem? (i := 83) rfl)
theorem pp84 : Cond.fieldLink RX13 59 "TongueHouseModel" "values" "[I" ∈ pp_ws := List.mem_append_left _ (List.mem_of_getElem? (i := 84) rfl)
theorem pp85 : Cond.fieldLink RX13 62 "TongueHouseModel" "classes" "[I" ∈ pp_ws := List.mem_append_left _ (List.mem_of_getElem? (i := 85) rfl)
theorem pp86 : Cond.fieldLink RX13 65 "TongueHouseModel" "sounds" "[I" ∈ pp_ws := List.mem_append_left _ (List.mem_of_getElem? (i := 86) rfl)
theorem pp87 : Cond.fieldLink RX13 68 "TongueHouseModel" "patterns" "[I" ∈ pp_ws := List.mem_append_left _ (List.mem_of_getElem? (i := 87) rfl)
theorem pp88 : Cond.fieldLink RX13 71 "TongueHouseModel" "words" "[I" ∈ pp_ws := List.mem_append_left _ (List.mem_of_getElem? (i := 88) rfl)
theorem pp89 : Cond.fieldLink RX13 74 "TongueHouseModel" "lins" "[I" ∈ pp_ws := List.mem_append_left _ (List.mem_of_getElem? (i := 89) rfl)
theorem pp90 : Cond.fieldLink RX13 679 "TongueHouseModel" "meants" "I" ∈ pp_ws := List.mem_append_left _ (List.mem_of_getElem? (i := 90) rfl)
theorem pp91 : Cond.methodLink RX13 685 yX13_remember ∈ pp_ws := List.mem_append_left _ (List.mem_of_getElem? (i := 91) rfl)
theorem pp92 : Cond.code yX13_remember cX13_remember 3 none ∈ pp_ws := List.mem_append_left _ (List.mem_of_getElem? (i := 92) rfl)
theorem pp93 : Cond.instanceMethod yX13_remember ∈ pp_ws := List.mem_append_left _ (List.mem_of_getElem? (i := 93) rfl)
theorem pp94 : Cond.selects RX13 yX13_remember yX13_remember ∈ pp_ws := List.mem_append_left _ (List.mem_of_getElem? (i := 94) rfl)
theorem pp95 : Cond.fieldLink RX13 597 "TongueHouseModel" "tkEnd" "I" ∈ pp_ws := List.mem_append_left _ (List.mem_of_getElem? (i := 95) rfl)
theorem pp96 : Cond.fieldLink RX13 639 "TongueHouseModel" "wrong" "I" ∈ pp_ws := List.mem_append_left _ (List.mem_of_getElem? (i := 96) rfl)
theorem pp97 : Cond.fieldLink RX13 600 "TongueHouseModel" "tkAt" "I" ∈ pp_ws := List.mem_append_left _ (List.mem_of_getElem? (i := 97) rfl)
theorem pp98 : Cond.fieldLink RX13 603 "TongueHouseModel" "tkNumber" "I" ∈ pp_ws := List.mem_append_left _ (List.mem_of_getElem? (i := 98) rfl)
theorem pp99 : Cond.fieldLink RX13 606 "TongueHouseModel" "tkName" "J" ∈ pp_ws := List.mem_append_left _ (List.mem_of_getElem? (i := 99) rfl)
theorem pp100 : Cond.fieldLink RX13 609 "TongueHouseModel" "tk" "I" ∈ pp_ws := List.mem_append_left _ (List.mem_of_getElem? (i := 100) rfl)
theorem pp101 : Cond.methodLink RX13 655 yX13_next ∈ pp_ws := List.mem_append_left _ (List.mem_of_getElem? (i := 101) rfl)
theorem pp102 : Cond.code yX13_next cX13_next 2 none ∈ pp_ws := List.mem_append_left _ (List.mem_of_getElem? (i := 102) rfl)
theorem pp103 : Cond.instanceMethod yX13_next ∈ pp_ws := List.mem_append_left _ (List.mem_of_getElem? (i := 103) rfl)
theorem pp104 : Cond.selects RX13 yX13_next yX13_next ∈ pp_ws := List.mem_append_left _ (List.mem_of_getElem? (i := 104) rfl)
theorem pp105 : Cond.fieldLink RX13 695 "TongueHouseModel" "lastRule" "I" ∈ pp_ws := List.mem_append_left _ (List.mem_of_getElem? (i := 105) rfl)
theorem pp106 : Cond.fieldLink RX13 698 "TongueHouseModel" "version" "I" ∈ pp_ws := List.mem_append_left _ (List.mem_of_getElem? (i := 106) rfl)
theorem pp107 : Cond.fieldLink RX12 136 "TongueHouse$Reader" "rule" "I" ∈ pp_ws := List.mem_append_left _ (List.mem_of_getElem? (i := 107) rfl)
theorem pp108 : Cond.fieldLink RX12 23 "TongueHouse" "out" "LTongueHouse$Text;" ∈ pp_ws := List.mem_append_left _ (List.mem_of_getElem? (i := 108) rfl)
theorem pp109 : Cond.fieldLink RX13 589 "TongueHouseModel" "outN" "I" ∈ pp_ws := List.mem_append_left _ (List.mem_of_getElem? (i := 109) rfl)
theorem pp110 : Cond.fieldLink RX12 12 "TongueHouse" "store" "LTongueHouse$Store;" ∈ pp_ws := List.mem_append_left _ (List.mem_of_getElem? (i := 110) rfl)
theorem pp111 : Cond.fieldLink RX12 145 "TongueHouse$Store" "kinds" "LTongueHouse$Names;" ∈ pp_ws := List.mem_append_left _ (List.mem_of_getElem? (i := 111) rfl)
theorem pp112 : Cond.methodLink RX9 80 yX9_rewind ∈ pp_ws := List.mem_append_left _ (List.mem_of_getElem? (i := 112) rfl)
theorem pp113 : Cond.methodLink RX12 165 yX9_onlyName ∈ pp_ws := List.mem_append_left _ (List.mem_of_getElem? (i := 113) rfl)
theorem pp114 : Cond.code yX9_onlyName cX9_onlyName 3 (some .long) ∈ pp_ws := List.mem_append_left _ (List.mem_of_getElem? (i := 114) rfl)
theorem pp115 : Cond.instanceMethod yX9_onlyName ∈ pp_ws := List.mem_append_left _ (List.mem_of_getElem? (i := 115) rfl)
theorem pp116 : Cond.selects RX9 yX9_onlyName yX9_onlyName ∈ pp_ws := List.mem_append_left _ (List.mem_of_getElem? (i := 116) rfl)
theorem pp117 : Cond.fieldLink RX12 149 "TongueHouse$Store" "tongueNames" "LTongueHouse$Names;" ∈ pp_ws := List.mem_append_left _ (List.mem_of_getElem? (i := 117) rfl)
theorem pp118 : Cond.fieldLink RX12 239 "TongueHouse$Names" "size" "I" ∈ pp_ws := List.mem_append_left _ (List.mem_of_getElem? (i := 118) rfl)
theorem pp119 : Cond.methodLink RX12 155 yX12_tongueAt ∈ pp_ws := List.mem_append_left _ (List.mem_of_getElem? (i := 119) rfl)
theorem pp120 : Cond.code yX12_tongueAt cX12_tongueAt 2 (some (.object "TongueHouse$Tongue")) ∈ pp_ws := List.mem_append_left _ (List.mem_of_getElem? (i := 120) rfl)
theorem pp121 : Cond.instanceMethod yX12_tongueAt ∈ pp_ws := List.mem_append_left _ (List.mem_of_getElem? (i := 121) rfl)
theorem pp122 : Cond.selects RX12 yX12_tongueAt yX12_tongueAt ∈ pp_ws := List.mem_append_left _ (List.mem_of_getElem? (i := 122) rfl)
theorem pp123 : Cond.initialized RX12 ∈ pp_ws := List.mem_append_left _ (List.mem_of_getElem? (i := 123) rfl)
theorem pp124 : Cond.fieldLink RX12 152 "TongueHouse$Store" "funs" "LTongueHouse$Names;" ∈ pp_ws := List.mem_append_left _ (List.mem_of_getElem? (i := 124) rfl)
theorem pp125 : Cond.fieldLink RX12 76 "TongueHouse" "finder" "LTongueHouse$Finder;" ∈ pp_ws := List.mem_append_left _ (List.mem_of_getElem? (i := 125) rfl)
theorem pp126 : Cond.fieldLink RX1 53 "TongueHouse$Finder" "analyses" "I" ∈ pp_ws := List.mem_append_left _ (List.mem_of_getElem? (i := 126) rfl)
theorem pp127 : Cond.methodLink RX12 203 yX1_tellAnalysis ∈ pp_ws := List.mem_append_left _ (List.mem_of_getElem? (i := 127) rfl)
theorem pp128 : Cond.code yX1_tellAnalysis cX1_tellAnalysis 6 (some .int) ∈ pp_ws := List.mem_append_left _ (List.mem_of_getElem? (i := 128) rfl)
theorem pp129 : Cond.instanceMethod yX1_tellAnalysis ∈ pp_ws := List.mem_append_left _ (List.mem_of_getElem? (i := 129) rfl)
theorem pp130 : Cond.selects RX1 yX1_tellAnalysis yX1_tellAnalysis ∈ pp_ws := List.mem_append_left _ (List.mem_of_getElem? (i := 130) rfl)
theorem pp131 : Cond.initialized RX1 ∈ pp_ws := List.mem_append_left _ (List.mem_of_getElem? (i := 131) rfl)
theorem pp132 : Cond.fieldLink RX13 854 "TongueHouseModel" "foundN" "I" ∈ pp_ws := List.mem_append_left _ (List.mem_of_getElem? (i := 132) rfl)
theorem pp133 : Cond.fieldLink RX1 113 "TongueHouse$Finder" "guesses" "I" ∈ pp_ws := List.mem_append_left _ (List.mem_of_getElem? (i := 133) rfl)
theorem pp134 : Cond.methodLink RX12 226 yX1_tellGuess ∈ pp_ws := List.mem_append_left _ (List.mem_of_getElem? (i := 134) rfl)
theorem pp135 : Cond.code yX1_tellGuess cX1_tellGuess 3 (some .int) ∈ pp_ws := List.mem_append_left _ (List.mem_of_getElem? (i := 135) rfl)
theorem pp136 : Cond.instanceMethod yX1_tellGuess ∈ pp_ws := List.mem_append_left _ (List.mem_of_getElem? (i := 136) rfl)
theorem pp137 : Cond.selects RX1 yX1_tellGuess yX1_tellGuess ∈ pp_ws := List.mem_append_left _ (List.mem_of_getElem? (i := 137) rfl)
theorem pp138 : Cond.fieldLink RX13 870 "TongueHouseModel" "guesses" "I" ∈ pp_ws := List.mem_append_left _ (List.mem_of_getElem? (i := 138) rfl)
theorem pp139 : Cond.fieldLink RX1 165 "TongueHouse$Finder" "hits" "I" ∈ pp_ws := List.mem_append_left _ (List.mem_of_getElem? (i := 139) rfl)
theorem pp140 : Cond.methodLink RX12 310 yX1_tellHit ∈ pp_ws := List.mem_append_left _ (List.mem_of_getElem? (i := 140) rfl)
theorem pp141 : Cond.code yX1_tellHit cX1_tellHit 3 (some .int) ∈ pp_ws := List.mem_append_left _ (List.mem_of_getElem? (i := 141) rfl)
theorem pp142 : Cond.instanceMethod yX1_tellHit ∈ pp_ws := List.mem_append_left _ (List.mem_of_getElem? (i := 142) rfl)
theorem pp143 : Cond.selects RX1 yX1_tellHit yX1_tellHit ∈ pp_ws := List.mem_append_left _ (List.mem_of_getElem? (i := 143) rfl)
theorem pp144 : Cond.fieldLink RX13 1052 "TongueHouseModel" "hits" "I" ∈ pp_ws := List.mem_append_left _ (List.mem_of_getElem? (i := 144) rfl)
theorem pp145 : Cond.fieldLink RX12 55 "TongueHouse" "ranking" "LTongueHouse$Ranking;" ∈ pp_ws := List.mem_append_left _ (List.mem_of_getElem? (i := 145) rfl)
theorem pp146 : Cond.fieldLink RX5 61 "TongueHouse$Ranking" "isOpen" "Z" ∈ pp_ws := List.mem_append_left _ (List.mem_of_getElem? (i := 146) rfl)
theorem pp147 : Cond.methodLink RX12 236 yX5_total ∈ pp_ws := List.mem_append_left _ (List.mem_of_getElem? (i := 147) rfl)
theorem pp148 : Cond.code yX5_total cX5_total 5 (some .long) ∈ pp_ws := List.mem_append_left _ (List.mem_of_getElem? (i := 148) rfl)
theorem pp149 : Cond.instanceMethod yX5_total ∈ pp_ws := List.mem_append_left _ (List.mem_of_getElem? (i := 149) rfl)
theorem pp150 : Cond.selects RX5 yX5_total yX5_total ∈ pp_ws := List.mem_append_left _ (List.mem_of_getElem? (i := 150) rfl)
theorem pp151 : Cond.initialized RX5 ∈ pp_ws := List.mem_append_left _ (List.mem_of_getElem? (i := 151) rfl)
theorem pp152 : Cond.fieldLink RX13 984 "TongueHouseModel" "all" "J" ∈ pp_ws := List.mem_append_left _ (List.mem_of_getElem? (i := 152) rfl)
theorem pp153 : Cond.methodLink RX5 146 yX5_rank ∈ pp_ws := List.mem_append_left _ (List.mem_of_getElem? (i := 153) rfl)
theorem pp154 : Cond.code yX5_rank cX5_rank 4 none ∈ pp_ws := List.mem_append_left _ (List.mem_of_getElem? (i := 154) rfl)
theorem pp155 : Cond.instanceMethod yX5_rank ∈ pp_ws := List.mem_append_left _ (List.mem_of_getElem? (i := 155) rfl)
theorem pp156 : Cond.selects RX5 yX5_rank yX5_rank ∈ pp_ws := List.mem_append_left _ (List.mem_of_getElem? (i := 156) rfl)
theorem pp157 : Cond.fieldLink RX5 68 "TongueHouse$Ranking" "topSize" "I" ∈ pp_ws := List.mem_append_left _ (List.mem_of_getElem? (i := 157) rfl)
theorem pp158 : Cond.methodLink RX12 246 yX5_priceOf ∈ pp_ws := List.mem_append_left _ (List.mem_of_getElem? (i := 158) rfl)
theorem pp159 : Cond.code yX5_priceOf cX5_priceOf 2 (some .int) ∈ pp_ws := List.mem_append_left _ (List.mem_of_getElem? (i := 159) rfl)
theorem pp160 : Cond.instanceMethod yX5_priceOf ∈ pp_ws := List.mem_append_left _ (List.mem_of_getElem? (i := 160) rfl)
theorem pp161 : Cond.selects RX5 yX5_priceOf yX5_priceOf ∈ pp_ws := List.mem_append_left _ (List.mem_of_getElem? (i := 161) rfl)
theorem pp162 : Cond.fieldLink RX13 977 "TongueHouseModel" "readings" "I" ∈ pp_ws := List.mem_append_left _ (List.mem_of_getElem? (i := 162) rfl)
theorem pp163 : Cond.fieldLink RX12 289 "TongueHouse" "candidateCount" "I" ∈ pp_ws := List.mem_append_left _ (List.mem_of_getElem? (i := 163) rfl)
theorem pp164 : Cond.fieldLink RX13 1046 "TongueHouseModel" "candidates" "I" ∈ pp_ws := List.mem_append_left _ (List.mem_of_getElem? (i := 164) rfl)
theorem pp165 : Cond.methodLink RX12 249 yX12_checkPlace ∈ pp_ws := List.mem_append_left _ (List.mem_of_getElem? (i := 165) rfl)
theorem pp166 : Cond.code yX12_checkPlace cX12_checkPlace 1 none ∈ pp_ws := List.mem_append_left _ (List.mem_of_getElem? (i := 166) rfl)
theorem pp167 : Cond.static yX12_checkPlace ∈ pp_ws := List.mem_append_left _ (List.mem_of_getElem? (i := 167) rfl)
theorem pp168 : Cond.fieldLink RX12 82 "TongueHouse" "planted" "[[I" ∈ pp_ws := List.mem_append_left _ (List.mem_of_getElem? (i := 168) rfl)
theorem pp169 : Cond.methodLink RX12 252 yX5_spell ∈ pp_ws := List.mem_append_left _ (List.mem_of_getElem? (i := 169) rfl)
theorem pp170 : Cond.code yX5_spell cX5_spell 11 (some .int) ∈ pp_ws := List.mem_append_left _ (List.mem_of_getElem? (i := 170) rfl)
theorem pp171 : Cond.instanceMethod yX5_spell ∈ pp_ws := List.mem_append_left _ (List.mem_of_getElem? (i := 171) rfl)
theorem pp172 : Cond.selects RX5 yX5_spell yX5_spell ∈ pp_ws := List.mem_append_left _ (List.mem_of_getElem? (i := 172) rfl)
theorem pp173 : Cond.methodLink RX13 1017 yX13_noPlace ∈ pp_ws := List.mem_append_left _ (List.mem_of_getElem? (i := 173) rfl)
theorem pp174 : Cond.code yX13_noPlace cX13_noPlace 2 (some .boolean) ∈ pp_ws := List.mem_append_left _ (List.mem_of_getElem? (i := 174) rfl)
theorem pp175 : Cond.instanceMethod yX13_noPlace ∈ pp_ws := List.mem_append_left _ (List.mem_of_getElem? (i := 175) rfl)
theorem pp176 : Cond.selects RX13 yX13_noPlace yX13_noPlace ∈ pp_ws := List.mem_append_left _ (List.mem_of_getElem? (i := 176) rfl)
theorem pp177 : Cond.fieldLink RX6 67 "TongueHouse$Text" "type" "I" ∈ pp_ws := List.mem_append_left _ (List.mem_of_getElem? (i := 177) rfl)
theorem pp178 : Cond.fieldLink RX6 61 "TongueHouse$Text" "at" "I" ∈ pp_ws := List.mem_append_left _ (List.mem_of_getElem? (i := 178) rfl)
theorem pp179 : Cond.methodLink RX12 262 yX6_readTree ∈ pp_ws := List.mem_append_left _ (List.mem_of_getElem? (i := 179) rfl)
theorem pp180 : Cond.code yX6_readTree cX6_readTree 5 (some .int) ∈ pp_ws := List.mem_append_left _ (List.mem_of_getElem? (i := 180) rfl)
theorem pp181 : Cond.instanceMethod yX6_readTree ∈ pp_ws := List.mem_append_left _ (List.mem_of_getElem? (i := 181) rfl)
theorem pp182 : Cond.selects RX6 yX6_readTree yX6_readTree ∈ pp_ws := List.mem_append_left _ (List.mem_of_getElem? (i := 182) rfl)
theorem pp183 : Cond.fieldLink RX13 1011 "TongueHouseModel" "treeN" "I" ∈ pp_ws := List.mem_append_left _ (List.mem_of_getElem? (i := 183) rfl)
theorem pp184 : Cond.methodLink RX13 1020 yX13_noTree ∈ pp_ws := List.mem_append_left _ (List.mem_of_getElem? (i := 184) rfl)
theorem pp185 : Cond.code yX13_noTree cX13_noTree 4 (some .boolean) ∈ pp_ws := List.mem_append_left _ (List.mem_of_getElem? (i := 185) rfl)
theorem pp186 : Cond.instanceMethod yX13_noTree ∈ pp_ws := List.mem_append_left _ (List.mem_of_getElem? (i := 186) rfl)
theorem pp187 : Cond.selects RX13 yX13_noTree yX13_noTree ∈ pp_ws := List.mem_append_left _ (List.mem_of_getElem? (i := 187) rfl)
theorem pp188 : Cond.fieldLink RX12 85 "TongueHouse" "plantedSize" "[I" ∈ pp_ws := List.mem_append_left _ (List.mem_of_getElem? (i := 188) rfl)
theorem pp189 : Cond.fieldLink RX13 467 "TongueHouseModel" "placeN" "[I" ∈ pp_ws := List.mem_append_left _ (List.mem_of_getElem? (i := 189) rfl)
theorem pp190 : Cond.methodLink RX13 1030 yX13_takes ∈ pp_ws := List.mem_append_left _ (List.mem_of_getElem? (i := 190) rfl)
theorem pp191 : Cond.code yX13_takes cX13_takes 3 (some .int) ∈ pp_ws := List.mem_append_left _ (List.mem_of_getElem? (i := 191) rfl)
theorem pp192 : Cond.instanceMethod yX13_takes ∈ pp_ws := List.mem_append_left _ (List.mem_of_getElem? (i := 192) rfl)
theorem pp193 : Cond.selects RX13 yX13_takes yX13_takes ∈ pp_ws := List.mem_append_left _ (List.mem_of_getElem? (i := 193) rfl)
theorem pp194 : Cond.methodLink RX12 278 yX12_meaningOf ∈ pp_ws := List.mem_append_left _ (List.mem_of_getElem? (i := 194) rfl)
theorem pp195 : Cond.code yX12_meaningOf cX12_meaningOf 2 (some .int) ∈ pp_ws := List.mem_append_left _ (List.mem_of_getElem? (i := 195) rfl)
theorem pp196 : Cond.instanceMethod yX12_meaningOf ∈ pp_ws := List.mem_append_left _ (List.mem_of_getElem? (i := 196) rfl)
theorem pp197 : Cond.selects RX12 yX12_meaningOf yX12_meaningOf ∈ pp_ws := List.mem_append_left _ (List.mem_of_getElem? (i := 197) rfl)
theorem pp198 : Cond.methodLink RX12 355 yX8_sizeOf ∈ pp_ws := List.mem_append_left _ (List.mem_of_getElem? (i := 198) rfl)
theorem pp199 : Cond.code yX8_sizeOf cX8_sizeOf 2 (some .int) ∈ pp_ws := List.mem_append_left _ (List.mem_of_getElem? (i := 199) rfl)
theorem pp200 : Cond.instanceMethod yX8_sizeOf ∈ pp_ws := List.mem_append_left _ (List.mem_of_getElem? (i := 200) rfl)
theorem pp201 : Cond.selects RX8 yX8_sizeOf yX8_sizeOf ∈ pp_ws := List.mem_append_left _ (List.mem_of_getElem? (i := 201) rfl)
theorem pp202 : Cond.fieldLink RX12 46 "TongueHouse" "chart" "LTongueHouse$Chart;" ∈ pp_ws := List.mem_append_left _ (List.mem_of_getElem? (i := 202) rfl)
theorem pp203 : Cond.fieldLink RX12 346 "TongueHouse$Chart" "nodes" "I" ∈ pp_ws := List.mem_append_left _ (List.mem_of_getElem? (i := 203) rfl)
theorem pp204 : Cond.fieldLink RX12 349 "TongueHouse$Chart" "ways" "I" ∈ pp_ws := List.mem_append_left _ (List.mem_of_getElem? (i := 204) rfl)
theorem pp205 : Cond.fieldLink RX12 352 "TongueHouse$Finder" "collected" "I" ∈ pp_ws := List.mem_append_left _ (List.mem_of_getElem? (i := 205) rfl)
theorem pp206 : Cond.fieldLink RX13 989 "TongueHouseModel" "noted" "I" ∈ pp_ws := List.mem_append_left _ (List.mem_of_getElem? (i := 206) rfl)
theorem pp207 : Cond.fieldLink RX13 992 "TongueHouseModel" "notedWays" "I" ∈ pp_ws := List.mem_append_left _ (List.mem_of_getElem? (i := 207) rfl)
theorem pp208 : Cond.fieldLink RX13 1049 "TongueHouseModel" "collected" "I" ∈ pp_ws := List.mem_append_left _ (List.mem_of_getElem? (i := 208) rfl)
theorem pp209 : Cond.methodLink RX13 845 yX13_noTongue ∈ pp_ws := List.mem_append_left _ (List.mem_of_getElem? (i := 209) rfl)
theorem pp210 : Cond.code yX13_noTongue cX13_noTongue 2 (some .boolean) ∈ pp_ws := List.mem_append_left _ (List.mem_of_getElem? (i := 210) rfl)
theorem pp211 : Cond.instanceMethod yX13_noTongue ∈ pp_ws := List.mem_append_left _ (List.mem_of_getElem? (i := 211) rfl)
theorem pp212 : Cond.selects RX13 yX13_noTongue yX13_noTongue ∈ pp_ws := List.mem_append_left _ (List.mem_of_getElem? (i := 212) rfl)
theorem pi_at : ∀ w ∈ px_atI.filter goodWord, w ∈ pp_ws := fun _ h => List.mem_append_right _ (List.mem_append_left _ h)
theorem pi0 : ∀ w ∈ u_ws RX0 TX0 22, w ∈ pp_ws := fun _ h => List.mem_append_right _ (List.mem_append_right _ (List.mem_append_left _ h))
theorem pu0 : (u_ws RX0 TX0 22).all goodWord = true := by decide +kernel
theorem pi1 : ∀ w ∈ u_ws RX1 TX1 19, w ∈ pp_ws := fun _ h => List.mem_append_right _ (List.mem_append_right _ (List.mem_append_right _ (List.mem_append_left _ h)))
theorem pu1 : (u_ws RX1 TX1 19).all goodWord = true := by decide +kernel
theorem pi4 : ∀ w ∈ u_ws RX4 TX4 2, w ∈ pp_ws := fun _ h => List.mem_append_right _ (List.mem_append_right _ (List.mem_append_right _ (List.mem_append_right _ (List.mem_append_left _ h))))
theorem pu4 : (u_ws RX4 TX4 2).all goodWord = true := by decide +kernel
theorem pi5 : ∀ w ∈ u_ws RX5 TX5 19, w ∈ pp_ws := fun _ h => List.mem_append_right _ (List.mem_append_right _ (List.mem_append_right _ (List.mem_append_right _ (List.mem_append_right _ (List.mem_append_left _ h)))))
theorem pu5 : (u_ws RX5 TX5 19).all goodWord = true := by decide +kernel
theorem pi6 : ∀ w ∈ u_ws RX6 TX6 19, w ∈ pp_ws := fun _ h => List.mem_append_right _ (List.mem_append_right _ (List.mem_append_right _ (List.mem_append_right _ (List.mem_append_right _ (List.mem_append_right _ (List.mem_append_left _ h))))))
theorem pu6 : (u_ws RX6 TX6 19).all goodWord = true := by decide +kernel
theorem pi8 : ∀ w ∈ u_ws RX8 TX8 21, w ∈ pp_ws := fun _ h => List.mem_append_right _ (List.mem_append_right _ (List.mem_append_right _ (List.mem_append_right _ (List.mem_append_right _ (List.mem_append_right _ (List.mem_append_right _ (List.mem_append_left _ h)))))))
theorem pu8 : (u_ws RX8 TX8 21).all goodWord = true := by decide +kernel
theorem pi9 : ∀ w ∈ u_ws RX9 TX9 10, w ∈ pp_ws := fun _ h => List.mem_append_right _ (List.mem_append_right _ (List.mem_append_right _ (List.mem_append_right _ (List.mem_append_right _ (List.mem_append_right _ (List.mem_append_right _ (List.mem_append_right _ (List.mem_append_left _ h))))))))
theorem pu9 : (u_ws RX9 TX9 10).all goodWord = true := by decide +kernel
theorem pi12 : ∀ w ∈ u_ws RX12 TX12 17, w ∈ pp_ws := fun _ h => List.mem_append_right _ (List.mem_append_right _ (List.mem_append_right _ (List.mem_append_right _ (List.mem_append_right _ (List.mem_append_right _ (List.mem_append_right _ (List.mem_append_right _ (List.mem_append_right _ (List.mem_append_left _ h)))))))))
theorem pu12 : (u_ws RX12 TX12 17).all goodWord = true := by decide +kernel
theorem pi13 : ∀ w ∈ u_ws RX13 TX13 229, w ∈ pp_ws := fun _ h => List.mem_append_right _ (List.mem_append_right _ (List.mem_append_right _ (List.mem_append_right _ (List.mem_append_right _ (List.mem_append_right _ (List.mem_append_right _ (List.mem_append_right _ (List.mem_append_right _ (List.mem_append_right _ (h))))))))))
theorem pu13 : (u_ws RX13 TX13 229).all goodWord = true := by decide +kernel
theorem pp_good : ∀ w ∈ pp_ws, goodWord w = true := fun w h => by
  rcases List.mem_append.mp h with h | h
  · exact List.all_eq_true.mp pp_w0_good w h
  rcases List.mem_append.mp h with h | h
  · exact (List.mem_filter.mp h).2
  rcases List.mem_append.mp h with h | h
  · exact List.all_eq_true.mp pu0 w h
  rcases List.mem_append.mp h with h | h
  · exact List.all_eq_true.mp pu1 w h
  rcases List.mem_append.mp h with h | h
  · exact List.all_eq_true.mp pu4 w h
  rcases List.mem_append.mp h with h | h
  · exact List.all_eq_true.mp pu5 w h
  rcases List.mem_append.mp h with h | h
  · exact List.all_eq_true.mp pu6 w h
  rcases List.mem_append.mp h with h | h
  · exact List.all_eq_true.mp pu8 w h
  rcases List.mem_append.mp h with h | h
  · exact List.all_eq_true.mp pu9 w h
  rcases List.mem_append.mp h with h | h
  · exact List.all_eq_true.mp pu12 w h
  exact List.all_eq_true.mp pu13 w h
theorem pp_gV {c0 c1 : Cond} {own C : String} {index : Nat} {y : MethodName} (h0 : c1 ∈ pp_ws) (h1 : Cond.methodLink own index y ∈ pp_ws) (h2 : Cond.instanceMethod y ∈ pp_ws) (h3 : Cond.selects C y y ∈ pp_ws) (h4 : Cond.initialized C ∈ pp_ws) : GoodIn (c0 :: pp_ws) (wsV own index C y (c1 :: pp_ws)) := fun w hw => by
  have h9 : w ∈ pp_ws := by
    rcases List.mem_append.mp hw with hw | hw
    · rcases List.mem_cons.mp hw with rfl | hw
      · exact h1
      rcases List.mem_cons.mp hw with rfl | hw
      · exact h2
      rcases List.mem_cons.mp hw with rfl | hw
      · exact h3
      rcases List.mem_cons.mp hw with rfl | hw
      · exact h4
      exact absurd hw List.not_mem_nil
    · rcases List.mem_cons.mp hw with rfl | hw
      · exact h0
      · exact hw
  exact ⟨List.mem_cons_of_mem _ h9, good_of_word (pp_good w h9)⟩
theorem pp_gS {c0 c1 : Cond} {own : String} {index : Nat} {y : MethodName} (h0 : c1 ∈ pp_ws) (h1 : Cond.methodLink own index y ∈ pp_ws) (h2 : Cond.static y ∈ pp_ws) (h3 : Cond.initialized y.cls ∈ pp_ws) : GoodIn (c0 :: pp_ws) (va_wsS own index y (c1 :: pp_ws)) := fun w hw => by
  have h9 : w ∈ pp_ws := by
    rcases List.mem_append.mp hw with hw | hw
    · rcases List.mem_cons.mp hw with rfl | hw
      · exact h1
      rcases List.mem_cons.mp hw with rfl | hw
      · exact h2
      rcases List.mem_cons.mp hw with rfl | hw
      · exact h3
      exact absurd hw List.not_mem_nil
    · rcases List.mem_cons.mp hw with rfl | hw
      · exact h0
      · exact hw
  exact ⟨List.mem_cons_of_mem _ h9, good_of_word (pp_good w h9)⟩
theorem pd_X12_checkPlace : yX12_checkPlace.cls ≠ "java/lang/invoke/MethodHandle" ∧ yX12_checkPlace.cls ≠ "java/lang/invoke/VarHandle" ∧ (parseMethodDescriptor yX12_checkPlace.desc).map (fun d => d.parameters.length) = some 1 := by decide +kernel
theorem pd_X12_meaningOf : yX12_meaningOf.cls = RX12 ∧ yX12_meaningOf.cls ≠ "java/lang/invoke/MethodHandle" ∧ yX12_meaningOf.cls ≠ "java/lang/invoke/VarHandle" ∧ (parseMethodDescriptor yX12_meaningOf.desc).map (fun d => d.parameters.length) = some 1 := by decide +kernel
theorem pd_X12_tongueAt : yX12_tongueAt.cls = RX12 ∧ yX12_tongueAt.cls ≠ "java/lang/invoke/MethodHandle" ∧ yX12_tongueAt.cls ≠ "java/lang/invoke/VarHandle" ∧ (parseMethodDescriptor yX12_tongueAt.desc).map (fun d => d.parameters.length) = some 1 := by decide +kernel
theorem pd_X13_bad : yX13_bad.cls = RX13 ∧ yX13_bad.cls ≠ "java/lang/invoke/MethodHandle" ∧ yX13_bad.cls ≠ "java/lang/invoke/VarHandle" ∧ (parseMethodDescriptor yX13_bad.desc).map (fun d => d.parameters.length) = some 0 := by decide +kernel
theorem pd_X13_four : yX13_four.cls = RX13 ∧ yX13_four.cls ≠ "java/lang/invoke/MethodHandle" ∧ yX13_four.cls ≠ "java/lang/invoke/VarHandle" ∧ (parseMethodDescriptor yX13_four.desc).map (fun d => d.parameters.length) = some 1 := by decide +kernel
theorem pd_X13_next : yX13_next.cls = RX13 ∧ yX13_next.cls ≠ "java/lang/invoke/MethodHandle" ∧ yX13_next.cls ≠ "java/lang/invoke/VarHandle" ∧ (parseMethodDescriptor yX13_next.desc).map (fun d => d.parameters.length) = some 0 := by decide +kernel
theorem pd_X13_noPlace : yX13_noPlace.cls = RX13 ∧ yX13_noPlace.cls ≠ "java/lang/invoke/MethodHandle" ∧ yX13_noPlace.cls ≠ "java/lang/invoke/VarHandle" ∧ (parseMethodDescriptor yX13_noPlace.desc).map (fun d => d.parameters.length) = some 1 := by decide +kernel
theorem pd_X13_noTongue : yX13_noTongue.cls = RX13 ∧ yX13_noTongue.cls ≠ "java/lang/invoke/MethodHandle" ∧ yX13_noTongue.cls ≠ "java/lang/invoke/VarHandle" ∧ (parseMethodDescriptor yX13_noTongue.desc).map (fun d => d.parameters.length) = some 1 := by decide +kernel
theorem pd_X13_noTree : yX13_noTree.cls = RX13 ∧ yX13_noTree.cls ≠ "java/lang/invoke/MethodHandle" ∧ yX13_noTree.cls ≠ "java/lang/invoke/VarHandle" ∧ (parseMethodDescriptor yX13_noTree.desc).map (fun d => d.parameters.length) = some 1 := by decide +kernel
theorem pd_X13_reads : yX13_reads.cls = RX13 ∧ yX13_reads.cls ≠ "java/lang/invoke/MethodHandle" ∧ yX13_reads.cls ≠ "java/lang/invoke/VarHandle" ∧ (parseMethodDescriptor yX13_reads.desc).map (fun d => d.parameters.length) = some 0 := by decide +kernel
theorem pd_X13_remember : yX13_remember.cls = RX13 ∧ yX13_remember.cls ≠ "java/lang/invoke/MethodHandle" ∧ yX13_remember.cls ≠ "java/lang/invoke/VarHandle" ∧ (parseMethodDescriptor yX13_remember.desc).map (fun d => d.parameters.length) = some 0 := by decide +kernel
theorem pd_X13_takes : yX13_takes.cls = RX13 ∧ yX13_takes.cls ≠ "java/lang/invoke/MethodHandle" ∧ yX13_takes.cls ≠ "java/lang/invoke/VarHandle" ∧ (parseMethodDescriptor yX13_takes.desc).map (fun d => d.parameters.length) = some 1 := by decide +kernel
theorem pd_X1_tellAnalysis : yX1_tellAnalysis.cls = RX1 ∧ yX1_tellAnalysis.cls ≠ "java/lang/invoke/MethodHandle" ∧ yX1_tellAnalysis.cls ≠ "java/lang/invoke/VarHandle" ∧ (parseMethodDescriptor yX1_tellAnalysis.desc).map (fun d => d.parameters.length) = some 2 := by decide +kernel
theorem pd_X1_tellGuess : yX1_tellGuess.cls = RX1 ∧ yX1_tellGuess.cls ≠ "java/lang/invoke/MethodHandle" ∧ yX1_tellGuess.cls ≠ "java/lang/invoke/VarHandle" ∧ (parseMethodDescriptor yX1_tellGuess.desc).map (fun d => d.parameters.length) = some 2 := by decide +kernel
theorem pd_X1_tellHit : yX1_tellHit.cls = RX1 ∧ yX1_tellHit.cls ≠ "java/lang/invoke/MethodHandle" ∧ yX1_tellHit.cls ≠ "java/lang/invoke/VarHandle" ∧ (parseMethodDescriptor yX1_tellHit.desc).map (fun d => d.parameters.length) = some 2 := by decide +kernel
theorem pd_X5_priceOf : yX5_priceOf.cls = RX5 ∧ yX5_priceOf.cls ≠ "java/lang/invoke/MethodHandle" ∧ yX5_priceOf.cls ≠ "java/lang/invoke/VarHandle" ∧ (parseMethodDescriptor yX5_priceOf.desc).map (fun d => d.parameters.length) = some 1 := by decide +kernel
theorem pd_X5_rank : yX5_rank.cls = RX5 ∧ yX5_rank.cls ≠ "java/lang/invoke/MethodHandle" ∧ yX5_rank.cls ≠ "java/lang/invoke/VarHandle" ∧ (parseMethodDescriptor yX5_rank.desc).map (fun d => d.parameters.length) = some 0 := by decide +kernel
theorem pd_X5_spell : yX5_spell.cls = RX5 ∧ yX5_spell.cls ≠ "java/lang/invoke/MethodHandle" ∧ yX5_spell.cls ≠ "java/lang/invoke/VarHandle" ∧ (parseMethodDescriptor yX5_spell.desc).map (fun d => d.parameters.length) = some 2 := by decide +kernel
theorem pd_X5_total : yX5_total.cls = RX5 ∧ yX5_total.cls ≠ "java/lang/invoke/MethodHandle" ∧ yX5_total.cls ≠ "java/lang/invoke/VarHandle" ∧ (parseMethodDescriptor yX5_total.desc).map (fun d => d.parameters.length) = some 0 := by decide +kernel
theorem pd_X6_begin : yX6_begin.cls = RX6 ∧ yX6_begin.cls ≠ "java/lang/invoke/MethodHandle" ∧ yX6_begin.cls ≠ "java/lang/invoke/VarHandle" ∧ (parseMethodDescriptor yX6_begin.desc).map (fun d => d.parameters.length) = some 0 := by decide +kernel
theorem pd_X6_readTree : yX6_readTree.cls = RX6 ∧ yX6_readTree.cls ≠ "java/lang/invoke/MethodHandle" ∧ yX6_readTree.cls ≠ "java/lang/invoke/VarHandle" ∧ (parseMethodDescriptor yX6_readTree.desc).map (fun d => d.parameters.length) = some 1 := by decide +kernel
theorem pd_X8_mark : yX8_mark.cls = RX8 ∧ yX8_mark.cls ≠ "java/lang/invoke/MethodHandle" ∧ yX8_mark.cls ≠ "java/lang/invoke/VarHandle" ∧ (parseMethodDescriptor yX8_mark.desc).map (fun d => d.parameters.length) = some 0 := by decide +kernel
theorem pd_X8_sizeOf : yX8_sizeOf.cls = RX8 ∧ yX8_sizeOf.cls ≠ "java/lang/invoke/MethodHandle" ∧ yX8_sizeOf.cls ≠ "java/lang/invoke/VarHandle" ∧ (parseMethodDescriptor yX8_sizeOf.desc).map (fun d => d.parameters.length) = some 1 := by decide +kernel
theorem pd_X9_advance : yX9_advance.cls = RX9 ∧ yX9_advance.cls ≠ "java/lang/invoke/MethodHandle" ∧ yX9_advance.cls ≠ "java/lang/invoke/VarHandle" ∧ (parseMethodDescriptor yX9_advance.desc).map (fun d => d.parameters.length) = some 0 := by decide +kernel
theorem pd_X9_onlyName : yX9_onlyName.cls = RX9 ∧ yX9_onlyName.cls ≠ "java/lang/invoke/MethodHandle" ∧ yX9_onlyName.cls ≠ "java/lang/invoke/VarHandle" ∧ (parseMethodDescriptor yX9_onlyName.desc).map (fun d => d.parameters.length) = some 0 := by decide +kernel
theorem pd_X9_put : yX9_put.cls = RX9 ∧ yX9_put.cls ≠ "java/lang/invoke/MethodHandle" ∧ yX9_put.cls ≠ "java/lang/invoke/VarHandle" ∧ (parseMethodDescriptor yX9_put.desc).map (fun d => d.parameters.length) = some 1 := by decide +kernel
theorem pd_X9_putFour : yX9_putFour.cls = RX9 ∧ yX9_putFour.cls ≠ "java/lang/invoke/MethodHandle" ∧ yX9_putFour.cls ≠ "java/lang/invoke/VarHandle" ∧ (parseMethodDescriptor yX9_putFour.desc).map (fun d => d.parameters.length) = some 1 := by decide +kernel
theorem pd_X9_rewind : yX9_rewind.cls = RX9 ∧ yX9_rewind.cls ≠ "java/lang/invoke/MethodHandle" ∧ yX9_rewind.cls ≠ "java/lang/invoke/VarHandle" ∧ (parseMethodDescriptor yX9_rewind.desc).map (fun d => d.parameters.length) = some 0 := by decide +kernel
end
section
theorem pz_X9_put_1 (z : Int32) (hz : ¬ z < 0) (hy : z < 1000) (c1 : 1000 ≤ z) : False := by
  have k0 : (0 : Int32).toInt = 0 := by decide
  have k1000 : (1000 : Int32).toInt = 1000 := by decide
  simp only [Int32.lt_iff_toInt_lt, Int32.le_iff_toInt_le, ← Int32.toInt_inj] at hz hy c1 ⊢
  omega
theorem pz_X9_put_2 (z : Int32) (hz : ¬ z < 0) (hy : z < 1000) : vp_in z 1000 := by
  refine vp_in_iff.mpr ?_
  have k0 : (0 : Int32).toInt = 0 := by decide
  have k1000 : (1000 : Int32).toInt = 1000 := by decide
  simp only [Int32.lt_iff_toInt_lt, Int32.le_iff_toInt_le, ← Int32.toInt_inj] at hz hy
  omega
set_option maxHeartbeats 4000000 in
set_option maxRecDepth 100000 in
/-- TongueHouse$Text.put on a new object -/
theorem c_X9_put (l : Launch) (D : va_G) (cy : Nat → ClassId) (sz : Nat) (L : List Nat) (f : Nat → va_E) (q23 q24 : Nat) (F_q23 : List Value) (g_q24 : Nat → Int32) (n1 : Int32) (z z1 : Int32) (hz : ¬ z < 0) (hy : z < 1000) (hz3 : z + 1 = z1) (hC : pq_C L f [(q23, .inr (9, F_q23)), (q24, .inl (cy 0, 1000, .inl g_q24))]) (E_q23 : pq_E 10 F_q23 [(0, .ref q24), (1, .int z), (5, .int 0), (6, .int 0), (7, .int 0)]) : Met l yX9_put (Cond.code yX9_put cX9_put 2 none :: pp_ws) ({ frames := 0, cells := 0, slots := 0, locals := 0 }) (pw_Pc D cy [.ref q23, .int n1] sz L f) (pq_Qv D sz L f [q23, q24] (fun cs1 => (∃ (F_q23 : List Value) (g_q24 : Nat → Int32), cs1 = [(q23, .inr (9, F_q23)), (q24, .inl (cy 0, 1000, .inl g_q24))] ∧ pq_E 10 F_q23 [(0, .ref q24), (1, .int z1), (5, .int 0), (6, .int 0), (7, .int 0)]))) 0 0 (pw_A L f sz) := by
  refine Met.ofW (cc := cX9_put) (maxL := 2) (ret := none) (by decide) rfl ?_
  intro p e s m args below meth c s₁ B hml hv
  obtain ⟨rfl, hsz, hG, hP, hD0⟩ := hv
  have hx := B.exec
  have hb := B.bytes
  have hr := B.returns
  have hts := atoms_spec (ws := Cond.code yX9_put cX9_put 2 none :: pp_ws) B.pre
  have hpp := fun (w : Cond) (h : w ∈ pp_ws) => hts w (List.mem_cons_of_mem _ h)
  have hown : s.vm.findClass RX9 = some m.cls := findClass_of_methodNamed B.named
  have hlocks := B.notSynchronized
  have hw := pw_start (cy := cy) hsz hP hD0
  have hW := pq_start (as := [q23, q24]) hw hC rfl
  have hl := lv_entry ([.ref q23, .int n1]) (n := 2) (Nat.le_of_ble_eq_true rfl)
  rw [lg_entry_eq]
  generalize (lg_sl ([.ref q23, .int n1]) ++ List.replicate (2 - (lg_sl ([.ref q23, .int n1])).length) Slot.unset).toArray = ls at hl ⊢
  have hl : lv_has ls 2 [(0, .ref q23), (1, .int n1)] := hl
  refine lv_aload_n hx hb dX9_put_0 rfl (lv_at hl 0 rfl) ?_
  refine pq_get (own := RX9) (ci := 9) (C := RX9) (T := TX9) (N := 10) (k := 1) (v := .int z) hx hb hpp pi9 rfl hown hG hW 0 rfl E_q23 1 rfl (by decide) pp2 dX9_put_1 ?_
  refine lv_sipush (v := 1000) hx hb dX9_put_4 (by decide) ?_
  refine lv_icmp_ge (tgt := 28) hx hb dX9_put_7 (by decide) (fun c1 => (pz_X9_put_1 z hz hy c1).elim) (fun _ => ?_)
  refine lv_aload_n hx hb dX9_put_10 rfl (lv_at hl 0 rfl) ?_
  refine pq_get (own := RX9) (ci := 9) (C := RX9) (T := TX9) (N := 10) (k := 0) (v := .ref q24) hx hb hpp pi9 rfl hown hG hW 0 rfl E_q23 0 rfl (by decide) pp3 dX9_put_11 ?_
  refine lv_aload_n hx hb dX9_put_14 rfl (lv_at hl 0 rfl) ?_
  refine lv_dup hx hb dX9_put_15 rfl ?_
  refine pq_get (own := RX9) (ci := 9) (C := RX9) (T := TX9) (N := 10) (k := 1) (v := .int z) hx hb hpp pi9 rfl hown hG hW 0 rfl E_q23 1 rfl (by decide) pp2 dX9_put_16 ?_
  refine lv_dup_x1 hx hb dX9_put_19 rfl rfl ?_
  refine lv_iconst (v := 1) hx hb dX9_put_20 (by decide) ?_
  refine lv_iadd hx hb dX9_put_21 ?_
  refine pq_topi (y := z1) hz3 ?_
  refine pq_put (own := RX9) (ci := 9) (C := RX9) (T := TX9) (N := 10) (kv' := [(0, .ref q24), (1, .int z1), (5, .int 0), (6, .int 0), (7, .int 0)]) hx hb hpp pi9 tyX9 tyX9_ok nmX9 rfl hown hG hW 0 rfl E_q23 1 (by decide) rfl rfl rfl rfl pp2 dX9_put_22 (fun F_q23 H locs hW E_q23 => ?_)
  have hW : pq_W D _ s.heap L f _ [(q23, .inr (9, F_q23)), (q24, .inl (cy 0, 1000, .inl g_q24))] H locs := hW
  refine lv_iload_n hx hb dX9_put_25 rfl (lv_at hl 1 rfl) ?_
  refine lv_i2b hx hb dX9_put_26 rfl ?_
  refine lv_topi (fun y3 _ => ?_)
  refine pq_bast hx hb hG hW 1 rfl (pz_X9_put_2 z hz hy) dX9_put_27 (fun H locs hW => ?_)
  have hW : pq_W D _ s.heap L f _ [(q23, .inr (9, F_q23)), (q24, .inl (cy 0, 1000, .inl _))] H locs := hW
  exact pq_vret hx hb hr hlocks hW ⟨_, _, rfl, E_q23⟩ dX9_put_28
set_option maxHeartbeats 4000000 in
set_option maxRecDepth 100000 in
/-- TongueHouse$Text.putFour on a new object -/
theorem c_X9_putFour (l : Launch) (D : va_G) (cy : Nat → ClassId) (sz : Nat) (L : List Nat) (f : Nat → va_E) (q23 q24 : Nat) (F_q23 : List Value) (g_q24 : Nat → Int32) (n1 : Int32) (hC : pq_C L f [(q23, .inr (9, F_q23)), (q24, .inl (cy 0, 1000, .inl g_q24))]) (E_q23 : pq_E 10 F_q23 [(0, .ref q24), (1, .int 0), (5, .int 0), (6, .int 0), (7, .int 0)]) : Met l yX9_putFour (Cond.code yX9_putFour cX9_putFour 2 none :: pp_ws) ({ frames := 1, cells := 0, slots := 0, locals := 21 }) (pw_Pc D cy [.ref q23, .int n1] sz L f) (pq_Qv D sz L f [q23, q24] (fun cs1 => (∃ (F_q23 : List Value) (g_q24 : Nat → Int32), cs1 = [(q23, .inr (9, F_q23)), (q24, .inl (cy 0, 1000, .inl g_q24))] ∧ pq_E 10 F_q23 [(0, .ref q24), (1, .int 4), (5, .int 0), (6, .int 0), (7, .int 0)]))) 0 0 (pw_A L f sz) := by
  refine Met.ofW (cc := cX9_putFour) (maxL := 2) (ret := none) (by decide) rfl ?_
  intro p e s m args below meth c s₁ B hml hv
  obtain ⟨rfl, hsz, hG, hP, hD0⟩ := hv
  have hx := B.exec
  have hb := B.bytes
  have hr := B.returns
  have hts := atoms_spec (ws := Cond.code yX9_putFour cX9_putFour 2 none :: pp_ws) B.pre
  have hpp := fun (w : Cond) (h : w ∈ pp_ws) => hts w (List.mem_cons_of_mem _ h)
  have hown : s.vm.findClass RX9 = some m.cls := findClass_of_methodNamed B.named
  have hlocks := B.notSynchronized
  have hw := pw_start (cy := cy) hsz hP hD0
  have hW := pq_start (as := [q23, q24]) hw hC rfl
  have hl := lv_entry ([.ref q23, .int n1]) (n := 2) (Nat.le_of_ble_eq_true rfl)
  rw [lg_entry_eq]
  generalize (lg_sl ([.ref q23, .int n1]) ++ List.replicate (2 - (lg_sl ([.ref q23, .int n1])).length) Slot.unset).toArray = ls at hl ⊢
  have hl : lv_has ls 2 [(0, .ref q23), (1, .int n1)] := hl
  refine lv_aload_n hx hb dX9_putFour_0 rfl (lv_at hl 0 rfl) ?_
  refine lv_iload_n hx hb dX9_putFour_1 rfl (lv_at hl 1 rfl) ?_
  refine lv_bipush (v := 24) hx hb dX9_putFour_2 (by decide) ?_
  refine lv_ishr hx hb dX9_putFour_4 ?_
  refine lv_topi (fun y6 _ => ?_)
  refine pq_callv hW [0, 1] [] (by decide) rfl rfl (fun f9 hw9 hC9 => va_runV (C := RX9) (As := [.int y6]) (rest := []) ⟨hx, hb, hml, hown, hts⟩ (c_X9_put l D cy _ L f9 q23 q24 F_q23 _ y6 0 1 (by decide) (by decide) (by decide) hC9 E_q23) (cwV 1 hts (pp_gV pp5 pp4 pp6 pp7 pp8) rfl rfl rfl pd_X9_put ⟨Nat.le_of_ble_eq_true rfl, Nat.le_of_ble_eq_true rfl⟩) (pq_preV hG hw9 hC9 (j := 0) rfl rfl) rfl rfl hl.1 rfl (lv_room (Nat.le_of_ble_eq_true rfl)) dX9_putFour_5 ⟨Nat.le_of_ble_eq_true rfl, Nat.le_of_ble_eq_true rfl⟩) (fun cs1 H locs hP hW => ?_)
  obtain ⟨F_q23, g_q24, rfl, E_q23⟩ := hP
  have hW : pq_W D _ s.heap L f _ [(q23, .inr (9, F_q23)), (q24, .inl (cy 0, 1000, .inl _))] H locs := hW
  refine lv_aload_n hx hb dX9_putFour_8 rfl (lv_at hl 0 rfl) ?_
  refine lv_iload_n hx hb dX9_putFour_9 rfl (lv_at hl 1 rfl) ?_
  refine lv_bipush (v := 16) hx hb dX9_putFour_10 (by decide) ?_
  refine lv_ishr hx hb dX9_putFour_12 ?_
  refine lv_topi (fun y7 _ => ?_)
  refine pq_callv hW [0, 1] [] (by decide) rfl rfl (fun f9 hw9 hC9 => va_runV (C := RX9) (As := [.int y7]) (rest := []) ⟨hx, hb, hml, hown, hts⟩ (c_X9_put l D cy _ L f9 q23 q24 F_q23 _ y7 1 2 (by decide) (by decide) (by decide) hC9 E_q23) (cwV 1 hts (pp_gV pp5 pp4 pp6 pp7 pp8) rfl rfl rfl pd_X9_put ⟨Nat.le_of_ble_eq_true rfl, Nat.le_of_ble_eq_true rfl⟩) (pq_preV hG hw9 hC9 (j := 0) rfl rfl) rfl rfl hl.1 rfl (lv_room (Nat.le_of_ble_eq_true rfl)) dX9_putFour_13 ⟨Nat.le_of_ble_eq_true rfl, Nat.le_of_ble_eq_true rfl⟩) (fun cs1 H locs hP hW => ?_)
  obtain ⟨F_q23, g_q24, rfl, E_q23⟩ := hP
  have hW : pq_W D _ s.heap L f _ [(q23, .inr (9, F_q23)), (q24, .inl (cy 0, 1000, .inl _))] H locs := hW
  refine lv_aload_n hx hb dX9_putFour_16 rfl (lv_at hl 0 rfl) ?_
  refine lv_iload_n hx hb dX9_putFour_17 rfl (lv_at hl 1 rfl) ?_
  refine lv_bipush (v := 8) hx hb dX9_putFour_18 (by decide) ?_
  refine lv_ishr hx hb dX9_putFour_20 ?_
  refine lv_topi (fun y8 _ => ?_)
  refine pq_callv hW [0, 1] [] (by decide) rfl rfl (fun f9 hw9 hC9 => va_runV (C := RX9) (As := [.int y8]) (rest := []) ⟨hx, hb, hml, hown, hts⟩ (c_X9_put l D cy _ L f9 q23 q24 F_q23 _ y8 2 3 (by decide) (by decide) (by decide) hC9 E_q23) (cwV 1 hts (pp_gV pp5 pp4 pp6 pp7 pp8) rfl rfl rfl pd_X9_put ⟨Nat.le_of_ble_eq_true rfl, Nat.le_of_ble_eq_true rfl⟩) (pq_preV hG hw9 hC9 (j := 0) rfl rfl) rfl rfl hl.1 rfl (lv_room (Nat.le_of_ble_eq_true rfl)) dX9_putFour_21 ⟨Nat.le_of_ble_eq_true rfl, Nat.le_of_ble_eq_true rfl⟩) (fun cs1 H locs hP hW => ?_)
  obtain ⟨F_q23, g_q24, rfl, E_q23⟩ := hP
  have hW : pq_W D _ s.heap L f _ [(q23, .inr (9, F_q23)), (q24, .inl (cy 0, 1000, .inl _))] H locs := hW
  refine lv_aload_n hx hb dX9_putFour_24 rfl (lv_at hl 0 rfl) ?_
  refine lv_iload_n hx hb dX9_putFour_25 rfl (lv_at hl 1 rfl) ?_
  refine pq_callv hW [0, 1] [] (by decide) rfl rfl (fun f9 hw9 hC9 => va_runV (C := RX9) (As := [.int n1]) (rest := []) ⟨hx, hb, hml, hown, hts⟩ (c_X9_put l D cy _ L f9 q23 q24 F_q23 _ n1 3 4 (by decide) (by decide) (by decide) hC9 E_q23) (cwV 1 hts (pp_gV pp5 pp4 pp6 pp7 pp8) rfl rfl rfl pd_X9_put ⟨Nat.le_of_ble_eq_true rfl, Nat.le_of_ble_eq_true rfl⟩) (pq_preV hG hw9 hC9 (j := 0) rfl rfl) rfl rfl hl.1 rfl (lv_room (Nat.le_of_ble_eq_true rfl)) dX9_putFour_26 ⟨Nat.le_of_ble_eq_true rfl, Nat.le_of_ble_eq_true rfl⟩) (fun cs1 H locs hP hW => ?_)
  obtain ⟨F_q23, g_q24, rfl, E_q23⟩ := hP
  have hW : pq_W D _ s.heap L f _ [(q23, .inr (9, F_q23)), (q24, .inl (cy 0, 1000, .inl _))] H locs := hW
  exact pq_vret hx hb hr hlocks hW ⟨_, _, rfl, E_q23⟩ dX9_putFour_29
set_option maxHeartbeats 4000000 in
set_option maxRecDepth 100000 in
/-- TongueHouse$Text.putFour on a new object -/
theorem c_X9_putFour_1 (l : Launch) (D : va_G) (cy : Nat → ClassId) (sz : Nat) (L : List Nat) (f : Nat → va_E) (q23 q24 : Nat) (F_q23 : List Value) (g_q24 : Nat → Int32) (n1 : Int32) (hC : pq_C L f [(q23, .inr (9, F_q23)), (q24, .inl (cy 0, 1000, .inl g_q24))]) (E_q23 : pq_E 10 F_q23 [(0, .ref q24), (1, .int 4), (5, .int 0), (6, .int 0), (7, .int 0)]) : Met l yX9_putFour (Cond.code yX9_putFour cX9_putFour 2 none :: pp_ws) ({ frames := 1, cells := 0, slots := 0, locals := 21 }) (pw_Pc D cy [.ref q23, .int n1] sz L f) (pq_Qv D sz L f [q23, q24] (fun cs1 => (∃ (F_q23 : List Value) (g_q24 : Nat → Int32), cs1 = [(q23, .inr (9, F_q23)), (q24, .inl (cy 0, 1000, .inl g_q24))] ∧ pq_E 10 F_q23 [(0, .ref q24), (1, .int 8), (5, .int 0), (6, .int 0), (7, .int 0)]))) 0 0 (pw_A L f sz) := by
  refine Met.ofW (cc := cX9_putFour) (maxL := 2) (ret := none) (by decide) rfl ?_
  intro p e s m args below meth c s₁ B hml hv
  obtain ⟨rfl, hsz, hG, hP, hD0⟩ := hv
  have hx := B.exec
  have hb := B.bytes
  have hr := B.returns
  have hts := atoms_spec (ws := Cond.code yX9_putFour cX9_putFour 2 none :: pp_ws) B.pre
  have hpp := fun (w : Cond) (h : w ∈ pp_ws) => hts w (List.mem_cons_of_mem _ h)
  have hown : s.vm.findClass RX9 = some m.cls := findClass_of_methodNamed B.named
  have hlocks := B.notSynchronized
  have hw := pw_start (cy := cy) hsz hP hD0
  have hW := pq_start (as := [q23, q24]) hw hC rfl
  have hl := lv_entry ([.ref q23, .int n1]) (n := 2) (Nat.le_of_ble_eq_true rfl)
  rw [lg_entry_eq]
  generalize (lg_sl ([.ref q23, .int n1]) ++ List.replicate (2 - (lg_sl ([.ref q23, .int n1])).length) Slot.unset).toArray = ls at hl ⊢
  have hl : lv_has ls 2 [(0, .ref q23), (1, .int n1)] := hl
  refine lv_aload_n hx hb dX9_putFour_0 rfl (lv_at hl 0 rfl) ?_
  refine lv_iload_n hx hb dX9_putFour_1 rfl (lv_at hl 1 rfl) ?_
  refine lv_bipush (v := 24) hx hb dX9_putFour_2 (by decide) ?_
  refine lv_ishr hx hb dX9_putFour_4 ?_
  refine lv_topi (fun y12 _ => ?_)
  refine pq_callv hW [0, 1] [] (by decide) rfl rfl (fun f9 hw9 hC9 => va_runV (C := RX9) (As := [.int y12]) (rest := []) ⟨hx, hb, hml, hown, hts⟩ (c_X9_put l D cy _ L f9 q23 q24 F_q23 _ y12 4 5 (by decide) (by decide) (by decide) hC9 E_q23) (cwV 1 hts (pp_gV pp5 pp4 pp6 pp7 pp8) rfl rfl rfl pd_X9_put ⟨Nat.le_of_ble_eq_true rfl, Nat.le_of_ble_eq_true rfl⟩) (pq_preV hG hw9 hC9 (j := 0) rfl rfl) rfl rfl hl.1 rfl (lv_room (Nat.le_of_ble_eq_true rfl)) dX9_putFour_5 ⟨Nat.le_of_ble_eq_true rfl, Nat.le_of_ble_eq_true rfl⟩) (fun cs1 H locs hP hW => ?_)
  obtain ⟨F_q23, g_q24, rfl, E_q23⟩ := hP
  have hW : pq_W D _ s.heap L f _ [(q23, .inr (9, F_q23)), (q24, .inl (cy 0, 1000, .inl _))] H locs := hW
  refine lv_aload_n hx hb dX9_putFour_8 rfl (lv_at hl 0 rfl) ?_
  refine lv_iload_n hx hb dX9_putFour_9 rfl (lv_at hl 1 rfl) ?_
  refine lv_bipush (v := 16) hx hb dX9_putFour_10 (by decide) ?_
  refine lv_ishr hx hb dX9_putFour_12 ?_
  refine lv_topi (fun y13 _ => ?_)
  refine pq_callv hW [0, 1] [] (by decide) rfl rfl (fun f9 hw9 hC9 => va_runV (C := RX9) (As := [.int y13]) (rest := []) ⟨hx, hb, hml, hown, hts⟩ (c_X9_put l D cy _ L f9 q23 q24 F_q23 _ y13 5 6 (by decide) (by decide) (by decide) hC9 E_q23) (cwV 1 hts (pp_gV pp5 pp4 pp6 pp7 pp8) rfl rfl rfl pd_X9_put ⟨Nat.le_of_ble_eq_true rfl, Nat.le_of_ble_eq_true rfl⟩) (pq_preV hG hw9 hC9 (j := 0) rfl rfl) rfl rfl hl.1 rfl (lv_room (Nat.le_of_ble_eq_true rfl)) dX9_putFour_13 ⟨Nat.le_of_ble_eq_true rfl, Nat.le_of_ble_eq_true rfl⟩) (fun cs1 H locs hP hW => ?_)
  obtain ⟨F_q23, g_q24, rfl, E_q23⟩ := hP
  have hW : pq_W D _ s.heap L f _ [(q23, .inr (9, F_q23)), (q24, .inl (cy 0, 1000, .inl _))] H locs := hW
  refine lv_aload_n hx hb dX9_putFour_16 rfl (lv_at hl 0 rfl) ?_
  refine lv_iload_n hx hb dX9_putFour_17 rfl (lv_at hl 1 rfl) ?_
  refine lv_bipush (v := 8) hx hb dX9_putFour_18 (by decide) ?_
  refine lv_ishr hx hb dX9_putFour_20 ?_
  refine lv_topi (fun y14 _ => ?_)
  refine pq_callv hW [0, 1] [] (by decide) rfl rfl (fun f9 hw9 hC9 => va_runV (C := RX9) (As := [.int y14]) (rest := []) ⟨hx, hb, hml, hown, hts⟩ (c_X9_put l D cy _ L f9 q23 q24 F_q23 _ y14 6 7 (by decide) (by decide) (by decide) hC9 E_q23) (cwV 1 hts (pp_gV pp5 pp4 pp6 pp7 pp8) rfl rfl rfl pd_X9_put ⟨Nat.le_of_ble_eq_true rfl, Nat.le_of_ble_eq_true rfl⟩) (pq_preV hG hw9 hC9 (j := 0) rfl rfl) rfl rfl hl.1 rfl (lv_room (Nat.le_of_ble_eq_true rfl)) dX9_putFour_21 ⟨Nat.le_of_ble_eq_true rfl, Nat.le_of_ble_eq_true rfl⟩) (fun cs1 H locs hP hW => ?_)
  obtain ⟨F_q23, g_q24, rfl, E_q23⟩ := hP
  have hW : pq_W D _ s.heap L f _ [(q23, .inr (9, F_q23)), (q24, .inl (cy 0, 1000, .inl _))] H locs := hW
  refine lv_aload_n hx hb dX9_putFour_24 rfl (lv_at hl 0 rfl) ?_
  refine lv_iload_n hx hb dX9_putFour_25 rfl (lv_at hl 1 rfl) ?_
  refine pq_callv hW [0, 1] [] (by decide) rfl rfl (fun f9 hw9 hC9 => va_runV (C := RX9) (As := [.int n1]) (rest := []) ⟨hx, hb, hml, hown, hts⟩ (c_X9_put l D cy _ L f9 q23 q24 F_q23 _ n1 7 8 (by decide) (by decide) (by decide) hC9 E_q23) (cwV 1 hts (pp_gV pp5 pp4 pp6 pp7 pp8) rfl rfl rfl pd_X9_put ⟨Nat.le_of_ble_eq_true rfl, Nat.le_of_ble_eq_true rfl⟩) (pq_preV hG hw9 hC9 (j := 0) rfl rfl) rfl rfl hl.1 rfl (lv_room (Nat.le_of_ble_eq_true rfl)) dX9_putFour_26 ⟨Nat.le_of_ble_eq_true rfl, Nat.le_of_ble_eq_true rfl⟩) (fun cs1 H locs hP hW => ?_)
  obtain ⟨F_q23, g_q24, rfl, E_q23⟩ := hP
  have hW : pq_W D _ s.heap L f _ [(q23, .inr (9, F_q23)), (q24, .inl (cy 0, 1000, .inl _))] H locs := hW
  exact pq_vret hx hb hr hlocks hW ⟨_, _, rfl, E_q23⟩ dX9_putFour_29
set_option maxHeartbeats 4000000 in
set_option maxRecDepth 100000 in
/-- TongueHouse$Text.putFour on a new object -/
theorem c_X9_putFour_2 (l : Launch) (D : va_G) (cy : Nat → ClassId) (sz : Nat) (L : List Nat) (f : Nat → va_E) (q23 q24 : Nat) (F_q23 : List Value) (g_q24 : Nat → Int32) (n1 : Int32) (hC : pq_C L f [(q23, .inr (9, F_q23)), (q24, .inl (cy 0, 1000, .inl g_q24))]) (E_q23 : pq_E 10 F_q23 [(0, .ref q24), (1, .int 8), (5, .int 0), (6, .int 0), (7, .int 0)]) : Met l yX9_putFour (Cond.code yX9_putFour cX9_putFour 2 none :: pp_ws) ({ frames := 1, cells := 0, slots := 0, locals := 21 }) (pw_Pc D cy [.ref q23, .int n1] sz L f) (pq_Qv D sz L f [q23, q24] (fun cs1 => (∃ (F_q23 : List Value) (g_q24 : Nat → Int32), cs1 = [(q23, .inr (9, F_q23)), (q24, .inl (cy 0, 1000, .inl g_q24))] ∧ pq_E 10 F_q23 [(0, .ref q24), (1, .int 12), (5, .int 0), (6, .int 0), (7, .int 0)]))) 0 0 (pw_A L f sz) := by
  refine Met.ofW (cc := cX9_putFour) (maxL := 2) (ret := none) (by decide) rfl ?_
  intro p e s m args below meth c s₁ B hml hv
  obtain ⟨rfl, hsz, hG, hP, hD0⟩ := hv
  have hx := B.exec
  have hb := B.bytes
  have hr := B.returns
  have hts := atoms_spec (ws := Cond.code yX9_putFour cX9_putFour 2 none :: pp_ws) B.pre
  have hpp := fun (w : Cond) (h : w ∈ pp_ws) => hts w (List.mem_cons_of_mem _ h)
  have hown : s.vm.findClass RX9 = some m.cls := findClass_of_methodNamed B.named
  have hlocks := B.notSynchronized
  have hw := pw_start (cy := cy) hsz hP hD0
  have hW := pq_start (as := [q23, q24]) hw hC rfl
  have hl := lv_entry ([.ref q23, .int n1]) (n := 2) (Nat.le_of_ble_eq_true rfl)
  rw [lg_entry_eq]
  generalize (lg_sl ([.ref q23, .int n1]) ++ List.replicate (2 - (lg_sl ([.ref q23, .int n1])).length) Slot.unset).toArray = ls at hl ⊢
  have hl : lv_has ls 2 [(0, .ref q23), (1, .int n1)] := hl
  refine lv_aload_n hx hb dX9_putFour_0 rfl (lv_at hl 0 rfl) ?_
  refine lv_iload_n hx hb dX9_putFour_1 rfl (lv_at hl 1 rfl) ?_
  refine lv_bipush (v := 24) hx hb dX9_putFour_2 (by decide) ?_
  refine lv_ishr hx hb dX9_putFour_4 ?_
  refine lv_topi (fun y18 _ => ?_)
  refine pq_callv hW [0, 1] [] (by decide) rfl rfl (fun f9 hw9 hC9 => va_runV (C := RX9) (As := [.int y18]) (rest := []) ⟨hx, hb, hml, hown, hts⟩ (c_X9_put l D cy _ L f9 q23 q24 F_q23 _ y18 8 9 (by decide) (by decide) (by decide) hC9 E_q23) (cwV 1 hts (pp_gV pp5 pp4 pp6 pp7 pp8) rfl rfl rfl pd_X9_put ⟨Nat.le_of_ble_eq_true rfl, Nat.le_of_ble_eq_true rfl⟩) (pq_preV hG hw9 hC9 (j := 0) rfl rfl) rfl rfl hl.1 rfl (lv_room (Nat.le_of_ble_eq_true rfl)) dX9_putFour_5 ⟨Nat.le_of_ble_eq_true rfl, Nat.le_of_ble_eq_true rfl⟩) (fun cs1 H locs hP hW => ?_)
  obtain ⟨F_q23, g_q24, rfl, E_q23⟩ := hP
  have hW : pq_W D _ s.heap L f _ [(q23, .inr (9, F_q23)), (q24, .inl (cy 0, 1000, .inl _))] H locs := hW
  refine lv_aload_n hx hb dX9_putFour_8 rfl (lv_at hl 0 rfl) ?_
  refine lv_iload_n hx hb dX9_putFour_9 rfl (lv_at hl 1 rfl) ?_
  refine lv_bipush (v := 16) hx hb dX9_putFour_10 (by decide) ?_
  refine lv_ishr hx hb dX9_putFour_12 ?_
  refine lv_topi (fun y19 _ => ?_)
  refine pq_callv hW [0, 1] [] (by decide) rfl rfl (fun f9 hw9 hC9 => va_runV (C := RX9) (As := [.int y19]) (rest := []) ⟨hx, hb, hml, hown, hts⟩ (c_X9_put l D cy _ L f9 q23 q24 F_q23 _ y19 9 10 (by decide) (by decide) (by decide) hC9 E_q23) (cwV 1 hts (pp_gV pp5 pp4 pp6 pp7 pp8) rfl rfl rfl pd_X9_put ⟨Nat.le_of_ble_eq_true rfl, Nat.le_of_ble_eq_true rfl⟩) (pq_preV hG hw9 hC9 (j := 0) rfl rfl) rfl rfl hl.1 rfl (lv_room (Nat.le_of_ble_eq_true rfl)) dX9_putFour_13 ⟨Nat.le_of_ble_eq_true rfl, Nat.le_of_ble_eq_true rfl⟩) (fun cs1 H locs hP hW => ?_)
  obtain ⟨F_q23, g_q24, rfl, E_q23⟩ := hP
  have hW : pq_W D _ s.heap L f _ [(q23, .inr (9, F_q23)), (q24, .inl (cy 0, 1000, .inl _))] H locs := hW
  refine lv_aload_n hx hb dX9_putFour_16 rfl (lv_at hl 0 rfl) ?_
  refine lv_iload_n hx hb dX9_putFour_17 rfl (lv_at hl 1 rfl) ?_
  refine lv_bipush (v := 8) hx hb dX9_putFour_18 (by decide) ?_
  refine lv_ishr hx hb dX9_putFour_20 ?_
  refine lv_topi (fun y20 _ => ?_)
  refine pq_callv hW [0, 1] [] (by decide) rfl rfl (fun f9 hw9 hC9 => va_runV (C := RX9) (As := [.int y20]) (rest := []) ⟨hx, hb, hml, hown, hts⟩ (c_X9_put l D cy _ L f9 q23 q24 F_q23 _ y20 10 11 (by decide) (by decide) (by decide) hC9 E_q23) (cwV 1 hts (pp_gV pp5 pp4 pp6 pp7 pp8) rfl rfl rfl pd_X9_put ⟨Nat.le_of_ble_eq_true rfl, Nat.le_of_ble_eq_true rfl⟩) (pq_preV hG hw9 hC9 (j := 0) rfl rfl) rfl rfl hl.1 rfl (lv_room (Nat.le_of_ble_eq_true rfl)) dX9_putFour_21 ⟨Nat.le_of_ble_eq_true rfl, Nat.le_of_ble_eq_true rfl⟩) (fun cs1 H locs hP hW => ?_)
  obtain ⟨F_q23, g_q24, rfl, E_q23⟩ := hP
  have hW : pq_W D _ s.heap L f _ [(q23, .inr (9, F_q23)), (q24, .inl (cy 0, 1000, .inl _))] H locs := hW
  refine lv_aload_n hx hb dX9_putFour_24 rfl (lv_at hl 0 rfl) ?_
  refine lv_iload_n hx hb dX9_putFour_25 rfl (lv_at hl 1 rfl) ?_
  refine pq_callv hW [0, 1] [] (by decide) rfl rfl (fun f9 hw9 hC9 => va_runV (C := RX9) (As := [.int n1]) (rest := []) ⟨hx, hb, hml, hown, hts⟩ (c_X9_put l D cy _ L f9 q23 q24 F_q23 _ n1 11 12 (by decide) (by decide) (by decide) hC9 E_q23) (cwV 1 hts (pp_gV pp5 pp4 pp6 pp7 pp8) rfl rfl rfl pd_X9_put ⟨Nat.le_of_ble_eq_true rfl, Nat.le_of_ble_eq_true rfl⟩) (pq_preV hG hw9 hC9 (j := 0) rfl rfl) rfl rfl hl.1 rfl (lv_room (Nat.le_of_ble_eq_true rfl)) dX9_putFour_26 ⟨Nat.le_of_ble_eq_true rfl, Nat.le_of_ble_eq_true rfl⟩) (fun cs1 H locs hP hW => ?_)
  obtain ⟨F_q23, g_q24, rfl, E_q23⟩ := hP
  have hW : pq_W D _ s.heap L f _ [(q23, .inr (9, F_q23)), (q24, .inl (cy 0, 1000, .inl _))] H locs := hW
  exact pq_vret hx hb hr hlocks hW ⟨_, _, rfl, E_q23⟩ dX9_putFour_29
set_option maxHeartbeats 4000000 in
set_option maxRecDepth 100000 in
/-- TongueHouse$Text.putFour on a new object -/
theorem c_X9_putFour_3 (l : Launch) (D : va_G) (cy : Nat → ClassId) (sz : Nat) (L : List Nat) (f : Nat → va_E) (q23 q24 : Nat) (F_q23 : List Value) (g_q24 : Nat → Int32) (n1 : Int32) (hC : pq_C L f [(q23, .inr (9, F_q23)), (q24, .inl (cy 0, 1000, .inl g_q24))]) (E_q23 : pq_E 10 F_q23 [(0, .ref q24), (1, .int 12), (5, .int 0), (6, .int 0), (7, .int 0)]) : Met l yX9_putFour (Cond.code yX9_putFour cX9_putFour 2 none :: pp_ws) ({ frames := 1, cells := 0, slots := 0, locals := 21 }) (pw_Pc D cy [.ref q23, .int n1] sz L f) (pq_Qv D sz L f [q23, q24] (fun cs1 => (∃ (F_q23 : List Value) (g_q24 : Nat → Int32), cs1 = [(q23, .inr (9, F_q23)), (q24, .inl (cy 0, 1000, .inl g_q24))] ∧ pq_E 10 F_q23 [(0, .ref q24), (1, .int 16), (5, .int 0), (6, .int 0), (7, .int 0)]))) 0 0 (pw_A L f sz) := by
  refine Met.ofW (cc := cX9_putFour) (maxL := 2) (ret := none) (by decide) rfl ?_
  intro p e s m args below meth c s₁ B hml hv
  obtain ⟨rfl, hsz, hG, hP, hD0⟩ := hv
  have hx := B.exec
  have hb := B.bytes
  have hr := B.returns
  have hts := atoms_spec (ws := Cond.code yX9_putFour cX9_putFour 2 none :: pp_ws) B.pre
  have hpp := fun (w : Cond) (h : w ∈ pp_ws) => hts w (List.mem_cons_of_mem _ h)
  have hown : s.vm.findClass RX9 = some m.cls := findClass_of_methodNamed B.named
  have hlocks := B.notSynchronized
  have hw := pw_start (cy := cy) hsz hP hD0
  have hW := pq_start (as := [q23, q24]) hw hC rfl
  have hl := lv_entry ([.ref q23, .int n1]) (n := 2) (Nat.le_of_ble_eq_true rfl)
  rw [lg_entry_eq]
  generalize (lg_sl ([.ref q23, .int n1]) ++ List.replicate (2 - (lg_sl ([.ref q23, .int n1])).length) Slot.unset).toArray = ls at hl ⊢
  have hl : lv_has ls 2 [(0, .ref q23), (1, .int n1)] := hl
  refine lv_aload_n hx hb dX9_putFour_0 rfl (lv_at hl 0 rfl) ?_
  refine lv_iload_n hx hb dX9_putFour_1 rfl (lv_at hl 1 rfl) ?_
  refine lv_bipush (v := 24) hx hb dX9_putFour_2 (by decide) ?_
  refine lv_ishr hx hb dX9_putFour_4 ?_
  refine lv_topi (fun y24 _ => ?_)
  refine pq_callv hW [0, 1] [] (by decide) rfl rfl (fun f9 hw9 hC9 => va_runV (C := RX9) (As := [.int y24]) (rest := []) ⟨hx, hb, hml, hown, hts⟩ (c_X9_put l D cy _ L f9 q23 q24 F_q23 _ y24 12 13 (by decide) (by decide) (by decide) hC9 E_q23) (cwV 1 hts (pp_gV pp5 pp4 pp6 pp7 pp8) rfl rfl rfl pd_X9_put ⟨Nat.le_of_ble_eq_true rfl, Nat.le_of_ble_eq_true rfl⟩) (pq_preV hG hw9 hC9 (j := 0) rfl rfl) rfl rfl hl.1 rfl (lv_room (Nat.le_of_ble_eq_true rfl)) dX9_putFour_5 ⟨Nat.le_of_ble_eq_true rfl, Nat.le_of_ble_eq_true rfl⟩) (fun cs1 H locs hP hW => ?_)
  obtain ⟨F_q23, g_q24, rfl, E_q23⟩ := hP
  have hW : pq_W D _ s.heap L f _ [(q23, .inr (9, F_q23)), (q24, .inl (cy 0, 1000, .inl _))] H locs := hW
  refine lv_aload_n hx hb dX9_putFour_8 rfl (lv_at hl 0 rfl) ?_
  refine lv_iload_n hx hb dX9_putFour_9 rfl (lv_at hl 1 rfl) ?_
  refine lv_bipush (v := 16) hx hb dX9_putFour_10 (by decide) ?_
  refine lv_ishr hx hb dX9_putFour_12 ?_
  refine lv_topi (fun y25 _ => ?_)
  refine pq_callv hW [0, 1] [] (by decide) rfl rfl (fun f9 hw9 hC9 => va_runV (C := RX9) (As := [.int y25]) (rest := []) ⟨hx, hb, hml, hown, hts⟩ (c_X9_put l D cy _ L f9 q23 q24 F_q23 _ y25 13 14 (by decide) (by decide) (by decide) hC9 E_q23) (cwV 1 hts (pp_gV pp5 pp4 pp6 pp7 pp8) rfl rfl rfl pd_X9_put ⟨Nat.le_of_ble_eq_true rfl, Nat.le_of_ble_eq_true rfl⟩) (pq_preV hG hw9 hC9 (j := 0) rfl rfl) rfl rfl hl.1 rfl (lv_room (Nat.le_of_ble_eq_true rfl)) dX9_putFour_13 ⟨Nat.le_of_ble_eq_true rfl, Nat.le_of_ble_eq_true rfl⟩) (fun cs1 H locs hP hW => ?_)
  obtain ⟨F_q23, g_q24, rfl, E_q23⟩ := hP
  have hW : pq_W D _ s.heap L f _ [(q23, .inr (9, F_q23)), (q24, .inl (cy 0, 1000, .inl _))] H locs := hW
  refine lv_aload_n hx hb dX9_putFour_16 rfl (lv_at hl 0 rfl) ?_
  refine lv_iload_n hx hb dX9_putFour_17 rfl (lv_at hl 1 rfl) ?_
  refine lv_bipush (v := 8) hx hb dX9_putFour_18 (by decide) ?_
  refine lv_ishr hx hb dX9_putFour_20 ?_
  refine lv_topi (fun y26 _ => ?_)
  refine pq_callv hW [0, 1] [] (by decide) rfl rfl (fun f9 hw9 hC9 => va_runV (C := RX9) (As := [.int y26]) (rest := []) ⟨hx, hb, hml, hown, hts⟩ (c_X9_put l D cy _ L f9 q23 q24 F_q23 _ y26 14 15 (by decide) (by decide) (by decide) hC9 E_q23) (cwV 1 hts (pp_gV pp5 pp4 pp6 pp7 pp8) rfl rfl rfl pd_X9_put ⟨Nat.le_of_ble_eq_true rfl, Nat.le_of_ble_eq_true rfl⟩) (pq_preV hG hw9 hC9 (j := 0) rfl rfl) rfl rfl hl.1 rfl (lv_room (Nat.le_of_ble_eq_true rfl)) dX9_putFour_21 ⟨Nat.le_of_ble_eq_true rfl, Nat.le_of_ble_eq_true rfl⟩) (fun cs1 H locs hP hW => ?_)
  obtain ⟨F_q23, g_q24, rfl, E_q23⟩ := hP
  have hW : pq_W D _ s.heap L f _ [(q23, .inr (9, F_q23)), (q24, .inl (cy 0, 1000, .inl _))] H locs := hW
  refine lv_aload_n hx hb dX9_putFour_24 rfl (lv_at hl 0 rfl) ?_
  refine lv_iload_n hx hb dX9_putFour_25 rfl (lv_at hl 1 rfl) ?_
  refine pq_callv hW [0, 1] [] (by decide) rfl rfl (fun f9 hw9 hC9 => va_runV (C := RX9) (As := [.int n1]) (rest := []) ⟨hx, hb, hml, hown, hts⟩ (c_X9_put l D cy _ L f9 q23 q24 F_q23 _ n1 15 16 (by decide) (by decide) (by decide) hC9 E_q23) (cwV 1 hts (pp_gV pp5 pp4 pp6 pp7 pp8) rfl rfl rfl pd_X9_put ⟨Nat.le_of_ble_eq_true rfl, Nat.le_of_ble_eq_true rfl⟩) (pq_preV hG hw9 hC9 (j := 0) rfl rfl) rfl rfl hl.1 rfl (lv_room (Nat.le_of_ble_eq_true rfl)) dX9_putFour_26 ⟨Nat.le_of_ble_eq_true rfl, Nat.le_of_ble_eq_true rfl⟩) (fun cs1 H locs hP hW => ?_)
  obtain ⟨F_q23, g_q24, rfl, E_q23⟩ := hP
  have hW : pq_W D _ s.heap L f _ [(q23, .inr (9, F_q23)), (q24, .inl (cy 0, 1000, .inl _))] H locs := hW
  exact pq_vret hx hb hr hlocks hW ⟨_, _, rfl, E_q23⟩ dX9_putFour_29
set_option maxHeartbeats 4000000 in
set_option maxRecDepth 100000 in
/-- TongueHouse$Text.putFour on a new object -/
theorem c_X9_putFour_4 (l : Launch) (D : va_G) (cy : Nat → ClassId) (sz : Nat) (L : List Nat) (f : Nat → va_E) (q23 q24 : Nat) (F_q23 : List Value) (g_q24 : Nat → Int32) (n1 : Int32) (hC : pq_C L f [(q23, .inr (9, F_q23)), (q24, .inl (cy 0, 1000, .inl g_q24))]) (E_q23 : pq_E 10 F_q23 [(0, .ref q24), (1, .int 16), (5, .int 0), (6, .int 0), (7, .int 0)]) : Met l yX9_putFour (Cond.code yX9_putFour cX9_putFour 2 none :: pp_ws) ({ frames := 1, cells := 0, slots := 0, locals := 21 }) (pw_Pc D cy [.ref q23, .int n1] sz L f) (pq_Qv D sz L f [q23, q24] (fun cs1 => (∃ (F_q23 : List Value) (g_q24 : Nat → Int32), cs1 = [(q23, .inr (9, F_q23)), (q24, .inl (cy 0, 1000, .inl g_q24))] ∧ pq_E 10 F_q23 [(0, .ref q24), (1, .int 20), (5, .int 0), (6, .int 0), (7, .int 0)]))) 0 0 (pw_A L f sz) := by
  refine Met.ofW (cc := cX9_putFour) (maxL := 2) (ret := none) (by decide) rfl ?_
  intro p e s m args below meth c s₁ B hml hv
  obtain ⟨rfl, hsz, hG, hP, hD0⟩ := hv
  have hx := B.exec
  have hb := B.bytes
  have hr := B.returns
  have hts := atoms_spec (ws := Cond.code yX9_putFour cX9_putFour 2 none :: pp_ws) B.pre
  have hpp := fun (w : Cond) (h : w ∈ pp_ws) => hts w (List.mem_cons_of_mem _ h)
  have hown : s.vm.findClass RX9 = some m.cls := findClass_of_methodNamed B.named
  have hlocks := B.notSynchronized
  have hw := pw_start (cy := cy) hsz hP hD0
  have hW := pq_start (as := [q23, q24]) hw hC rfl
  have hl := lv_entry ([.ref q23, .int n1]) (n := 2) (Nat.le_of_ble_eq_true rfl)
  rw [lg_entry_eq]
  generalize (lg_sl ([.ref q23, .int n1]) ++ List.replicate (2 - (lg_sl ([.ref q23, .int n1])).length) Slot.unset).toArray = ls at hl ⊢
  have hl : lv_has ls 2 [(0, .ref q23), (1, .int n1)] := hl
  refine lv_aload_n hx hb dX9_putFour_0 rfl (lv_at hl 0 rfl) ?_
  refine lv_iload_n hx hb dX9_putFour_1 rfl (lv_at hl 1 rfl) ?_
  refine lv_bipush (v := 24) hx hb dX9_putFour_2 (by decide) ?_
  refine lv_ishr hx hb dX9_putFour_4 ?_
  refine lv_topi (fun y30 _ => ?_)
  refine pq_callv hW [0, 1] [] (by decide) rfl rfl (fun f9 hw9 hC9 => va_runV (C := RX9) (As := [.int y30]) (rest := []) ⟨hx, hb, hml, hown, hts⟩ (c_X9_put l D cy _ L f9 q23 q24 F_q23 _ y30 16 17 (by decide) (by decide) (by decide) hC9 E_q23) (cwV 1 hts (pp_gV pp5 pp4 pp6 pp7 pp8) rfl rfl rfl pd_X9_put ⟨Nat.le_of_ble_eq_true rfl, Nat.le_of_ble_eq_true rfl⟩) (pq_preV hG hw9 hC9 (j := 0) rfl rfl) rfl rfl hl.1 rfl (lv_room (Nat.le_of_ble_eq_true rfl)) dX9_putFour_5 ⟨Nat.le_of_ble_eq_true rfl, Nat.le_of_ble_eq_true rfl⟩) (fun cs1 H locs hP hW => ?_)
  obtain ⟨F_q23, g_q24, rfl, E_q23⟩ := hP
  have hW : pq_W D _ s.heap L f _ [(q23, .inr (9, F_q23)), (q24, .inl (cy 0, 1000, .inl _))] H locs := hW
  refine lv_aload_n hx hb dX9_putFour_8 rfl (lv_at hl 0 rfl) ?_
  refine lv_iload_n hx hb dX9_putFour_9 rfl (lv_at hl 1 rfl) ?_
  refine lv_bipush (v := 16) hx hb dX9_putFour_10 (by decide) ?_
  refine lv_ishr hx hb dX9_putFour_12 ?_
  refine lv_topi (fun y31 _ => ?_)
  refine pq_callv hW [0, 1] [] (by decide) rfl rfl (fun f9 hw9 hC9 => va_runV (C := RX9) (As := [.int y31]) (rest := []) ⟨hx, hb, hml, hown, hts⟩ (c_X9_put l D cy _ L f9 q23 q24 F_q23 _ y31 17 18 (by decide) (by decide) (by decide) hC9 E_q23) (cwV 1 hts (pp_gV pp5 pp4 pp6 pp7 pp8) rfl rfl rfl pd_X9_put ⟨Nat.le_of_ble_eq_true rfl, Nat.le_of_ble_eq_true rfl⟩) (pq_preV hG hw9 hC9 (j := 0) rfl rfl) rfl rfl hl.1 rfl (lv_room (Nat.le_of_ble_eq_true rfl)) dX9_putFour_13 ⟨Nat.le_of_ble_eq_true rfl, Nat.le_of_ble_eq_true rfl⟩) (fun cs1 H locs hP hW => ?_)
  obtain ⟨F_q23, g_q24, rfl, E_q23⟩ := hP
  have hW : pq_W D _ s.heap L f _ [(q23, .inr (9, F_q23)), (q24, .inl (cy 0, 1000, .inl _))] H locs := hW
  refine lv_aload_n hx hb dX9_putFour_16 rfl (lv_at hl 0 rfl) ?_
  refine lv_iload_n hx hb dX9_putFour_17 rfl (lv_at hl 1 rfl) ?_
  refine lv_bipush (v := 8) hx hb dX9_putFour_18 (by decide) ?_
  refine lv_ishr hx hb dX9_putFour_20 ?_
  refine lv_topi (fun y32 _ => ?_)
  refine pq_callv hW [0, 1] [] (by decide) rfl rfl (fun f9 hw9 hC9 => va_runV (C := RX9) (As := [.int y32]) (rest := []) ⟨hx, hb, hml, hown, hts⟩ (c_X9_put l D cy _ L f9 q23 q24 F_q23 _ y32 18 19 (by decide) (by decide) (by decide) hC9 E_q23) (cwV 1 hts (pp_gV pp5 pp4 pp6 pp7 pp8) rfl rfl rfl pd_X9_put ⟨Nat.le_of_ble_eq_true rfl, Nat.le_of_ble_eq_true rfl⟩) (pq_preV hG hw9 hC9 (j := 0) rfl rfl) rfl rfl hl.1 rfl (lv_room (Nat.le_of_ble_eq_true rfl)) dX9_putFour_21 ⟨Nat.le_of_ble_eq_true rfl, Nat.le_of_ble_eq_true rfl⟩) (fun cs1 H locs hP hW => ?_)
  obtain ⟨F_q23, g_q24, rfl, E_q23⟩ := hP
  have hW : pq_W D _ s.heap L f _ [(q23, .inr (9, F_q23)), (q24, .inl (cy 0, 1000, .inl _))] H locs := hW
  refine lv_aload_n hx hb dX9_putFour_24 rfl (lv_at hl 0 rfl) ?_
  refine lv_iload_n hx hb dX9_putFour_25 rfl (lv_at hl 1 rfl) ?_
  refine pq_callv hW [0, 1] [] (by decide) rfl rfl (fun f9 hw9 hC9 => va_runV (C := RX9) (As := [.int n1]) (rest := []) ⟨hx, hb, hml, hown, hts⟩ (c_X9_put l D cy _ L f9 q23 q24 F_q23 _ n1 19 20 (by decide) (by decide) (by decide) hC9 E_q23) (cwV 1 hts (pp_gV pp5 pp4 pp6 pp7 pp8) rfl rfl rfl pd_X9_put ⟨Nat.le_of_ble_eq_true rfl, Nat.le_of_ble_eq_true rfl⟩) (pq_preV hG hw9 hC9 (j := 0) rfl rfl) rfl rfl hl.1 rfl (lv_room (Nat.le_of_ble_eq_true rfl)) dX9_putFour_26 ⟨Nat.le_of_ble_eq_true rfl, Nat.le_of_ble_eq_true rfl⟩) (fun cs1 H locs hP hW => ?_)
  obtain ⟨F_q23, g_q24, rfl, E_q23⟩ := hP
  have hW : pq_W D _ s.heap L f _ [(q23, .inr (9, F_q23)), (q24, .inl (cy 0, 1000, .inl _))] H locs := hW
  exact pq_vret hx hb hr hlocks hW ⟨_, _, rfl, E_q23⟩ dX9_putFour_29
set_option maxHeartbeats 4000000 in
set_option maxRecDepth 100000 in
/-- TongueHouse.feed on a new object -/
theorem c_X12_feed (l : Launch) (D : va_G) (cy : Nat → ClassId) (sz : Nat) (L : List Nat) (f : Nat → va_E) {q1 q27 q39 q48 q61 q100 q114 q115 : Nat} (h0 q23 q24 : Nat) (F_h0 : List Value) (F_q23 : List Value) (g_q24 : Nat → Int32) (n1 : Int32) (n2 : Int32) (n3 : Int32) (n4 : Int32) (n5 : Int32) (hC : pq_C L f [(h0, .inr (12, F_h0)), (q23, .inr (9, F_q23)), (q24, .inl (cy 0, 1000, .inl g_q24))]) (E_h0 : pq_E 17 F_h0 [(0, .ref q1), (1, .ref q23), (2, .ref q27), (5, .ref q39), (6, .ref q48), (7, .ref q61), (10, .ref q100), (11, .ref q114), (12, .ref q115), (15, .int 0)]) (E_q23 : pq_E 10 F_q23 [(0, .ref q24), (1, .int 0), (5, .int 0), (6, .int 0), (7, .int 0)]) : Met l yX12_feed (Cond.code yX12_feed cX12_feed 6 (some .int) :: pp_ws) ({ frames := 2, cells := 0, slots := 0, locals := 42 }) (pw_Pc D cy [.ref h0, .int n1, .int n2, .int n3, .int n4, .int n5] sz L f) (pq_Qi D sz L f [h0, q23, q24] (fun r cs1 => r = 20 ∧ ¬ (False) ∧ cs1 = [])) 0 0 (pw_A L f sz) := by
  refine Met.ofW (cc := cX12_feed) (maxL := 6) (ret := (some .int)) (by decide) rfl ?_
  intro p e s m args below meth c s₁ B hml hv
  obtain ⟨rfl, hsz, hG, hP, hD0⟩ := hv
  have hx := B.exec
  have hb := B.bytes
  have hr := B.returns
  have hts := atoms_spec (ws := Cond.code yX12_feed cX12_feed 6 (some .int) :: pp_ws) B.pre
  have hpp := fun (w : Cond) (h : w ∈ pp_ws) => hts w (List.mem_cons_of_mem _ h)
  have hown : s.vm.findClass RX12 = some m.cls := findClass_of_methodNamed B.named
  have hlocks := B.notSynchronized
  have hw := pw_start (cy := cy) hsz hP hD0
  have hW := pq_start (as := [h0, q23, q24]) hw hC rfl
  have hl := lv_entry ([.ref h0, .int n1, .int n2, .int n3, .int n4, .int n5]) (n := 6) (Nat.le_of_ble_eq_true rfl)
  rw [lg_entry_eq]
  generalize (lg_sl ([.ref h0, .int n1, .int n2, .int n3, .int n4, .int n5]) ++ List.replicate (6 - (lg_sl ([.ref h0, .int n1, .int n2, .int n3, .int n4, .int n5])).length) Slot.unset).toArray = ls at hl ⊢
  have hl : lv_has ls 6 [(0, .ref h0), (1, .int n1), (2, .int n2), (3, .int n3), (4, .int n4), (5, .int n5)] := hl
  refine lv_aload_n hx hb dX12_feed_0 rfl (lv_at hl 0 rfl) ?_
  refine pq_get (own := RX12) (ci := 12) (C := RX12) (T := TX12) (N := 17) (k := 1) (v := .ref q23) hx hb hpp pi12 rfl hown hG hW 0 rfl E_h0 1 rfl (by decide) pp0 dX12_feed_1 ?_
  refine pq_get (own := RX12) (ci := 9) (C := RX9) (T := TX9) (N := 10) (k := 1) (v := .int 0) hx hb hpp pi9 rfl hown hG hW 1 rfl E_q23 1 rfl (by decide) pp1 dX12_feed_4 ?_
  refine lv_bipush (v := 20) hx hb dX12_feed_7 (by decide) ?_
  refine lv_iadd hx hb dX12_feed_9 ?_
  refine pq_topi (y := 20) (by decide) ?_
  refine lv_sipush (v := 1000) hx hb dX12_feed_10 (by decide) ?_
  refine lv_icmp_le (tgt := 26) hx hb dX12_feed_13 (by decide) (fun _ => ?_) (fun c9 => absurd c9 (by decide))
  refine lv_aload_n hx hb dX12_feed_26 rfl (lv_at hl 0 rfl) ?_
  refine pq_get (own := RX12) (ci := 12) (C := RX12) (T := TX12) (N := 17) (k := 1) (v := .ref q23) hx hb hpp pi12 rfl hown hG hW 0 rfl E_h0 1 rfl (by decide) pp0 dX12_feed_27 ?_
  refine lv_iload_n hx hb dX12_feed_30 rfl (lv_at hl 1 rfl) ?_
  refine pq_callv hW [1, 2] [0] (by decide) rfl rfl (fun f9 hw9 hC9 => va_runV (C := RX9) (As := [.int n1]) (rest := []) ⟨hx, hb, hml, hown, hts⟩ (c_X9_putFour l D cy _ L f9 q23 q24 F_q23 _ n1 hC9 E_q23) (cwV 1 hts (pp_gV pp10 pp9 pp11 pp12 pp8) rfl rfl rfl pd_X9_putFour ⟨Nat.le_of_ble_eq_true rfl, Nat.le_of_ble_eq_true rfl⟩) (pq_preV hG hw9 hC9 (j := 0) rfl rfl) rfl rfl hl.1 rfl (lv_room (Nat.le_of_ble_eq_true rfl)) dX12_feed_31 ⟨Nat.le_of_ble_eq_true rfl, Nat.le_of_ble_eq_true rfl⟩) (fun cs1 H locs hP hW => ?_)
  obtain ⟨F_q23, g_q24, rfl, E_q23⟩ := hP
  have hW : pq_W D _ s.heap L f _ [(q23, .inr (9, F_q23)), (q24, .inl (cy 0, 1000, .inl _)), (h0, .inr (12, F_h0))] H locs := hW
  refine lv_aload_n hx hb dX12_feed_34 rfl (lv_at hl 0 rfl) ?_
  refine pq_get (own := RX12) (ci := 12) (C := RX12) (T := TX12) (N := 17) (k := 1) (v := .ref q23) hx hb hpp pi12 rfl hown hG hW 2 rfl E_h0 1 rfl (by decide) pp0 dX12_feed_35 ?_
  refine lv_iload_n hx hb dX12_feed_38 rfl (lv_at hl 2 rfl) ?_
  refine pq_callv hW [0, 1] [2] (by decide) rfl rfl (fun f9 hw9 hC9 => va_runV (C := RX9) (As := [.int n2]) (rest := []) ⟨hx, hb, hml, hown, hts⟩ (c_X9_putFour_1 l D cy _ L f9 q23 q24 F_q23 _ n2 hC9 E_q23) (cwV 1 hts (pp_gV pp10 pp9 pp11 pp12 pp8) rfl rfl rfl pd_X9_putFour ⟨Nat.le_of_ble_eq_true rfl, Nat.le_of_ble_eq_true rfl⟩) (pq_preV hG hw9 hC9 (j := 0) rfl rfl) rfl rfl hl.1 rfl (lv_room (Nat.le_of_ble_eq_true rfl)) dX12_feed_39 ⟨Nat.le_of_ble_eq_true rfl, Nat.le_of_ble_eq_true rfl⟩) (fun cs1 H locs hP hW => ?_)
  obtain ⟨F_q23, g_q24, rfl, E_q23⟩ := hP
  have hW : pq_W D _ s.heap L f _ [(q23, .inr (9, F_q23)), (q24, .inl (cy 0, 1000, .inl _)), (h0, .inr (12, F_h0))] H locs := hW
  refine lv_aload_n hx hb dX12_feed_42 rfl (lv_at hl 0 rfl) ?_
  refine pq_get (own := RX12) (ci := 12) (C := RX12) (T := TX12) (N := 17) (k := 1) (v := .ref q23) hx hb hpp pi12 rfl hown hG hW 2 rfl E_h0 1 rfl (by decide) pp0 dX12_feed_43 ?_
  refine lv_iload_n hx hb dX12_feed_46 rfl (lv_at hl 3 rfl) ?_
  refine pq_callv hW [0, 1] [2] (by decide) rfl rfl (fun f9 hw9 hC9 => va_runV (C := RX9) (As := [.int n3]) (rest := []) ⟨hx, hb, hml, hown, hts⟩ (c_X9_putFour_2 l D cy _ L f9 q23 q24 F_q23 _ n3 hC9 E_q23) (cwV 1 hts (pp_gV pp10 pp9 pp11 pp12 pp8) rfl rfl rfl pd_X9_putFour ⟨Nat.le_of_ble_eq_true rfl, Nat.le_of_ble_eq_true rfl⟩) (pq_preV hG hw9 hC9 (j := 0) rfl rfl) rfl rfl hl.1 rfl (lv_room (Nat.le_of_ble_eq_true rfl)) dX12_feed_47 ⟨Nat.le_of_ble_eq_true rfl, Nat.le_of_ble_eq_true rfl⟩) (fun cs1 H locs hP hW => ?_)
  obtain ⟨F_q23, g_q24, rfl, E_q23⟩ := hP
  have hW : pq_W D _ s.heap L f _ [(q23, .inr (9, F_q23)), (q24, .inl (cy 0, 1000, .inl _)), (h0, .inr (12, F_h0))] H locs := hW
  refine lv_aload_n hx hb dX12_feed_50 rfl (lv_at hl 0 rfl) ?_
  refine pq_get (own := RX12) (ci := 12) (C := RX12) (T := TX12) (N := 17) (k := 1) (v := .ref q23) hx hb hpp pi12 rfl hown hG hW 2 rfl E_h0 1 rfl (by decide) pp0 dX12_feed_51 ?_
  refine lv_iload hx hb dX12_feed_54 (lv_at hl 4 rfl) ?_
  refine pq_callv hW [0, 1] [2] (by decide) rfl rfl (fun f9 hw9 hC9 => va_runV (C := RX9) (As := [.int n4]) (rest := []) ⟨hx, hb, hml, hown, hts⟩ (c_X9_putFour_3 l D cy _ L f9 q23 q24 F_q23 _ n4 hC9 E_q23) (cwV 1 hts (pp_gV pp10 pp9 pp11 pp12 pp8) rfl rfl rfl pd_X9_putFour ⟨Nat.le_of_ble_eq_true rfl, Nat.le_of_ble_eq_true rfl⟩) (pq_preV hG hw9 hC9 (j := 0) rfl rfl) rfl rfl hl.1 rfl (lv_room (Nat.le_of_ble_eq_true rfl)) dX12_feed_56 ⟨Nat.le_of_ble_eq_true rfl, Nat.le_of_ble_eq_true rfl⟩) (fun cs1 H locs hP hW => ?_)
  obtain ⟨F_q23, g_q24, rfl, E_q23⟩ := hP
  have hW : pq_W D _ s.heap L f _ [(q23, .inr (9, F_q23)), (q24, .inl (cy 0, 1000, .inl _)), (h0, .inr (12, F_h0))] H locs := hW
  refine lv_aload_n hx hb dX12_feed_59 rfl (lv_at hl 0 rfl) ?_
  refine pq_get (own := RX12) (ci := 12) (C := RX12) (T := TX12) (N := 17) (k := 1) (v := .ref q23) hx hb hpp pi12 rfl hown hG hW 2 rfl E_h0 1 rfl (by decide) pp0 dX12_feed_60 ?_
  refine lv_iload hx hb dX12_feed_63 (lv_at hl 5 rfl) ?_
  refine pq_callv hW [0, 1] [2] (by decide) rfl rfl (fun f9 hw9 hC9 => va_runV (C := RX9) (As := [.int n5]) (rest := []) ⟨hx, hb, hml, hown, hts⟩ (c_X9_putFour_4 l D cy _ L f9 q23 q24 F_q23 _ n5 hC9 E_q23) (cwV 1 hts (pp_gV pp10 pp9 pp11 pp12 pp8) rfl rfl rfl pd_X9_putFour ⟨Nat.le_of_ble_eq_true rfl, Nat.le_of_ble_eq_true rfl⟩) (pq_preV hG hw9 hC9 (j := 0) rfl rfl) rfl rfl hl.1 rfl (lv_room (Nat.le_of_ble_eq_true rfl)) dX12_feed_65 ⟨Nat.le_of_ble_eq_true rfl, Nat.le_of_ble_eq_true rfl⟩) (fun cs1 H locs hP hW => ?_)
  obtain ⟨F_q23, g_q24, rfl, E_q23⟩ := hP
  have hW : pq_W D _ s.heap L f _ [(q23, .inr (9, F_q23)), (q24, .inl (cy 0, 1000, .inl _)), (h0, .inr (12, F_h0))] H locs := hW
  refine lv_aload_n hx hb dX12_feed_68 rfl (lv_at hl 0 rfl) ?_
  refine pq_get (own := RX12) (ci := 12) (C := RX12) (T := TX12) (N := 17) (k := 1) (v := .ref q23) hx hb hpp pi12 rfl hown hG hW 2 rfl E_h0 1 rfl (by decide) pp0 dX12_feed_69 ?_
  refine pq_get (own := RX12) (ci := 9) (C := RX9) (T := TX9) (N := 10) (k := 1) (v := .int 20) hx hb hpp pi9 rfl hown hG hW 0 rfl E_q23 1 rfl (by decide) pp1 dX12_feed_72 ?_
  exact pq_iret hx hb hr hlocks rfl (hW.pick (cs2 := []) [] (by decide) rfl) ⟨rfl, not_false, rfl⟩ dX12_feed_75
theorem pz_X12_end_1 (n1 : Int32) (c1 : n1 < 0) : n1 < 0 ∨ 0 < n1 := by
  have k0 : (0 : Int32).toInt = 0 := by decide
  simp only [Int32.lt_iff_toInt_lt, Int32.le_iff_toInt_le, ← Int32.toInt_inj] at c1 ⊢
  omega
theorem pz_X12_end_2 (n1 : Int32) (c1 : ¬ n1 < 0) (c2 : n1 ≤ 0) : ¬ (n1 < 0 ∨ 0 < n1) := by
  have k0 : (0 : Int32).toInt = 0 := by decide
  simp only [Int32.lt_iff_toInt_lt, Int32.le_iff_toInt_le, ← Int32.toInt_inj] at c1 c2 ⊢
  omega
theorem pz_X12_end_3 (n1 : Int32) (c1 : ¬ n1 < 0) (c2 : ¬ n1 ≤ 0) : n1 < 0 ∨ 0 < n1 := by
  have k0 : (0 : Int32).toInt = 0 := by decide
  simp only [Int32.lt_iff_toInt_lt, Int32.le_iff_toInt_le, ← Int32.toInt_inj] at c1 c2 ⊢
  omega
set_option maxHeartbeats 4000000 in
set_option maxRecDepth 100000 in
/-- TongueHouse.end on a new object -/
theorem c_X12_end (l : Launch) (hst : l.stackTraces = false) (D : va_G) (cy : Nat → ClassId) (sa : Nat → Nat) (sz : Nat) (L : List Nat) (f : Nat → va_E) {q1 q24 q27 q39 q48 q61 q100 q114 q115 : Nat} (h0 q23 : Nat) (F_h0 : List Value) (F_q23 : List Value) (n1 : Int32) (hC : pq_C L f [(h0, .inr (12, F_h0)), (q23, .inr (9, F_q23))]) (E_h0 : pq_E 17 F_h0 [(0, .ref q1), (1, .ref q23), (2, .ref q27), (5, .ref q39), (6, .ref q48), (7, .ref q61), (10, .ref q100), (11, .ref q114), (12, .ref q115), (15, .int 0)]) (E_q23 : pq_E 10 F_q23 [(0, .ref q24), (1, .int 0), (5, .int 0), (6, .int 0), (7, .int 0)]) : vx_Met l yX12_end (Cond.code yX12_end cX12_end 2 (some .int) :: pp_ws) ({ frames := 6, cells := 1, slots := 6, locals := 100 }) (px_Pc D cy sa [.ref h0, .int n1] sz L f) (pq_Qi D sz L f [h0, q23] (fun r cs1 => r = n1 ∧ ¬ (n1 < 0 ∨ 0 < n1) ∧ cs1 = [])) (pq_T D sz L f [h0, q23] (fun E9 cs1 => E9 = px_IAE ∧ (n1 < 0 ∨ 0 < n1) ∧ cs1 = [])) 1 6 (pw_A L f sz) := by
  refine vx_ofW (cc := cX12_end) (maxL := 2) (ret := (some .int)) (by decide) rfl ?_
  intro p e s m args below meth c s₁ B hml hno hv
  obtain ⟨rfl, hsz, hG, hX, hP, hD0⟩ := hv
  have hx := B.exec
  have hb := B.bytes
  have hr := B.returns
  have hts := atoms_spec (ws := Cond.code yX12_end cX12_end 2 (some .int) :: pp_ws) B.pre
  have hpp := fun (w : Cond) (h : w ∈ pp_ws) => hts w (List.mem_cons_of_mem _ h)
  have hown : s.vm.findClass RX12 = some m.cls := findClass_of_methodNamed B.named
  have hlocks := B.notSynchronized
  have hw := pw_start (cy := cy) hsz hP hD0
  have hW := pq_start (as := [h0, q23]) hw hC rfl
  have hl := lv_entry ([.ref h0, .int n1]) (n := 2) (Nat.le_of_ble_eq_true rfl)
  rw [lg_entry_eq]
  generalize (lg_sl ([.ref h0, .int n1]) ++ List.replicate (2 - (lg_sl ([.ref h0, .int n1])).length) Slot.unset).toArray = ls at hl ⊢
  have hl : lv_has ls 2 [(0, .ref h0), (1, .int n1)] := hl
  refine lv_iload_n hx hb dX12_end_0 rfl (lv_at hl 1 rfl) ?_
  refine lv_if_lt (tgt := 15) hx hb dX12_end_1 (by decide) (fun c1 => ?_) (fun c1 => ?_)
  · exact px_throwI (text := "the tape has not so many bytes") (is := 117) hx hb hst hpp hown pp21 pp22 pi_at (by decide +kernel) hX (hW.pick (cs2 := []) [] (by decide) rfl) ⟨rfl, (pz_X12_end_1 n1 c1), rfl⟩ (hl.1.trans hml.symm) dX12_end_15 dX12_end_18 dX12_end_19 dX12_end_21 dX12_end_24 hno (Nat.le_of_ble_eq_true rfl) (Nat.le_of_ble_eq_true rfl) (Nat.le_of_ble_eq_true rfl) (Nat.le_of_ble_eq_true rfl) hlocks (Nat.le_of_ble_eq_true rfl) (Nat.le_of_ble_eq_true rfl)
  · refine lv_iload_n hx hb dX12_end_4 rfl (lv_at hl 1 rfl) ?_
    refine lv_aload_n hx hb dX12_end_5 rfl (lv_at hl 0 rfl) ?_
    refine pq_get (own := RX12) (ci := 12) (C := RX12) (T := TX12) (N := 17) (k := 1) (v := .ref q23) hx hb hpp pi12 rfl hown hG hW 0 rfl E_h0 1 rfl (by decide) pp0 dX12_end_6 ?_
    refine pq_get (own := RX12) (ci := 9) (C := RX9) (T := TX9) (N := 10) (k := 1) (v := .int 0) hx hb hpp pi9 rfl hown hG hW 1 rfl E_q23 1 rfl (by decide) pp1 dX12_end_9 ?_
    refine lv_icmp_le (tgt := 25) hx hb dX12_end_12 (by decide) (fun c2 => ?_) (fun c2 => ?_)
    · refine lv_aload_n hx hb dX12_end_25 rfl (lv_at hl 0 rfl) ?_
      refine pq_get (own := RX12) (ci := 12) (C := RX12) (T := TX12) (N := 17) (k := 1) (v := .ref q23) hx hb hpp pi12 rfl hown hG hW 0 rfl E_h0 1 rfl (by decide) pp0 dX12_end_26 ?_
      refine lv_iload_n hx hb dX12_end_29 rfl (lv_at hl 1 rfl) ?_
      refine pq_put (own := RX12) (ci := 9) (C := RX9) (T := TX9) (N := 10) (kv' := [(0, .ref q24), (1, .int n1), (5, .int 0), (6, .int 0), (7, .int 0)]) hx hb hpp pi9 tyX9 tyX9_ok nmX9 rfl hown hG hW 1 rfl E_q23 1 (by decide) rfl rfl rfl rfl pp1 dX12_end_30 (fun F_q23 H locs hW E_q23 => ?_)
      have hW : pq_W D _ s.heap L f _ [(h0, .inr (12, F_h0)), (q23, .inr (9, F_q23))] H locs := hW
      refine lv_iload_n hx hb dX12_end_33 rfl (lv_at hl 1 rfl) ?_
      exact px_iret hx hb hr hlocks rfl (hW.pick (cs2 := []) [] (by decide) rfl) ⟨rfl, (pz_X12_end_2 n1 c1 c2), rfl⟩ (Nat.le_of_ble_eq_true rfl) (Nat.le_of_ble_eq_true rfl) dX12_end_34
    · exact px_throwI (text := "the tape has not so many bytes") (is := 117) hx hb hst hpp hown pp21 pp22 pi_at (by decide +kernel) hX (hW.pick (cs2 := []) [] (by decide) rfl) ⟨rfl, (pz_X12_end_3 n1 c1 c2), rfl⟩ (hl.1.trans hml.symm) dX12_end_15 dX12_end_18 dX12_end_19 dX12_end_21 dX12_end_24 hno (Nat.le_of_ble_eq_true rfl) (Nat.le_of_ble_eq_true rfl) (Nat.le_of_ble_eq_true rfl) (Nat.le_of_ble_eq_true rfl) hlocks (Nat.le_of_ble_eq_true rfl) (Nat.le_of_ble_eq_true rfl)
end
