-- ===== PART A: goes FIRST, ahead of the names: the tables' words, and 'selects' of the private methods out of them =====
/-- a private method of a class that the tables say can be made, by its rows of tables_1 -/
def lw_okq (q : MethodName × Nat) : Prop := (q.1.cls ≠ "java/lang/invoke/MethodHandle" ∧ q.1.cls ≠ "java/lang/invoke/VarHandle") ∧ Cond.instantiable q.1.cls q.2 ∈ tables_1 ∧ Cond.privateMethod q.1 ∈ tables_1 ∧ Cond.instanceMethod q.1 ∈ tables_1
theorem pk9_t1 : ∀ w ∈ tables_1_1, w ∈ tables_1 := fun w h => List.mem_append_left _ h
theorem pk9_t2 : ∀ w ∈ tables_1_2, w ∈ tables_1 := fun w h => List.mem_append_right _ (List.mem_append_left _ h)
theorem pk9_t3 : ∀ w ∈ tables_1_3, w ∈ tables_1 := fun w h => List.mem_append_right _ (List.mem_append_right _ (List.mem_append_left _ h))
theorem pk9_t4 : ∀ w ∈ tables_1_4, w ∈ tables_1 := fun w h => List.mem_append_right _ (List.mem_append_right _ (List.mem_append_right _ (List.mem_append_left _ h)))
theorem pk9_t5 : ∀ w ∈ tables_1_5, w ∈ tables_1 := fun w h => List.mem_append_right _ (List.mem_append_right _ (List.mem_append_right _ (List.mem_append_right _ (List.mem_append_left _ h))))
theorem pk9_t6 : ∀ w ∈ tables_1_6, w ∈ tables_1 := fun w h => List.mem_append_right _ (List.mem_append_right _ (List.mem_append_right _ (List.mem_append_right _ (List.mem_append_right _ (List.mem_append_left _ h)))))
theorem pk9_t7 : ∀ w ∈ tables_1_7, w ∈ tables_1 := fun w h => List.mem_append_right _ (List.mem_append_right _ (List.mem_append_right _ (List.mem_append_right _ (List.mem_append_right _ (List.mem_append_right _ (List.mem_append_left _ h))))))
theorem pk9_t8 : ∀ w ∈ tables_1_8, w ∈ tables_1 := fun w h => List.mem_append_right _ (List.mem_append_right _ (List.mem_append_right _ (List.mem_append_right _ (List.mem_append_right _ (List.mem_append_right _ (List.mem_append_right _ (List.mem_append_left _ h)))))))
theorem pk9_t9 : ∀ w ∈ tables_1_9, w ∈ tables_1 := fun w h => List.mem_append_right _ (List.mem_append_right _ (List.mem_append_right _ (List.mem_append_right _ (List.mem_append_right _ (List.mem_append_right _ (List.mem_append_right _ (List.mem_append_right _ (List.mem_append_left _ h))))))))
theorem pk9_t10 : ∀ w ∈ tables_1_10, w ∈ tables_1 := fun w h => List.mem_append_right _ (List.mem_append_right _ (List.mem_append_right _ (List.mem_append_right _ (List.mem_append_right _ (List.mem_append_right _ (List.mem_append_right _ (List.mem_append_right _ (List.mem_append_right _ (List.mem_append_left _ h)))))))))
theorem pk9_t11 : ∀ w ∈ tables_1_11, w ∈ tables_1 := fun w h => List.mem_append_right _ (List.mem_append_right _ (List.mem_append_right _ (List.mem_append_right _ (List.mem_append_right _ (List.mem_append_right _ (List.mem_append_right _ (List.mem_append_right _ (List.mem_append_right _ (List.mem_append_right _ (List.mem_append_left _ h))))))))))
theorem pk9_t12 : ∀ w ∈ tables_1_12, w ∈ tables_1 := fun w h => List.mem_append_right _ (List.mem_append_right _ (List.mem_append_right _ (List.mem_append_right _ (List.mem_append_right _ (List.mem_append_right _ (List.mem_append_right _ (List.mem_append_right _ (List.mem_append_right _ (List.mem_append_right _ (List.mem_append_right _ (List.mem_append_left _ h)))))))))))
theorem pk9_t13 : ∀ w ∈ tables_1_13, w ∈ tables_1 := fun w h => List.mem_append_right _ (List.mem_append_right _ (List.mem_append_right _ (List.mem_append_right _ (List.mem_append_right _ (List.mem_append_right _ (List.mem_append_right _ (List.mem_append_right _ (List.mem_append_right _ (List.mem_append_right _ (List.mem_append_right _ (List.mem_append_right _ (List.mem_append_left _ h))))))))))))
theorem pk9_t14 : ∀ w ∈ tables_1_14, w ∈ tables_1 := fun w h => List.mem_append_right _ (List.mem_append_right _ (List.mem_append_right _ (List.mem_append_right _ (List.mem_append_right _ (List.mem_append_right _ (List.mem_append_right _ (List.mem_append_right _ (List.mem_append_right _ (List.mem_append_right _ (List.mem_append_right _ (List.mem_append_right _ (List.mem_append_right _ (List.mem_append_left _ h)))))))))))))
theorem pk9_t15 : ∀ w ∈ tables_1_15, w ∈ tables_1 := fun w h => List.mem_append_right _ (List.mem_append_right _ (List.mem_append_right _ (List.mem_append_right _ (List.mem_append_right _ (List.mem_append_right _ (List.mem_append_right _ (List.mem_append_right _ (List.mem_append_right _ (List.mem_append_right _ (List.mem_append_right _ (List.mem_append_right _ (List.mem_append_right _ (List.mem_append_right _ (h))))))))))))))
theorem lw_mk {c m d : String} {n : Nat} (h : (c ≠ "java/lang/invoke/MethodHandle" ∧ c ≠ "java/lang/invoke/VarHandle") ∧ Cond.instantiable c n ∈ tables_1) (a : Cond.privateMethod ⟨c, m, d⟩ ∈ tables_1) (b : Cond.instanceMethod ⟨c, m, d⟩ ∈ tables_1) : lw_okq (⟨c, m, d⟩, n) := ⟨h.1, h.2, a, b⟩
set_option maxRecDepth 100000 in
theorem lw_c0 : ("TongueHouse$Text" ≠ "java/lang/invoke/MethodHandle" ∧ "TongueHouse$Text" ≠ "java/lang/invoke/VarHandle") ∧ Cond.instantiable "TongueHouse$Text" 10 ∈ tables_1 := ⟨⟨by decide +kernel, by decide +kernel⟩, pk9_t1 _ (List.mem_of_getElem? (i := 171) rfl)⟩
set_option maxRecDepth 100000 in
theorem lw_c1 : ("TongueHouse$Reader" ≠ "java/lang/invoke/MethodHandle" ∧ "TongueHouse$Reader" ≠ "java/lang/invoke/VarHandle") ∧ Cond.instantiable "TongueHouse$Reader" 19 ∈ tables_1 := ⟨⟨by decide +kernel, by decide +kernel⟩, pk9_t1 _ (List.mem_of_getElem? (i := 233) rfl)⟩
set_option maxRecDepth 100000 in
theorem lw_c2 : ("TongueHouse$Ranking" ≠ "java/lang/invoke/MethodHandle" ∧ "TongueHouse$Ranking" ≠ "java/lang/invoke/VarHandle") ∧ Cond.instantiable "TongueHouse$Ranking" 19 ∈ tables_1 := ⟨⟨by decide +kernel, by decide +kernel⟩, pk9_t2 _ (List.mem_of_getElem? (i := 145) rfl)⟩
set_option maxRecDepth 100000 in
theorem lw_c3 : ("java/lang/Throwable" ≠ "java/lang/invoke/MethodHandle" ∧ "java/lang/Throwable" ≠ "java/lang/invoke/VarHandle") ∧ Cond.instantiable "java/lang/Throwable" 6 ∈ tables_1 := ⟨⟨by decide +kernel, by decide +kernel⟩, pk9_t6 _ (List.mem_of_getElem? (i := 146) rfl)⟩
set_option maxRecDepth 100000 in
theorem lw_c4 : ("TongueHouse" ≠ "java/lang/invoke/MethodHandle" ∧ "TongueHouse" ≠ "java/lang/invoke/VarHandle") ∧ Cond.instantiable "TongueHouse" 17 ∈ tables_1 := ⟨⟨by decide +kernel, by decide +kernel⟩, pk9_t1 _ (List.mem_of_getElem? (i := 29) rfl)⟩
set_option maxRecDepth 100000 in
theorem lw_c5 : ("TongueHouse$Forms" ≠ "java/lang/invoke/MethodHandle" ∧ "TongueHouse$Forms" ≠ "java/lang/invoke/VarHandle") ∧ Cond.instantiable "TongueHouse$Forms" 10 ∈ tables_1 := ⟨⟨by decide +kernel, by decide +kernel⟩, pk9_t4 _ (List.mem_of_getElem? (i := 60) rfl)⟩
set_option maxRecDepth 100000 in
theorem lw_c6 : ("TongueHouse$Finder" ≠ "java/lang/invoke/MethodHandle" ∧ "TongueHouse$Finder" ≠ "java/lang/invoke/VarHandle") ∧ Cond.instantiable "TongueHouse$Finder" 19 ∈ tables_1 := ⟨⟨by decide +kernel, by decide +kernel⟩, pk9_t3 _ (List.mem_of_getElem? (i := 84) rfl)⟩
set_option maxRecDepth 100000 in
theorem lw_c7 : ("TongueHouse$Chart" ≠ "java/lang/invoke/MethodHandle" ∧ "TongueHouse$Chart" ≠ "java/lang/invoke/VarHandle") ∧ Cond.instantiable "TongueHouse$Chart" 22 ∈ tables_1 := ⟨⟨by decide +kernel, by decide +kernel⟩, pk9_t2 _ (List.mem_of_getElem? (i := 59) rfl)⟩
set_option maxRecDepth 100000 in
theorem lw_c8 : ("TongueHouse$Sayer" ≠ "java/lang/invoke/MethodHandle" ∧ "TongueHouse$Sayer" ≠ "java/lang/invoke/VarHandle") ∧ Cond.instantiable "TongueHouse$Sayer" 14 ∈ tables_1 := ⟨⟨by decide +kernel, by decide +kernel⟩, pk9_t2 _ (List.mem_of_getElem? (i := 211) rfl)⟩
set_option maxRecDepth 100000 in
theorem lw_c9 : ("TongueHouse$Thought" ≠ "java/lang/invoke/MethodHandle" ∧ "TongueHouse$Thought" ≠ "java/lang/invoke/VarHandle") ∧ Cond.instantiable "TongueHouse$Thought" 19 ∈ tables_1 := ⟨⟨by decide +kernel, by decide +kernel⟩, pk9_t3 _ (List.mem_of_getElem? (i := 20) rfl)⟩
set_option maxRecDepth 100000 in
theorem lw_c10 : ("TongueHouseModel" ≠ "java/lang/invoke/MethodHandle" ∧ "TongueHouseModel" ≠ "java/lang/invoke/VarHandle") ∧ Cond.instantiable "TongueHouseModel" 229 ∈ tables_1 := ⟨⟨by decide +kernel, by decide +kernel⟩, pk9_t9 _ (List.mem_of_getElem? (i := 84) rfl)⟩
set_option maxRecDepth 100000 in
theorem lw_p0 : lw_okq (⟨"TongueHouse$Text", "takeName", "()V"⟩, 10) := lw_mk lw_c0 (pk9_t3 _ (List.mem_of_getElem? (i := 238) rfl)) (pk9_t3 _ (List.mem_of_getElem? (i := 239) rfl))
set_option maxRecDepth 100000 in
theorem lw_p1 : lw_okq (⟨"TongueHouse$Text", "takeNumber", "()V"⟩, 10) := lw_mk lw_c0 (pk9_t4 _ (List.mem_of_getElem? (i := 2) rfl)) (pk9_t4 _ (List.mem_of_getElem? (i := 3) rfl))
set_option maxRecDepth 100000 in
theorem lw_p2 : lw_okq (⟨"TongueHouse$Text", "takeLetters", "()V"⟩, 10) := lw_mk lw_c0 (pk9_t4 _ (List.mem_of_getElem? (i := 6) rfl)) (pk9_t4 _ (List.mem_of_getElem? (i := 7) rfl))
set_option maxRecDepth 100000 in
theorem lw_p3 : lw_okq (⟨"TongueHouse$Reader", "wrong", "(II)Z"⟩, 19) := lw_mk lw_c1 (pk9_t4 _ (List.mem_of_getElem? (i := 17) rfl)) (pk9_t4 _ (List.mem_of_getElem? (i := 18) rfl))
set_option maxRecDepth 100000 in
theorem lw_p4 : lw_okq (⟨"TongueHouse$Reader", "readTongue", "()Z"⟩, 19) := lw_mk lw_c1 (pk9_t4 _ (List.mem_of_getElem? (i := 23) rfl)) (pk9_t4 _ (List.mem_of_getElem? (i := 24) rfl))
set_option maxRecDepth 100000 in
theorem lw_p5 : lw_okq (⟨"TongueHouse$Reader", "need", "(I)Z"⟩, 19) := lw_mk lw_c1 (pk9_t4 _ (List.mem_of_getElem? (i := 27) rfl)) (pk9_t4 _ (List.mem_of_getElem? (i := 28) rfl))
set_option maxRecDepth 100000 in
theorem lw_p6 : lw_okq (⟨"TongueHouse$Reader", "closes", "(Z)Z"⟩, 19) := lw_mk lw_c1 (pk9_t4 _ (List.mem_of_getElem? (i := 39) rfl)) (pk9_t4 _ (List.mem_of_getElem? (i := 40) rfl))
set_option maxRecDepth 100000 in
theorem lw_p7 : lw_okq (⟨"TongueHouse$Reader", "take", "(I)Z"⟩, 19) := lw_mk lw_c1 (pk9_t4 _ (List.mem_of_getElem? (i := 43) rfl)) (pk9_t4 _ (List.mem_of_getElem? (i := 44) rfl))
set_option maxRecDepth 100000 in
theorem lw_p8 : lw_okq (⟨"TongueHouse$Reader", "readNewName", "(LTongueHouse$Names;)Z"⟩, 19) := lw_mk lw_c1 (pk9_t4 _ (List.mem_of_getElem? (i := 201) rfl)) (pk9_t4 _ (List.mem_of_getElem? (i := 202) rfl))
set_option maxRecDepth 100000 in
theorem lw_p9 : lw_okq (⟨"TongueHouse$Reader", "needNew", "(LTongueHouse$Names;)Z"⟩, 19) := lw_mk lw_c1 (pk9_t4 _ (List.mem_of_getElem? (i := 205) rfl)) (pk9_t4 _ (List.mem_of_getElem? (i := 206) rfl))
set_option maxRecDepth 100000 in
theorem lw_p10 : lw_okq (⟨"TongueHouse$Reader", "readFun", "()Z"⟩, 19) := lw_mk lw_c1 (pk9_t4 _ (List.mem_of_getElem? (i := 211) rfl)) (pk9_t4 _ (List.mem_of_getElem? (i := 212) rfl))
set_option maxRecDepth 100000 in
theorem lw_p11 : lw_okq (⟨"TongueHouse$Reader", "needKnown", "(LTongueHouse$Names;)Z"⟩, 19) := lw_mk lw_c1 (pk9_t4 _ (List.mem_of_getElem? (i := 215) rfl)) (pk9_t4 _ (List.mem_of_getElem? (i := 216) rfl))
set_option maxRecDepth 100000 in
theorem lw_p12 : lw_okq (⟨"TongueHouse$Reader", "readCost", "()Z"⟩, 19) := lw_mk lw_c1 (pk9_t4 _ (List.mem_of_getElem? (i := 219) rfl)) (pk9_t4 _ (List.mem_of_getElem? (i := 220) rfl))
set_option maxRecDepth 100000 in
theorem lw_p13 : lw_okq (⟨"TongueHouse$Reader", "isWord", "(J)Z"⟩, 19) := lw_mk lw_c1 (pk9_t4 _ (List.mem_of_getElem? (i := 224) rfl)) (pk9_t4 _ (List.mem_of_getElem? (i := 225) rfl))
set_option maxRecDepth 100000 in
theorem lw_p14 : lw_okq (⟨"TongueHouse$Reader", "readMean", "()Z"⟩, 19) := lw_mk lw_c1 (pk9_t4 _ (List.mem_of_getElem? (i := 230) rfl)) (pk9_t4 _ (List.mem_of_getElem? (i := 231) rfl))
set_option maxRecDepth 100000 in
theorem lw_p15 : lw_okq (⟨"TongueHouse$Reader", "readTerm", "(II)Z"⟩, 19) := lw_mk lw_c1 (pk9_t4 _ (List.mem_of_getElem? (i := 234) rfl)) (pk9_t4 _ (List.mem_of_getElem? (i := 235) rfl))
def lw_privs_1 : List (MethodName × Nat) := [(⟨"TongueHouse$Text", "takeName", "()V"⟩, 10), (⟨"TongueHouse$Text", "takeNumber", "()V"⟩, 10), (⟨"TongueHouse$Text", "takeLetters", "()V"⟩, 10), (⟨"TongueHouse$Reader", "wrong", "(II)Z"⟩, 19), (⟨"TongueHouse$Reader", "readTongue", "()Z"⟩, 19), (⟨"TongueHouse$Reader", "need", "(I)Z"⟩, 19), (⟨"TongueHouse$Reader", "closes", "(Z)Z"⟩, 19), (⟨"TongueHouse$Reader", "take", "(I)Z"⟩, 19), (⟨"TongueHouse$Reader", "readNewName", "(LTongueHouse$Names;)Z"⟩, 19), (⟨"TongueHouse$Reader", "needNew", "(LTongueHouse$Names;)Z"⟩, 19), (⟨"TongueHouse$Reader", "readFun", "()Z"⟩, 19), (⟨"TongueHouse$Reader", "needKnown", "(LTongueHouse$Names;)Z"⟩, 19), (⟨"TongueHouse$Reader", "readCost", "()Z"⟩, 19), (⟨"TongueHouse$Reader", "isWord", "(J)Z"⟩, 19), (⟨"TongueHouse$Reader", "readMean", "()Z"⟩, 19), (⟨"TongueHouse$Reader", "readTerm", "(II)Z"⟩, 19)]
theorem lw_r1 : ∀ q ∈ lw_privs_1, lw_okq q := List.forall_mem_cons.mpr ⟨lw_p0, List.forall_mem_cons.mpr ⟨lw_p1, List.forall_mem_cons.mpr ⟨lw_p2, List.forall_mem_cons.mpr ⟨lw_p3, List.forall_mem_cons.mpr ⟨lw_p4, List.forall_mem_cons.mpr ⟨lw_p5, List.forall_mem_cons.mpr ⟨lw_p6, List.forall_mem_cons.mpr ⟨lw_p7, List.forall_mem_cons.mpr ⟨lw_p8, List.forall_mem_cons.mpr ⟨lw_p9, List.forall_mem_cons.mpr ⟨lw_p10, List.forall_mem_cons.mpr ⟨lw_p11, List.forall_mem_cons.mpr ⟨lw_p12, List.forall_mem_cons.mpr ⟨lw_p13, List.forall_mem_cons.mpr ⟨lw_p14, List.forall_mem_cons.mpr ⟨lw_p15, fun _ h => absurd h List.not_mem_nil⟩⟩⟩⟩⟩⟩⟩⟩⟩⟩⟩⟩⟩⟩⟩⟩
set_option maxRecDepth 100000 in
theorem lw_p16 : lw_okq (⟨"TongueHouse$Reader", "readBinder", "(II)Z"⟩, 19) := lw_mk lw_c1 (pk9_t4 _ (List.mem_of_getElem? (i := 238) rfl)) (pk9_t4 _ (List.mem_of_getElem? (i := 239) rfl))
set_option maxRecDepth 100000 in
theorem lw_p17 : lw_okq (⟨"TongueHouse$Reader", "putNode", "(IIJ)V"⟩, 19) := lw_mk lw_c1 (pk9_t5 _ (List.mem_of_getElem? (i := 2) rfl)) (pk9_t5 _ (List.mem_of_getElem? (i := 3) rfl))
set_option maxRecDepth 100000 in
theorem lw_p18 : lw_okq (⟨"TongueHouse$Reader", "readAtom", "(II)Z"⟩, 19) := lw_mk lw_c1 (pk9_t5 _ (List.mem_of_getElem? (i := 6) rfl)) (pk9_t5 _ (List.mem_of_getElem? (i := 7) rfl))
set_option maxRecDepth 100000 in
theorem lw_p19 : lw_okq (⟨"TongueHouse$Reader", "readFact", "()Z"⟩, 19) := lw_mk lw_c1 (pk9_t5 _ (List.mem_of_getElem? (i := 12) rfl)) (pk9_t5 _ (List.mem_of_getElem? (i := 13) rfl))
set_option maxRecDepth 100000 in
theorem lw_p20 : lw_okq (⟨"TongueHouse$Reader", "readFeature", "()Z"⟩, 19) := lw_mk lw_c1 (pk9_t5 _ (List.mem_of_getElem? (i := 26) rfl)) (pk9_t5 _ (List.mem_of_getElem? (i := 27) rfl))
set_option maxRecDepth 100000 in
theorem lw_p21 : lw_okq (⟨"TongueHouse$Reader", "readClass", "()Z"⟩, 19) := lw_mk lw_c1 (pk9_t5 _ (List.mem_of_getElem? (i := 30) rfl)) (pk9_t5 _ (List.mem_of_getElem? (i := 31) rfl))
set_option maxRecDepth 100000 in
theorem lw_p22 : lw_okq (⟨"TongueHouse$Reader", "readSound", "()Z"⟩, 19) := lw_mk lw_c1 (pk9_t5 _ (List.mem_of_getElem? (i := 38) rfl)) (pk9_t5 _ (List.mem_of_getElem? (i := 39) rfl))
set_option maxRecDepth 100000 in
theorem lw_p23 : lw_okq (⟨"TongueHouse$Reader", "readContext", "(I)Z"⟩, 19) := lw_mk lw_c1 (pk9_t5 _ (List.mem_of_getElem? (i := 43) rfl)) (pk9_t5 _ (List.mem_of_getElem? (i := 44) rfl))
set_option maxRecDepth 100000 in
theorem lw_p24 : lw_okq (⟨"TongueHouse$Reader", "keepLetters", "()I"⟩, 19) := lw_mk lw_c1 (pk9_t5 _ (List.mem_of_getElem? (i := 47) rfl)) (pk9_t5 _ (List.mem_of_getElem? (i := 48) rfl))
set_option maxRecDepth 100000 in
theorem lw_p25 : lw_okq (⟨"TongueHouse$Reader", "readSide", "(II)Z"⟩, 19) := lw_mk lw_c1 (pk9_t5 _ (List.mem_of_getElem? (i := 55) rfl)) (pk9_t5 _ (List.mem_of_getElem? (i := 56) rfl))
set_option maxRecDepth 100000 in
theorem lw_p26 : lw_okq (⟨"TongueHouse$Reader", "readPattern", "()Z"⟩, 19) := lw_mk lw_c1 (pk9_t5 _ (List.mem_of_getElem? (i := 59) rfl)) (pk9_t5 _ (List.mem_of_getElem? (i := 60) rfl))
set_option maxRecDepth 100000 in
theorem lw_p27 : lw_okq (⟨"TongueHouse$Reader", "readParent", "()Z"⟩, 19) := lw_mk lw_c1 (pk9_t5 _ (List.mem_of_getElem? (i := 64) rfl)) (pk9_t5 _ (List.mem_of_getElem? (i := 65) rfl))
set_option maxRecDepth 100000 in
theorem lw_p28 : lw_okq (⟨"TongueHouse$Reader", "readCell", "()Z"⟩, 19) := lw_mk lw_c1 (pk9_t5 _ (List.mem_of_getElem? (i := 68) rfl)) (pk9_t5 _ (List.mem_of_getElem? (i := 69) rfl))
set_option maxRecDepth 100000 in
theorem lw_p29 : lw_okq (⟨"TongueHouse$Reader", "readValues", "(Z)Z"⟩, 19) := lw_mk lw_c1 (pk9_t5 _ (List.mem_of_getElem? (i := 72) rfl)) (pk9_t5 _ (List.mem_of_getElem? (i := 73) rfl))
set_option maxRecDepth 100000 in
theorem lw_p30 : lw_okq (⟨"TongueHouse$Reader", "readPart", "()Z"⟩, 19) := lw_mk lw_c1 (pk9_t5 _ (List.mem_of_getElem? (i := 79) rfl)) (pk9_t5 _ (List.mem_of_getElem? (i := 80) rfl))
set_option maxRecDepth 100000 in
theorem lw_p31 : lw_okq (⟨"TongueHouse$Reader", "placeCell", "()Z"⟩, 19) := lw_mk lw_c1 (pk9_t5 _ (List.mem_of_getElem? (i := 83) rfl)) (pk9_t5 _ (List.mem_of_getElem? (i := 84) rfl))
def lw_privs_2 : List (MethodName × Nat) := [(⟨"TongueHouse$Reader", "readBinder", "(II)Z"⟩, 19), (⟨"TongueHouse$Reader", "putNode", "(IIJ)V"⟩, 19), (⟨"TongueHouse$Reader", "readAtom", "(II)Z"⟩, 19), (⟨"TongueHouse$Reader", "readFact", "()Z"⟩, 19), (⟨"TongueHouse$Reader", "readFeature", "()Z"⟩, 19), (⟨"TongueHouse$Reader", "readClass", "()Z"⟩, 19), (⟨"TongueHouse$Reader", "readSound", "()Z"⟩, 19), (⟨"TongueHouse$Reader", "readContext", "(I)Z"⟩, 19), (⟨"TongueHouse$Reader", "keepLetters", "()I"⟩, 19), (⟨"TongueHouse$Reader", "readSide", "(II)Z"⟩, 19), (⟨"TongueHouse$Reader", "readPattern", "()Z"⟩, 19), (⟨"TongueHouse$Reader", "readParent", "()Z"⟩, 19), (⟨"TongueHouse$Reader", "readCell", "()Z"⟩, 19), (⟨"TongueHouse$Reader", "readValues", "(Z)Z"⟩, 19), (⟨"TongueHouse$Reader", "readPart", "()Z"⟩, 19), (⟨"TongueHouse$Reader", "placeCell", "()Z"⟩, 19)]
theorem lw_r2 : ∀ q ∈ lw_privs_2, lw_okq q := List.forall_mem_cons.mpr ⟨lw_p16, List.forall_mem_cons.mpr ⟨lw_p17, List.forall_mem_cons.mpr ⟨lw_p18, List.forall_mem_cons.mpr ⟨lw_p19, List.forall_mem_cons.mpr ⟨lw_p20, List.forall_mem_cons.mpr ⟨lw_p21, List.forall_mem_cons.mpr ⟨lw_p22, List.forall_mem_cons.mpr ⟨lw_p23, List.forall_mem_cons.mpr ⟨lw_p24, List.forall_mem_cons.mpr ⟨lw_p25, List.forall_mem_cons.mpr ⟨lw_p26, List.forall_mem_cons.mpr ⟨lw_p27, List.forall_mem_cons.mpr ⟨lw_p28, List.forall_mem_cons.mpr ⟨lw_p29, List.forall_mem_cons.mpr ⟨lw_p30, List.forall_mem_cons.mpr ⟨lw_p31, fun _ h => absurd h List.not_mem_nil⟩⟩⟩⟩⟩⟩⟩⟩⟩⟩⟩⟩⟩⟩⟩⟩
set_option maxRecDepth 100000 in
theorem lw_p32 : lw_okq (⟨"TongueHouse$Reader", "readWord", "()Z"⟩, 19) := lw_mk lw_c1 (pk9_t5 _ (List.mem_of_getElem? (i := 90) rfl)) (pk9_t5 _ (List.mem_of_getElem? (i := 91) rfl))
set_option maxRecDepth 100000 in
theorem lw_p33 : lw_okq (⟨"TongueHouse$Reader", "readStems", "()Z"⟩, 19) := lw_mk lw_c1 (pk9_t5 _ (List.mem_of_getElem? (i := 94) rfl)) (pk9_t5 _ (List.mem_of_getElem? (i := 95) rfl))
set_option maxRecDepth 100000 in
theorem lw_p34 : lw_okq (⟨"TongueHouse$Reader", "readHas", "()Z"⟩, 19) := lw_mk lw_c1 (pk9_t5 _ (List.mem_of_getElem? (i := 98) rfl)) (pk9_t5 _ (List.mem_of_getElem? (i := 99) rfl))
set_option maxRecDepth 100000 in
theorem lw_p35 : lw_okq (⟨"TongueHouse$Reader", "readLin", "()Z"⟩, 19) := lw_mk lw_c1 (pk9_t5 _ (List.mem_of_getElem? (i := 103) rfl)) (pk9_t5 _ (List.mem_of_getElem? (i := 104) rfl))
set_option maxRecDepth 100000 in
theorem lw_p36 : lw_okq (⟨"TongueHouse$Reader", "readItems", "(LTongueHouse$Lin;)Z"⟩, 19) := lw_mk lw_c1 (pk9_t5 _ (List.mem_of_getElem? (i := 197) rfl)) (pk9_t5 _ (List.mem_of_getElem? (i := 198) rfl))
set_option maxRecDepth 100000 in
theorem lw_p37 : lw_okq (⟨"TongueHouse$Reader", "readArgument", "(LTongueHouse$Lin;)Z"⟩, 19) := lw_mk lw_c1 (pk9_t5 _ (List.mem_of_getElem? (i := 201) rfl)) (pk9_t5 _ (List.mem_of_getElem? (i := 202) rfl))
set_option maxRecDepth 100000 in
theorem lw_p38 : lw_okq (⟨"TongueHouse$Reader", "readSaids", "(LTongueHouse$Lin;)Z"⟩, 19) := lw_mk lw_c1 (pk9_t5 _ (List.mem_of_getElem? (i := 205) rfl)) (pk9_t5 _ (List.mem_of_getElem? (i := 206) rfl))
set_option maxRecDepth 100000 in
theorem lw_p39 : lw_okq (⟨"TongueHouse$Reader", "readAgree", "(LTongueHouse$Lin;)Z"⟩, 19) := lw_mk lw_c1 (pk9_t5 _ (List.mem_of_getElem? (i := 211) rfl)) (pk9_t5 _ (List.mem_of_getElem? (i := 212) rfl))
set_option maxRecDepth 100000 in
theorem lw_p40 : lw_okq (⟨"TongueHouse$Reader", "needArgument", "(LTongueHouse$Lin;)Z"⟩, 19) := lw_mk lw_c1 (pk9_t5 _ (List.mem_of_getElem? (i := 215) rfl)) (pk9_t5 _ (List.mem_of_getElem? (i := 216) rfl))
set_option maxRecDepth 100000 in
theorem lw_p41 : lw_okq (⟨"TongueHouse$Reader", "readGive", "(LTongueHouse$Lin;)Z"⟩, 19) := lw_mk lw_c1 (pk9_t5 _ (List.mem_of_getElem? (i := 219) rfl)) (pk9_t5 _ (List.mem_of_getElem? (i := 220) rfl))
set_option maxRecDepth 100000 in
theorem lw_p42 : lw_okq (⟨"TongueHouse$Ranking", "funOf", "(I)I"⟩, 19) := lw_mk lw_c2 (pk9_t6 _ (List.mem_of_getElem? (i := 11) rfl)) (pk9_t6 _ (List.mem_of_getElem? (i := 12) rfl))
set_option maxRecDepth 100000 in
theorem lw_p43 : lw_okq (⟨"TongueHouse$Ranking", "slotsOf", "(I)I"⟩, 19) := lw_mk lw_c2 (pk9_t6 _ (List.mem_of_getElem? (i := 19) rfl)) (pk9_t6 _ (List.mem_of_getElem? (i := 20) rfl))
set_option maxRecDepth 100000 in
theorem lw_p44 : lw_okq (⟨"TongueHouse$Ranking", "rank", "()V"⟩, 19) := lw_mk lw_c2 (pk9_t6 _ (List.mem_of_getElem? (i := 38) rfl)) (pk9_t6 _ (List.mem_of_getElem? (i := 39) rfl))
set_option maxRecDepth 100000 in
theorem lw_p45 : lw_okq (⟨"TongueHouse$Ranking", "reach", "()V"⟩, 19) := lw_mk lw_c2 (pk9_t6 _ (List.mem_of_getElem? (i := 42) rfl)) (pk9_t6 _ (List.mem_of_getElem? (i := 43) rfl))
set_option maxRecDepth 100000 in
theorem lw_p46 : lw_okq (⟨"TongueHouse$Ranking", "sortWays", "()V"⟩, 19) := lw_mk lw_c2 (pk9_t6 _ (List.mem_of_getElem? (i := 46) rfl)) (pk9_t6 _ (List.mem_of_getElem? (i := 47) rfl))
set_option maxRecDepth 100000 in
theorem lw_p47 : lw_okq (⟨"TongueHouse$Ranking", "merge", "(III)V"⟩, 19) := lw_mk lw_c2 (pk9_t6 _ (List.mem_of_getElem? (i := 53) rfl)) (pk9_t6 _ (List.mem_of_getElem? (i := 54) rfl))
def lw_privs_3 : List (MethodName × Nat) := [(⟨"TongueHouse$Reader", "readWord", "()Z"⟩, 19), (⟨"TongueHouse$Reader", "readStems", "()Z"⟩, 19), (⟨"TongueHouse$Reader", "readHas", "()Z"⟩, 19), (⟨"TongueHouse$Reader", "readLin", "()Z"⟩, 19), (⟨"TongueHouse$Reader", "readItems", "(LTongueHouse$Lin;)Z"⟩, 19), (⟨"TongueHouse$Reader", "readArgument", "(LTongueHouse$Lin;)Z"⟩, 19), (⟨"TongueHouse$Reader", "readSaids", "(LTongueHouse$Lin;)Z"⟩, 19), (⟨"TongueHouse$Reader", "readAgree", "(LTongueHouse$Lin;)Z"⟩, 19), (⟨"TongueHouse$Reader", "needArgument", "(LTongueHouse$Lin;)Z"⟩, 19), (⟨"TongueHouse$Reader", "readGive", "(LTongueHouse$Lin;)Z"⟩, 19), (⟨"TongueHouse$Ranking", "funOf", "(I)I"⟩, 19), (⟨"TongueHouse$Ranking", "slotsOf", "(I)I"⟩, 19), (⟨"TongueHouse$Ranking", "rank", "()V"⟩, 19), (⟨"TongueHouse$Ranking", "reach", "()V"⟩, 19), (⟨"TongueHouse$Ranking", "sortWays", "()V"⟩, 19), (⟨"TongueHouse$Ranking", "merge", "(III)V"⟩, 19)]
theorem lw_r3 : ∀ q ∈ lw_privs_3, lw_okq q := List.forall_mem_cons.mpr ⟨lw_p32, List.forall_mem_cons.mpr ⟨lw_p33, List.forall_mem_cons.mpr ⟨lw_p34, List.forall_mem_cons.mpr ⟨lw_p35, List.forall_mem_cons.mpr ⟨lw_p36, List.forall_mem_cons.mpr ⟨lw_p37, List.forall_mem_cons.mpr ⟨lw_p38, List.forall_mem_cons.mpr ⟨lw_p39, List.forall_mem_cons.mpr ⟨lw_p40, List.forall_mem_cons.mpr ⟨lw_p41, List.forall_mem_cons.mpr ⟨lw_p42, List.forall_mem_cons.mpr ⟨lw_p43, List.forall_mem_cons.mpr ⟨lw_p44, List.forall_mem_cons.mpr ⟨lw_p45, List.forall_mem_cons.mpr ⟨lw_p46, List.forall_mem_cons.mpr ⟨lw_p47, fun _ h => absurd h List.not_mem_nil⟩⟩⟩⟩⟩⟩⟩⟩⟩⟩⟩⟩⟩⟩⟩⟩
set_option maxRecDepth 100000 in
theorem lw_p48 : lw_okq (⟨"TongueHouse$Ranking", "compare", "(II)I"⟩, 19) := lw_mk lw_c2 (pk9_t6 _ (List.mem_of_getElem? (i := 57) rfl)) (pk9_t6 _ (List.mem_of_getElem? (i := 58) rfl))
set_option maxRecDepth 100000 in
theorem lw_p49 : lw_okq (⟨"TongueHouse$Ranking", "compareArguments", "(III)I"⟩, 19) := lw_mk lw_c2 (pk9_t6 _ (List.mem_of_getElem? (i := 61) rfl)) (pk9_t6 _ (List.mem_of_getElem? (i := 62) rfl))
set_option maxRecDepth 100000 in
theorem lw_p50 : lw_okq (⟨"TongueHouse$Ranking", "ownPrice", "(I)I"⟩, 19) := lw_mk lw_c2 (pk9_t6 _ (List.mem_of_getElem? (i := 65) rfl)) (pk9_t6 _ (List.mem_of_getElem? (i := 66) rfl))
set_option maxRecDepth 100000 in
theorem lw_p51 : lw_okq (⟨"TongueHouse$Ranking", "choose", "(IIIII)V"⟩, 19) := lw_mk lw_c2 (pk9_t6 _ (List.mem_of_getElem? (i := 73) rfl)) (pk9_t6 _ (List.mem_of_getElem? (i := 74) rfl))
set_option maxRecDepth 100000 in
theorem lw_p52 : lw_okq (⟨"TongueHouse$Ranking", "putList", "(III)V"⟩, 19) := lw_mk lw_c2 (pk9_t6 _ (List.mem_of_getElem? (i := 77) rfl)) (pk9_t6 _ (List.mem_of_getElem? (i := 78) rfl))
set_option maxRecDepth 100000 in
theorem lw_p53 : lw_okq (⟨"TongueHouse$Ranking", "putTop", "(I)V"⟩, 19) := lw_mk lw_c2 (pk9_t6 _ (List.mem_of_getElem? (i := 81) rfl)) (pk9_t6 _ (List.mem_of_getElem? (i := 82) rfl))
set_option maxRecDepth 100000 in
theorem lw_p54 : lw_okq (⟨"TongueHouse$Ranking", "comesBefore", "(II)Z"⟩, 19) := lw_mk lw_c2 (pk9_t6 _ (List.mem_of_getElem? (i := 85) rfl)) (pk9_t6 _ (List.mem_of_getElem? (i := 86) rfl))
set_option maxRecDepth 100000 in
theorem lw_p55 : lw_okq (⟨"java/lang/Throwable", "fillInStackTrace", "(I)Ljava/lang/Throwable;"⟩, 6) := lw_mk lw_c3 (pk9_t6 _ (List.mem_of_getElem? (i := 144) rfl)) (pk9_t6 _ (List.mem_of_getElem? (i := 145) rfl))
set_option maxRecDepth 100000 in
theorem lw_p56 : lw_okq (⟨"TongueHouse", "tongueAt", "(I)LTongueHouse$Tongue;"⟩, 17) := lw_mk lw_c4 (pk9_t6 _ (List.mem_of_getElem? (i := 211) rfl)) (pk9_t6 _ (List.mem_of_getElem? (i := 212) rfl))
set_option maxRecDepth 100000 in
theorem lw_p57 : lw_okq (⟨"TongueHouse$Forms", "soundAll", "(LTongueHouse$Tongue;I)I"⟩, 10) := lw_mk lw_c5 (pk9_t7 _ (List.mem_of_getElem? (i := 2) rfl)) (pk9_t7 _ (List.mem_of_getElem? (i := 3) rfl))
set_option maxRecDepth 100000 in
theorem lw_p58 : lw_okq (⟨"TongueHouse$Forms", "soundOnce", "(LTongueHouse$Tongue;II)I"⟩, 10) := lw_mk lw_c5 (pk9_t7 _ (List.mem_of_getElem? (i := 6) rfl)) (pk9_t7 _ (List.mem_of_getElem? (i := 7) rfl))
set_option maxRecDepth 100000 in
theorem lw_p59 : lw_okq (⟨"TongueHouse$Forms", "fitsAt", "(LTongueHouse$Tongue;I[BII)I"⟩, 10) := lw_mk lw_c5 (pk9_t7 _ (List.mem_of_getElem? (i := 10) rfl)) (pk9_t7 _ (List.mem_of_getElem? (i := 11) rfl))
set_option maxRecDepth 100000 in
theorem lw_p60 : lw_okq (⟨"TongueHouse$Forms", "leftFits", "(LTongueHouse$Tongue;II)Z"⟩, 10) := lw_mk lw_c5 (pk9_t7 _ (List.mem_of_getElem? (i := 14) rfl)) (pk9_t7 _ (List.mem_of_getElem? (i := 15) rfl))
set_option maxRecDepth 100000 in
theorem lw_p61 : lw_okq (⟨"TongueHouse$Forms", "rightFits", "(LTongueHouse$Tongue;III)Z"⟩, 10) := lw_mk lw_c5 (pk9_t7 _ (List.mem_of_getElem? (i := 18) rfl)) (pk9_t7 _ (List.mem_of_getElem? (i := 19) rfl))
set_option maxRecDepth 100000 in
theorem lw_p62 : lw_okq (⟨"TongueHouse$Forms", "join", "(LTongueHouse$Tongue;II)I"⟩, 10) := lw_mk lw_c5 (pk9_t7 _ (List.mem_of_getElem? (i := 41) rfl)) (pk9_t7 _ (List.mem_of_getElem? (i := 42) rfl))
set_option maxRecDepth 100000 in
theorem lw_p63 : lw_okq (⟨"TongueHouse$Finder", "countEndings", "(LTongueHouse$Tongue;LTongueHouse$Text;I)V"⟩, 19) := lw_mk lw_c6 (pk9_t7 _ (List.mem_of_getElem? (i := 103) rfl)) (pk9_t7 _ (List.mem_of_getElem? (i := 104) rfl))
def lw_privs_4 : List (MethodName × Nat) := [(⟨"TongueHouse$Ranking", "compare", "(II)I"⟩, 19), (⟨"TongueHouse$Ranking", "compareArguments", "(III)I"⟩, 19), (⟨"TongueHouse$Ranking", "ownPrice", "(I)I"⟩, 19), (⟨"TongueHouse$Ranking", "choose", "(IIIII)V"⟩, 19), (⟨"TongueHouse$Ranking", "putList", "(III)V"⟩, 19), (⟨"TongueHouse$Ranking", "putTop", "(I)V"⟩, 19), (⟨"TongueHouse$Ranking", "comesBefore", "(II)Z"⟩, 19), (⟨"java/lang/Throwable", "fillInStackTrace", "(I)Ljava/lang/Throwable;"⟩, 6), (⟨"TongueHouse", "tongueAt", "(I)LTongueHouse$Tongue;"⟩, 17), (⟨"TongueHouse$Forms", "soundAll", "(LTongueHouse$Tongue;I)I"⟩, 10), (⟨"TongueHouse$Forms", "soundOnce", "(LTongueHouse$Tongue;II)I"⟩, 10), (⟨"TongueHouse$Forms", "fitsAt", "(LTongueHouse$Tongue;I[BII)I"⟩, 10), (⟨"TongueHouse$Forms", "leftFits", "(LTongueHouse$Tongue;II)Z"⟩, 10), (⟨"TongueHouse$Forms", "rightFits", "(LTongueHouse$Tongue;III)Z"⟩, 10), (⟨"TongueHouse$Forms", "join", "(LTongueHouse$Tongue;II)I"⟩, 10), (⟨"TongueHouse$Finder", "countEndings", "(LTongueHouse$Tongue;LTongueHouse$Text;I)V"⟩, 19)]
theorem lw_r4 : ∀ q ∈ lw_privs_4, lw_okq q := List.forall_mem_cons.mpr ⟨lw_p48, List.forall_mem_cons.mpr ⟨lw_p49, List.forall_mem_cons.mpr ⟨lw_p50, List.forall_mem_cons.mpr ⟨lw_p51, List.forall_mem_cons.mpr ⟨lw_p52, List.forall_mem_cons.mpr ⟨lw_p53, List.forall_mem_cons.mpr ⟨lw_p54, List.forall_mem_cons.mpr ⟨lw_p55, List.forall_mem_cons.mpr ⟨lw_p56, List.forall_mem_cons.mpr ⟨lw_p57, List.forall_mem_cons.mpr ⟨lw_p58, List.forall_mem_cons.mpr ⟨lw_p59, List.forall_mem_cons.mpr ⟨lw_p60, List.forall_mem_cons.mpr ⟨lw_p61, List.forall_mem_cons.mpr ⟨lw_p62, List.forall_mem_cons.mpr ⟨lw_p63, fun _ h => absurd h List.not_mem_nil⟩⟩⟩⟩⟩⟩⟩⟩⟩⟩⟩⟩⟩⟩⟩⟩
set_option maxRecDepth 100000 in
theorem lw_p64 : lw_okq (⟨"TongueHouse", "checkKind", "(I)V"⟩, 17) := lw_mk lw_c4 (pk9_t7 _ (List.mem_of_getElem? (i := 129) rfl)) (pk9_t7 _ (List.mem_of_getElem? (i := 130) rfl))
set_option maxRecDepth 100000 in
theorem lw_p65 : lw_okq (⟨"TongueHouse", "parseTape", "(LTongueHouse$Tongue;I)I"⟩, 17) := lw_mk lw_c4 (pk9_t7 _ (List.mem_of_getElem? (i := 134) rfl)) (pk9_t7 _ (List.mem_of_getElem? (i := 135) rfl))
set_option maxRecDepth 100000 in
theorem lw_p66 : lw_okq (⟨"TongueHouse$Chart", "orderLins", "()V"⟩, 22) := lw_mk lw_c7 (pk9_t7 _ (List.mem_of_getElem? (i := 159) rfl)) (pk9_t7 _ (List.mem_of_getElem? (i := 160) rfl))
set_option maxRecDepth 100000 in
theorem lw_p67 : lw_okq (⟨"TongueHouse$Chart", "fillSpan", "(IIII)V"⟩, 22) := lw_mk lw_c7 (pk9_t7 _ (List.mem_of_getElem? (i := 164) rfl)) (pk9_t7 _ (List.mem_of_getElem? (i := 165) rfl))
set_option maxRecDepth 100000 in
theorem lw_p68 : lw_okq (⟨"TongueHouse$Chart", "layForms", "(II)V"⟩, 22) := lw_mk lw_c7 (pk9_t7 _ (List.mem_of_getElem? (i := 168) rfl)) (pk9_t7 _ (List.mem_of_getElem? (i := 169) rfl))
set_option maxRecDepth 100000 in
theorem lw_p69 : lw_okq (⟨"TongueHouse$Chart", "putWay", "(III)V"⟩, 22) := lw_mk lw_c7 (pk9_t7 _ (List.mem_of_getElem? (i := 174) rfl)) (pk9_t7 _ (List.mem_of_getElem? (i := 175) rfl))
set_option maxRecDepth 100000 in
theorem lw_p70 : lw_okq (⟨"TongueHouse$Chart", "lay", "(LTongueHouse$Lin;III)V"⟩, 22) := lw_mk lw_c7 (pk9_t7 _ (List.mem_of_getElem? (i := 179) rfl)) (pk9_t7 _ (List.mem_of_getElem? (i := 180) rfl))
set_option maxRecDepth 100000 in
theorem lw_p71 : lw_okq (⟨"TongueHouse$Chart", "isAt", "(III)Z"⟩, 22) := lw_mk lw_c7 (pk9_t7 _ (List.mem_of_getElem? (i := 187) rfl)) (pk9_t7 _ (List.mem_of_getElem? (i := 188) rfl))
set_option maxRecDepth 100000 in
theorem lw_p72 : lw_okq (⟨"TongueHouse$Reader", "kindWanted", "(I)I"⟩, 19) := lw_mk lw_c1 (pk9_t8 _ (List.mem_of_getElem? (i := 1) rfl)) (pk9_t8 _ (List.mem_of_getElem? (i := 2) rfl))
set_option maxRecDepth 100000 in
theorem lw_p73 : lw_okq (⟨"TongueHouse$Reader", "closeArguments", "(I)I"⟩, 19) := lw_mk lw_c1 (pk9_t8 _ (List.mem_of_getElem? (i := 5) rfl)) (pk9_t8 _ (List.mem_of_getElem? (i := 6) rfl))
set_option maxRecDepth 100000 in
theorem lw_p74 : lw_okq (⟨"TongueHouse$Sayer", "pickWords", "(I)V"⟩, 14) := lw_mk lw_c8 (pk9_t8 _ (List.mem_of_getElem? (i := 47) rfl)) (pk9_t8 _ (List.mem_of_getElem? (i := 48) rfl))
set_option maxRecDepth 100000 in
theorem lw_p75 : lw_okq (⟨"TongueHouse$Sayer", "putOption", "(IIIII)V"⟩, 14) := lw_mk lw_c8 (pk9_t8 _ (List.mem_of_getElem? (i := 55) rfl)) (pk9_t8 _ (List.mem_of_getElem? (i := 56) rfl))
set_option maxRecDepth 100000 in
theorem lw_p76 : lw_okq (⟨"TongueHouse$Sayer", "pickLins", "(I)V"⟩, 14) := lw_mk lw_c8 (pk9_t8 _ (List.mem_of_getElem? (i := 59) rfl)) (pk9_t8 _ (List.mem_of_getElem? (i := 60) rfl))
set_option maxRecDepth 100000 in
theorem lw_p77 : lw_okq (⟨"TongueHouse$Sayer", "pick", "(LTongueHouse$Lin;IIII)V"⟩, 14) := lw_mk lw_c8 (pk9_t8 _ (List.mem_of_getElem? (i := 63) rfl)) (pk9_t8 _ (List.mem_of_getElem? (i := 64) rfl))
set_option maxRecDepth 100000 in
theorem lw_p78 : lw_okq (⟨"TongueHouse", "meaningOf", "(I)I"⟩, 17) := lw_mk lw_c4 (pk9_t8 _ (List.mem_of_getElem? (i := 90) rfl)) (pk9_t8 _ (List.mem_of_getElem? (i := 91) rfl))
set_option maxRecDepth 100000 in
theorem lw_p79 : lw_okq (⟨"TongueHouse$Thought", "putTogether", "([II)Z"⟩, 19) := lw_mk lw_c9 (pk9_t8 _ (List.mem_of_getElem? (i := 98) rfl)) (pk9_t8 _ (List.mem_of_getElem? (i := 99) rfl))
def lw_privs_5 : List (MethodName × Nat) := [(⟨"TongueHouse", "checkKind", "(I)V"⟩, 17), (⟨"TongueHouse", "parseTape", "(LTongueHouse$Tongue;I)I"⟩, 17), (⟨"TongueHouse$Chart", "orderLins", "()V"⟩, 22), (⟨"TongueHouse$Chart", "fillSpan", "(IIII)V"⟩, 22), (⟨"TongueHouse$Chart", "layForms", "(II)V"⟩, 22), (⟨"TongueHouse$Chart", "putWay", "(III)V"⟩, 22), (⟨"TongueHouse$Chart", "lay", "(LTongueHouse$Lin;III)V"⟩, 22), (⟨"TongueHouse$Chart", "isAt", "(III)Z"⟩, 22), (⟨"TongueHouse$Reader", "kindWanted", "(I)I"⟩, 19), (⟨"TongueHouse$Reader", "closeArguments", "(I)I"⟩, 19), (⟨"TongueHouse$Sayer", "pickWords", "(I)V"⟩, 14), (⟨"TongueHouse$Sayer", "putOption", "(IIIII)V"⟩, 14), (⟨"TongueHouse$Sayer", "pickLins", "(I)V"⟩, 14), (⟨"TongueHouse$Sayer", "pick", "(LTongueHouse$Lin;IIII)V"⟩, 14), (⟨"TongueHouse", "meaningOf", "(I)I"⟩, 17), (⟨"TongueHouse$Thought", "putTogether", "([II)Z"⟩, 19)]
theorem lw_r5 : ∀ q ∈ lw_privs_5, lw_okq q := List.forall_mem_cons.mpr ⟨lw_p64, List.forall_mem_cons.mpr ⟨lw_p65, List.forall_mem_cons.mpr ⟨lw_p66, List.forall_mem_cons.mpr ⟨lw_p67, List.forall_mem_cons.mpr ⟨lw_p68, List.forall_mem_cons.mpr ⟨lw_p69, List.forall_mem_cons.mpr ⟨lw_p70, List.forall_mem_cons.mpr ⟨lw_p71, List.forall_mem_cons.mpr ⟨lw_p72, List.forall_mem_cons.mpr ⟨lw_p73, List.forall_mem_cons.mpr ⟨lw_p74, List.forall_mem_cons.mpr ⟨lw_p75, List.forall_mem_cons.mpr ⟨lw_p76, List.forall_mem_cons.mpr ⟨lw_p77, List.forall_mem_cons.mpr ⟨lw_p78, List.forall_mem_cons.mpr ⟨lw_p79, fun _ h => absurd h List.not_mem_nil⟩⟩⟩⟩⟩⟩⟩⟩⟩⟩⟩⟩⟩⟩⟩⟩
set_option maxRecDepth 100000 in
theorem lw_p80 : lw_okq (⟨"TongueHouse$Thought", "reduce", "()Z"⟩, 19) := lw_mk lw_c9 (pk9_t8 _ (List.mem_of_getElem? (i := 104) rfl)) (pk9_t8 _ (List.mem_of_getElem? (i := 105) rfl))
set_option maxRecDepth 100000 in
theorem lw_p81 : lw_okq (⟨"TongueHouse$Thought", "contract", "(I)Z"⟩, 19) := lw_mk lw_c9 (pk9_t8 _ (List.mem_of_getElem? (i := 108) rfl)) (pk9_t8 _ (List.mem_of_getElem? (i := 109) rfl))
set_option maxRecDepth 100000 in
theorem lw_p82 : lw_okq (⟨"TongueHouse$Thought", "endOf", "(I)I"⟩, 19) := lw_mk lw_c9 (pk9_t8 _ (List.mem_of_getElem? (i := 112) rfl)) (pk9_t8 _ (List.mem_of_getElem? (i := 113) rfl))
set_option maxRecDepth 100000 in
theorem lw_p83 : lw_okq (⟨"TongueHouse$Thought", "paste", "(IIII)I"⟩, 19) := lw_mk lw_c9 (pk9_t8 _ (List.mem_of_getElem? (i := 117) rfl)) (pk9_t8 _ (List.mem_of_getElem? (i := 118) rfl))
set_option maxRecDepth 100000 in
theorem lw_p84 : lw_okq (⟨"TongueHouse$Thought", "takeRest", "(II)Z"⟩, 19) := lw_mk lw_c9 (pk9_t8 _ (List.mem_of_getElem? (i := 121) rfl)) (pk9_t8 _ (List.mem_of_getElem? (i := 122) rfl))
set_option maxRecDepth 100000 in
theorem lw_p85 : lw_okq (⟨"TongueHouse$Thought", "tellLeaf", "(IILTongueHouse$Text;)V"⟩, 19) := lw_mk lw_c9 (pk9_t8 _ (List.mem_of_getElem? (i := 135) rfl)) (pk9_t8 _ (List.mem_of_getElem? (i := 136) rfl))
set_option maxRecDepth 100000 in
theorem lw_p86 : lw_okq (⟨"TongueHouse$Thought", "goOn", "(I)I"⟩, 19) := lw_mk lw_c9 (pk9_t8 _ (List.mem_of_getElem? (i := 151) rfl)) (pk9_t8 _ (List.mem_of_getElem? (i := 152) rfl))
set_option maxRecDepth 100000 in
theorem lw_p87 : lw_okq (⟨"TongueHouse$Thought", "lookAt", "()I"⟩, 19) := lw_mk lw_c9 (pk9_t8 _ (List.mem_of_getElem? (i := 160) rfl)) (pk9_t8 _ (List.mem_of_getElem? (i := 161) rfl))
set_option maxRecDepth 100000 in
theorem lw_p88 : lw_okq (⟨"TongueHouse$Thought", "stray", "()I"⟩, 19) := lw_mk lw_c9 (pk9_t8 _ (List.mem_of_getElem? (i := 164) rfl)) (pk9_t8 _ (List.mem_of_getElem? (i := 165) rfl))
set_option maxRecDepth 100000 in
theorem lw_p89 : lw_okq (⟨"TongueHouse$Thought", "openUp", "(JII)I"⟩, 19) := lw_mk lw_c9 (pk9_t8 _ (List.mem_of_getElem? (i := 169) rfl)) (pk9_t8 _ (List.mem_of_getElem? (i := 170) rfl))
set_option maxRecDepth 100000 in
theorem lw_p90 : lw_okq (⟨"TongueHouse$Thought", "openAll", "(JI)I"⟩, 19) := lw_mk lw_c9 (pk9_t8 _ (List.mem_of_getElem? (i := 173) rfl)) (pk9_t8 _ (List.mem_of_getElem? (i := 174) rfl))
set_option maxRecDepth 100000 in
theorem lw_p91 : lw_okq (⟨"TongueHouse$Thought", "thingAt", "(I)I"⟩, 19) := lw_mk lw_c9 (pk9_t8 _ (List.mem_of_getElem? (i := 177) rfl)) (pk9_t8 _ (List.mem_of_getElem? (i := 178) rfl))
set_option maxRecDepth 100000 in
theorem lw_p92 : lw_okq (⟨"TongueHouse", "noteCandidate", "()V"⟩, 17) := lw_mk lw_c4 (pk9_t8 _ (List.mem_of_getElem? (i := 191) rfl)) (pk9_t8 _ (List.mem_of_getElem? (i := 192) rfl))
set_option maxRecDepth 100000 in
theorem lw_p93 : lw_okq (⟨"TongueHouse$Finder", "readQuestion", "(LTongueHouse$Text;)Z"⟩, 19) := lw_mk lw_c6 (pk9_t8 _ (List.mem_of_getElem? (i := 238) rfl)) (pk9_t8 _ (List.mem_of_getElem? (i := 239) rfl))
set_option maxRecDepth 100000 in
theorem lw_p94 : lw_okq (⟨"TongueHouse$Finder", "searchWords", "(ILTongueHouse$Tongue;LTongueHouse$Text;)V"⟩, 19) := lw_mk lw_c6 (pk9_t9 _ (List.mem_of_getElem? (i := 8) rfl)) (pk9_t9 _ (List.mem_of_getElem? (i := 9) rfl))
set_option maxRecDepth 100000 in
theorem lw_p95 : lw_okq (⟨"TongueHouse$Finder", "kindsOf", "(LTongueHouse$Tongue;I)I"⟩, 19) := lw_mk lw_c6 (pk9_t9 _ (List.mem_of_getElem? (i := 12) rfl)) (pk9_t9 _ (List.mem_of_getElem? (i := 13) rfl))
def lw_privs_6 : List (MethodName × Nat) := [(⟨"TongueHouse$Thought", "reduce", "()Z"⟩, 19), (⟨"TongueHouse$Thought", "contract", "(I)Z"⟩, 19), (⟨"TongueHouse$Thought", "endOf", "(I)I"⟩, 19), (⟨"TongueHouse$Thought", "paste", "(IIII)I"⟩, 19), (⟨"TongueHouse$Thought", "takeRest", "(II)Z"⟩, 19), (⟨"TongueHouse$Thought", "tellLeaf", "(IILTongueHouse$Text;)V"⟩, 19), (⟨"TongueHouse$Thought", "goOn", "(I)I"⟩, 19), (⟨"TongueHouse$Thought", "lookAt", "()I"⟩, 19), (⟨"TongueHouse$Thought", "stray", "()I"⟩, 19), (⟨"TongueHouse$Thought", "openUp", "(JII)I"⟩, 19), (⟨"TongueHouse$Thought", "openAll", "(JI)I"⟩, 19), (⟨"TongueHouse$Thought", "thingAt", "(I)I"⟩, 19), (⟨"TongueHouse", "noteCandidate", "()V"⟩, 17), (⟨"TongueHouse$Finder", "readQuestion", "(LTongueHouse$Text;)Z"⟩, 19), (⟨"TongueHouse$Finder", "searchWords", "(ILTongueHouse$Tongue;LTongueHouse$Text;)V"⟩, 19), (⟨"TongueHouse$Finder", "kindsOf", "(LTongueHouse$Tongue;I)I"⟩, 19)]
theorem lw_r6 : ∀ q ∈ lw_privs_6, lw_okq q := List.forall_mem_cons.mpr ⟨lw_p80, List.forall_mem_cons.mpr ⟨lw_p81, List.forall_mem_cons.mpr ⟨lw_p82, List.forall_mem_cons.mpr ⟨lw_p83, List.forall_mem_cons.mpr ⟨lw_p84, List.forall_mem_cons.mpr ⟨lw_p85, List.forall_mem_cons.mpr ⟨lw_p86, List.forall_mem_cons.mpr ⟨lw_p87, List.forall_mem_cons.mpr ⟨lw_p88, List.forall_mem_cons.mpr ⟨lw_p89, List.forall_mem_cons.mpr ⟨lw_p90, List.forall_mem_cons.mpr ⟨lw_p91, List.forall_mem_cons.mpr ⟨lw_p92, List.forall_mem_cons.mpr ⟨lw_p93, List.forall_mem_cons.mpr ⟨lw_p94, List.forall_mem_cons.mpr ⟨lw_p95, fun _ h => absurd h List.not_mem_nil⟩⟩⟩⟩⟩⟩⟩⟩⟩⟩⟩⟩⟩⟩⟩⟩
set_option maxRecDepth 100000 in
theorem lw_p96 : lw_okq (⟨"TongueHouse$Finder", "fitsAt", "(IILTongueHouse$Text;)Z"⟩, 19) := lw_mk lw_c6 (pk9_t9 _ (List.mem_of_getElem? (i := 16) rfl)) (pk9_t9 _ (List.mem_of_getElem? (i := 17) rfl))
set_option maxRecDepth 100000 in
theorem lw_p97 : lw_okq (⟨"TongueHouse", "listChanges", "(LTongueHouse$Tongue;)I"⟩, 17) := lw_mk lw_c4 (pk9_t9 _ (List.mem_of_getElem? (i := 47) rfl)) (pk9_t9 _ (List.mem_of_getElem? (i := 48) rfl))
set_option maxRecDepth 100000 in
theorem lw_p98 : lw_okq (⟨"TongueHouse", "writeChange", "(LTongueHouse$Tongue;I)V"⟩, 17) := lw_mk lw_c4 (pk9_t9 _ (List.mem_of_getElem? (i := 59) rfl)) (pk9_t9 _ (List.mem_of_getElem? (i := 60) rfl))
set_option maxRecDepth 100000 in
theorem lw_p99 : lw_okq (⟨"TongueHouseModel", "bad", "()I"⟩, 229) := lw_mk lw_c10 (pk9_t12 _ (List.mem_of_getElem? (i := 142) rfl)) (pk9_t12 _ (List.mem_of_getElem? (i := 143) rfl))
set_option maxRecDepth 100000 in
theorem lw_p100 : lw_okq (⟨"TongueHouseModel", "four", "(I)V"⟩, 229) := lw_mk lw_c10 (pk9_t12 _ (List.mem_of_getElem? (i := 146) rfl)) (pk9_t12 _ (List.mem_of_getElem? (i := 147) rfl))
set_option maxRecDepth 100000 in
theorem lw_p101 : lw_okq (⟨"TongueHouseModel", "reads", "()V"⟩, 229) := lw_mk lw_c10 (pk9_t12 _ (List.mem_of_getElem? (i := 162) rfl)) (pk9_t12 _ (List.mem_of_getElem? (i := 163) rfl))
set_option maxRecDepth 100000 in
theorem lw_p102 : lw_okq (⟨"TongueHouseModel", "remember", "()V"⟩, 229) := lw_mk lw_c10 (pk9_t12 _ (List.mem_of_getElem? (i := 166) rfl)) (pk9_t12 _ (List.mem_of_getElem? (i := 167) rfl))
set_option maxRecDepth 100000 in
theorem lw_p103 : lw_okq (⟨"TongueHouseModel", "next", "()V"⟩, 229) := lw_mk lw_c10 (pk9_t12 _ (List.mem_of_getElem? (i := 170) rfl)) (pk9_t12 _ (List.mem_of_getElem? (i := 171) rfl))
set_option maxRecDepth 100000 in
theorem lw_p104 : lw_okq (⟨"TongueHouseModel", "low", "(I)Z"⟩, 229) := lw_mk lw_c10 (pk9_t12 _ (List.mem_of_getElem? (i := 174) rfl)) (pk9_t12 _ (List.mem_of_getElem? (i := 175) rfl))
set_option maxRecDepth 100000 in
theorem lw_p105 : lw_okq (⟨"TongueHouseModel", "dig", "(I)Z"⟩, 229) := lw_mk lw_c10 (pk9_t12 _ (List.mem_of_getElem? (i := 178) rfl)) (pk9_t12 _ (List.mem_of_getElem? (i := 179) rfl))
set_option maxRecDepth 100000 in
theorem lw_p106 : lw_okq (⟨"TongueHouseModel", "statement", "()Z"⟩, 229) := lw_mk lw_c10 (pk9_t12 _ (List.mem_of_getElem? (i := 238) rfl)) (pk9_t12 _ (List.mem_of_getElem? (i := 239) rfl))
set_option maxRecDepth 100000 in
theorem lw_p107 : lw_okq (⟨"TongueHouseModel", "no", "(I)Z"⟩, 229) := lw_mk lw_c10 (pk9_t13 _ (List.mem_of_getElem? (i := 2) rfl)) (pk9_t13 _ (List.mem_of_getElem? (i := 3) rfl))
set_option maxRecDepth 100000 in
theorem lw_p108 : lw_okq (⟨"TongueHouseModel", "no", "(II)Z"⟩, 229) := lw_mk lw_c10 (pk9_t13 _ (List.mem_of_getElem? (i := 6) rfl)) (pk9_t13 _ (List.mem_of_getElem? (i := 7) rfl))
set_option maxRecDepth 100000 in
theorem lw_p109 : lw_okq (⟨"TongueHouseModel", "tongue", "()Z"⟩, 229) := lw_mk lw_c10 (pk9_t13 _ (List.mem_of_getElem? (i := 10) rfl)) (pk9_t13 _ (List.mem_of_getElem? (i := 11) rfl))
set_option maxRecDepth 100000 in
theorem lw_p110 : lw_okq (⟨"TongueHouseModel", "name", "()Z"⟩, 229) := lw_mk lw_c10 (pk9_t13 _ (List.mem_of_getElem? (i := 14) rfl)) (pk9_t13 _ (List.mem_of_getElem? (i := 15) rfl))
set_option maxRecDepth 100000 in
theorem lw_p111 : lw_okq (⟨"TongueHouseModel", "done", "(Z)Z"⟩, 229) := lw_mk lw_c10 (pk9_t13 _ (List.mem_of_getElem? (i := 21) rfl)) (pk9_t13 _ (List.mem_of_getElem? (i := 22) rfl))
def lw_privs_7 : List (MethodName × Nat) := [(⟨"TongueHouse$Finder", "fitsAt", "(IILTongueHouse$Text;)Z"⟩, 19), (⟨"TongueHouse", "listChanges", "(LTongueHouse$Tongue;)I"⟩, 17), (⟨"TongueHouse", "writeChange", "(LTongueHouse$Tongue;I)V"⟩, 17), (⟨"TongueHouseModel", "bad", "()I"⟩, 229), (⟨"TongueHouseModel", "four", "(I)V"⟩, 229), (⟨"TongueHouseModel", "reads", "()V"⟩, 229), (⟨"TongueHouseModel", "remember", "()V"⟩, 229), (⟨"TongueHouseModel", "next", "()V"⟩, 229), (⟨"TongueHouseModel", "low", "(I)Z"⟩, 229), (⟨"TongueHouseModel", "dig", "(I)Z"⟩, 229), (⟨"TongueHouseModel", "statement", "()Z"⟩, 229), (⟨"TongueHouseModel", "no", "(I)Z"⟩, 229), (⟨"TongueHouseModel", "no", "(II)Z"⟩, 229), (⟨"TongueHouseModel", "tongue", "()Z"⟩, 229), (⟨"TongueHouseModel", "name", "()Z"⟩, 229), (⟨"TongueHouseModel", "done", "(Z)Z"⟩, 229)]
theorem lw_r7 : ∀ q ∈ lw_privs_7, lw_okq q := List.forall_mem_cons.mpr ⟨lw_p96, List.forall_mem_cons.mpr ⟨lw_p97, List.forall_mem_cons.mpr ⟨lw_p98, List.forall_mem_cons.mpr ⟨lw_p99, List.forall_mem_cons.mpr ⟨lw_p100, List.forall_mem_cons.mpr ⟨lw_p101, List.forall_mem_cons.mpr ⟨lw_p102, List.forall_mem_cons.mpr ⟨lw_p103, List.forall_mem_cons.mpr ⟨lw_p104, List.forall_mem_cons.mpr ⟨lw_p105, List.forall_mem_cons.mpr ⟨lw_p106, List.forall_mem_cons.mpr ⟨lw_p107, List.forall_mem_cons.mpr ⟨lw_p108, List.forall_mem_cons.mpr ⟨lw_p109, List.forall_mem_cons.mpr ⟨lw_p110, List.forall_mem_cons.mpr ⟨lw_p111, fun _ h => absurd h List.not_mem_nil⟩⟩⟩⟩⟩⟩⟩⟩⟩⟩⟩⟩⟩⟩⟩⟩
set_option maxRecDepth 100000 in
theorem lw_p112 : lw_okq (⟨"TongueHouseModel", "sign", "(C)Z"⟩, 229) := lw_mk lw_c10 (pk9_t13 _ (List.mem_of_getElem? (i := 25) rfl)) (pk9_t13 _ (List.mem_of_getElem? (i := 26) rfl))
set_option maxRecDepth 100000 in
theorem lw_p113 : lw_okq (⟨"TongueHouseModel", "kind", "()Z"⟩, 229) := lw_mk lw_c10 (pk9_t13 _ (List.mem_of_getElem? (i := 29) rfl)) (pk9_t13 _ (List.mem_of_getElem? (i := 30) rfl))
set_option maxRecDepth 100000 in
theorem lw_p114 : lw_okq (⟨"TongueHouseModel", "fun", "()Z"⟩, 229) := lw_mk lw_c10 (pk9_t13 _ (List.mem_of_getElem? (i := 33) rfl)) (pk9_t13 _ (List.mem_of_getElem? (i := 34) rfl))
set_option maxRecDepth 100000 in
theorem lw_p115 : lw_okq (⟨"TongueHouseModel", "need", "(C)Z"⟩, 229) := lw_mk lw_c10 (pk9_t13 _ (List.mem_of_getElem? (i := 37) rfl)) (pk9_t13 _ (List.mem_of_getElem? (i := 38) rfl))
set_option maxRecDepth 100000 in
theorem lw_p116 : lw_okq (⟨"TongueHouseModel", "cost", "()Z"⟩, 229) := lw_mk lw_c10 (pk9_t13 _ (List.mem_of_getElem? (i := 41) rfl)) (pk9_t13 _ (List.mem_of_getElem? (i := 42) rfl))
set_option maxRecDepth 100000 in
theorem lw_p117 : lw_okq (⟨"TongueHouseModel", "is", "(J)Z"⟩, 229) := lw_mk lw_c10 (pk9_t13 _ (List.mem_of_getElem? (i := 45) rfl)) (pk9_t13 _ (List.mem_of_getElem? (i := 46) rfl))
set_option maxRecDepth 100000 in
theorem lw_p118 : lw_okq (⟨"TongueHouseModel", "feature", "()Z"⟩, 229) := lw_mk lw_c10 (pk9_t13 _ (List.mem_of_getElem? (i := 49) rfl)) (pk9_t13 _ (List.mem_of_getElem? (i := 50) rfl))
set_option maxRecDepth 100000 in
theorem lw_p119 : lw_okq (⟨"TongueHouseModel", "lettersOf", "()Z"⟩, 229) := lw_mk lw_c10 (pk9_t13 _ (List.mem_of_getElem? (i := 53) rfl)) (pk9_t13 _ (List.mem_of_getElem? (i := 54) rfl))
set_option maxRecDepth 100000 in
theorem lw_p120 : lw_okq (⟨"TongueHouseModel", "size", "()I"⟩, 229) := lw_mk lw_c10 (pk9_t13 _ (List.mem_of_getElem? (i := 57) rfl)) (pk9_t13 _ (List.mem_of_getElem? (i := 58) rfl))
set_option maxRecDepth 100000 in
theorem lw_p121 : lw_okq (⟨"TongueHouseModel", "sound", "()Z"⟩, 229) := lw_mk lw_c10 (pk9_t13 _ (List.mem_of_getElem? (i := 61) rfl)) (pk9_t13 _ (List.mem_of_getElem? (i := 62) rfl))
set_option maxRecDepth 100000 in
theorem lw_p122 : lw_okq (⟨"TongueHouseModel", "context", "(Z)Z"⟩, 229) := lw_mk lw_c10 (pk9_t13 _ (List.mem_of_getElem? (i := 65) rfl)) (pk9_t13 _ (List.mem_of_getElem? (i := 66) rfl))
set_option maxRecDepth 100000 in
theorem lw_p123 : lw_okq (⟨"TongueHouseModel", "keeps", "()I"⟩, 229) := lw_mk lw_c10 (pk9_t13 _ (List.mem_of_getElem? (i := 69) rfl)) (pk9_t13 _ (List.mem_of_getElem? (i := 70) rfl))
set_option maxRecDepth 100000 in
theorem lw_p124 : lw_okq (⟨"TongueHouseModel", "side", "(I)Z"⟩, 229) := lw_mk lw_c10 (pk9_t13 _ (List.mem_of_getElem? (i := 75) rfl)) (pk9_t13 _ (List.mem_of_getElem? (i := 76) rfl))
set_option maxRecDepth 100000 in
theorem lw_p125 : lw_okq (⟨"TongueHouseModel", "pattern", "()Z"⟩, 229) := lw_mk lw_c10 (pk9_t13 _ (List.mem_of_getElem? (i := 79) rfl)) (pk9_t13 _ (List.mem_of_getElem? (i := 80) rfl))
set_option maxRecDepth 100000 in
theorem lw_p126 : lw_okq (⟨"TongueHouseModel", "oneValue", "()Z"⟩, 229) := lw_mk lw_c10 (pk9_t13 _ (List.mem_of_getElem? (i := 83) rfl)) (pk9_t13 _ (List.mem_of_getElem? (i := 84) rfl))
set_option maxRecDepth 100000 in
theorem lw_p127 : lw_okq (⟨"TongueHouseModel", "form", "()Z"⟩, 229) := lw_mk lw_c10 (pk9_t13 _ (List.mem_of_getElem? (i := 87) rfl)) (pk9_t13 _ (List.mem_of_getElem? (i := 88) rfl))
def lw_privs_8 : List (MethodName × Nat) := [(⟨"TongueHouseModel", "sign", "(C)Z"⟩, 229), (⟨"TongueHouseModel", "kind", "()Z"⟩, 229), (⟨"TongueHouseModel", "fun", "()Z"⟩, 229), (⟨"TongueHouseModel", "need", "(C)Z"⟩, 229), (⟨"TongueHouseModel", "cost", "()Z"⟩, 229), (⟨"TongueHouseModel", "is", "(J)Z"⟩, 229), (⟨"TongueHouseModel", "feature", "()Z"⟩, 229), (⟨"TongueHouseModel", "lettersOf", "()Z"⟩, 229), (⟨"TongueHouseModel", "size", "()I"⟩, 229), (⟨"TongueHouseModel", "sound", "()Z"⟩, 229), (⟨"TongueHouseModel", "context", "(Z)Z"⟩, 229), (⟨"TongueHouseModel", "keeps", "()I"⟩, 229), (⟨"TongueHouseModel", "side", "(I)Z"⟩, 229), (⟨"TongueHouseModel", "pattern", "()Z"⟩, 229), (⟨"TongueHouseModel", "oneValue", "()Z"⟩, 229), (⟨"TongueHouseModel", "form", "()Z"⟩, 229)]
theorem lw_r8 : ∀ q ∈ lw_privs_8, lw_okq q := List.forall_mem_cons.mpr ⟨lw_p112, List.forall_mem_cons.mpr ⟨lw_p113, List.forall_mem_cons.mpr ⟨lw_p114, List.forall_mem_cons.mpr ⟨lw_p115, List.forall_mem_cons.mpr ⟨lw_p116, List.forall_mem_cons.mpr ⟨lw_p117, List.forall_mem_cons.mpr ⟨lw_p118, List.forall_mem_cons.mpr ⟨lw_p119, List.forall_mem_cons.mpr ⟨lw_p120, List.forall_mem_cons.mpr ⟨lw_p121, List.forall_mem_cons.mpr ⟨lw_p122, List.forall_mem_cons.mpr ⟨lw_p123, List.forall_mem_cons.mpr ⟨lw_p124, List.forall_mem_cons.mpr ⟨lw_p125, List.forall_mem_cons.mpr ⟨lw_p126, List.forall_mem_cons.mpr ⟨lw_p127, fun _ h => absurd h List.not_mem_nil⟩⟩⟩⟩⟩⟩⟩⟩⟩⟩⟩⟩⟩⟩⟩⟩
set_option maxRecDepth 100000 in
theorem lw_p128 : lw_okq (⟨"TongueHouseModel", "wordOf", "()Z"⟩, 229) := lw_mk lw_c10 (pk9_t13 _ (List.mem_of_getElem? (i := 91) rfl)) (pk9_t13 _ (List.mem_of_getElem? (i := 92) rfl))
set_option maxRecDepth 100000 in
theorem lw_p129 : lw_okq (⟨"TongueHouseModel", "lin", "()Z"⟩, 229) := lw_mk lw_c10 (pk9_t13 _ (List.mem_of_getElem? (i := 95) rfl)) (pk9_t13 _ (List.mem_of_getElem? (i := 96) rfl))
set_option maxRecDepth 100000 in
theorem lw_p130 : lw_okq (⟨"TongueHouseModel", "item", "(I)Z"⟩, 229) := lw_mk lw_c10 (pk9_t13 _ (List.mem_of_getElem? (i := 99) rfl)) (pk9_t13 _ (List.mem_of_getElem? (i := 100) rfl))
set_option maxRecDepth 100000 in
theorem lw_p131 : lw_okq (⟨"TongueHouseModel", "said", "(I)Z"⟩, 229) := lw_mk lw_c10 (pk9_t13 _ (List.mem_of_getElem? (i := 103) rfl)) (pk9_t13 _ (List.mem_of_getElem? (i := 104) rfl))
set_option maxRecDepth 100000 in
theorem lw_p132 : lw_okq (⟨"TongueHouseModel", "argumentOf", "(I)Z"⟩, 229) := lw_mk lw_c10 (pk9_t13 _ (List.mem_of_getElem? (i := 107) rfl)) (pk9_t13 _ (List.mem_of_getElem? (i := 108) rfl))
set_option maxRecDepth 100000 in
theorem lw_p133 : lw_okq (⟨"TongueHouseModel", "featureOf", "()Z"⟩, 229) := lw_mk lw_c10 (pk9_t13 _ (List.mem_of_getElem? (i := 111) rfl)) (pk9_t13 _ (List.mem_of_getElem? (i := 112) rfl))
set_option maxRecDepth 100000 in
theorem lw_p134 : lw_okq (⟨"TongueHouseModel", "mean", "()Z"⟩, 229) := lw_mk lw_c10 (pk9_t13 _ (List.mem_of_getElem? (i := 115) rfl)) (pk9_t13 _ (List.mem_of_getElem? (i := 116) rfl))
set_option maxRecDepth 100000 in
theorem lw_p135 : lw_okq (⟨"TongueHouseModel", "term", "(I)I"⟩, 229) := lw_mk lw_c10 (pk9_t13 _ (List.mem_of_getElem? (i := 119) rfl)) (pk9_t13 _ (List.mem_of_getElem? (i := 120) rfl))
set_option maxRecDepth 100000 in
theorem lw_p136 : lw_okq (⟨"TongueHouseModel", "none", "(I)I"⟩, 229) := lw_mk lw_c10 (pk9_t13 _ (List.mem_of_getElem? (i := 123) rfl)) (pk9_t13 _ (List.mem_of_getElem? (i := 124) rfl))
set_option maxRecDepth 100000 in
theorem lw_p137 : lw_okq (⟨"TongueHouseModel", "node", "(IIIJ)I"⟩, 229) := lw_mk lw_c10 (pk9_t13 _ (List.mem_of_getElem? (i := 127) rfl)) (pk9_t13 _ (List.mem_of_getElem? (i := 128) rfl))
set_option maxRecDepth 100000 in
theorem lw_p138 : lw_okq (⟨"TongueHouseModel", "atom", "(I)I"⟩, 229) := lw_mk lw_c10 (pk9_t13 _ (List.mem_of_getElem? (i := 131) rfl)) (pk9_t13 _ (List.mem_of_getElem? (i := 132) rfl))
set_option maxRecDepth 100000 in
theorem lw_p139 : lw_okq (⟨"TongueHouseModel", "thing", "()Z"⟩, 229) := lw_mk lw_c10 (pk9_t13 _ (List.mem_of_getElem? (i := 135) rfl)) (pk9_t13 _ (List.mem_of_getElem? (i := 136) rfl))
set_option maxRecDepth 100000 in
theorem lw_p140 : lw_okq (⟨"TongueHouseModel", "fact", "()Z"⟩, 229) := lw_mk lw_c10 (pk9_t13 _ (List.mem_of_getElem? (i := 139) rfl)) (pk9_t13 _ (List.mem_of_getElem? (i := 140) rfl))
set_option maxRecDepth 100000 in
theorem lw_p141 : lw_okq (⟨"TongueHouseModel", "isFact", "(JII)Z"⟩, 229) := lw_mk lw_c10 (pk9_t13 _ (List.mem_of_getElem? (i := 143) rfl)) (pk9_t13 _ (List.mem_of_getElem? (i := 144) rfl))
set_option maxRecDepth 100000 in
theorem lw_p142 : lw_okq (⟨"TongueHouseModel", "forget", "()V"⟩, 229) := lw_mk lw_c10 (pk9_t13 _ (List.mem_of_getElem? (i := 147) rfl)) (pk9_t13 _ (List.mem_of_getElem? (i := 148) rfl))
set_option maxRecDepth 100000 in
theorem lw_p143 : lw_okq (⟨"TongueHouseModel", "noTongue", "(I)Z"⟩, 229) := lw_mk lw_c10 (pk9_t13 _ (List.mem_of_getElem? (i := 159) rfl)) (pk9_t13 _ (List.mem_of_getElem? (i := 160) rfl))
def lw_privs_9 : List (MethodName × Nat) := [(⟨"TongueHouseModel", "wordOf", "()Z"⟩, 229), (⟨"TongueHouseModel", "lin", "()Z"⟩, 229), (⟨"TongueHouseModel", "item", "(I)Z"⟩, 229), (⟨"TongueHouseModel", "said", "(I)Z"⟩, 229), (⟨"TongueHouseModel", "argumentOf", "(I)Z"⟩, 229), (⟨"TongueHouseModel", "featureOf", "()Z"⟩, 229), (⟨"TongueHouseModel", "mean", "()Z"⟩, 229), (⟨"TongueHouseModel", "term", "(I)I"⟩, 229), (⟨"TongueHouseModel", "none", "(I)I"⟩, 229), (⟨"TongueHouseModel", "node", "(IIIJ)I"⟩, 229), (⟨"TongueHouseModel", "atom", "(I)I"⟩, 229), (⟨"TongueHouseModel", "thing", "()Z"⟩, 229), (⟨"TongueHouseModel", "fact", "()Z"⟩, 229), (⟨"TongueHouseModel", "isFact", "(JII)Z"⟩, 229), (⟨"TongueHouseModel", "forget", "()V"⟩, 229), (⟨"TongueHouseModel", "noTongue", "(I)Z"⟩, 229)]
theorem lw_r9 : ∀ q ∈ lw_privs_9, lw_okq q := List.forall_mem_cons.mpr ⟨lw_p128, List.forall_mem_cons.mpr ⟨lw_p129, List.forall_mem_cons.mpr ⟨lw_p130, List.forall_mem_cons.mpr ⟨lw_p131, List.forall_mem_cons.mpr ⟨lw_p132, List.forall_mem_cons.mpr ⟨lw_p133, List.forall_mem_cons.mpr ⟨lw_p134, List.forall_mem_cons.mpr ⟨lw_p135, List.forall_mem_cons.mpr ⟨lw_p136, List.forall_mem_cons.mpr ⟨lw_p137, List.forall_mem_cons.mpr ⟨lw_p138, List.forall_mem_cons.mpr ⟨lw_p139, List.forall_mem_cons.mpr ⟨lw_p140, List.forall_mem_cons.mpr ⟨lw_p141, List.forall_mem_cons.mpr ⟨lw_p142, List.forall_mem_cons.mpr ⟨lw_p143, fun _ h => absurd h List.not_mem_nil⟩⟩⟩⟩⟩⟩⟩⟩⟩⟩⟩⟩⟩⟩⟩⟩
set_option maxRecDepth 100000 in
theorem lw_p144 : lw_okq (⟨"TongueHouseModel", "oneWord", "()Z"⟩, 229) := lw_mk lw_c10 (pk9_t13 _ (List.mem_of_getElem? (i := 163) rfl)) (pk9_t13 _ (List.mem_of_getElem? (i := 164) rfl))
set_option maxRecDepth 100000 in
theorem lw_p145 : lw_okq (⟨"TongueHouseModel", "sounded", "(I)I"⟩, 229) := lw_mk lw_c10 (pk9_t13 _ (List.mem_of_getElem? (i := 167) rfl)) (pk9_t13 _ (List.mem_of_getElem? (i := 168) rfl))
set_option maxRecDepth 100000 in
theorem lw_p146 : lw_okq (⟨"TongueHouseModel", "stands", "(III)I"⟩, 229) := lw_mk lw_c10 (pk9_t13 _ (List.mem_of_getElem? (i := 171) rfl)) (pk9_t13 _ (List.mem_of_getElem? (i := 172) rfl))
set_option maxRecDepth 100000 in
theorem lw_p147 : lw_okq (⟨"TongueHouseModel", "isIn", "(III)Z"⟩, 229) := lw_mk lw_c10 (pk9_t13 _ (List.mem_of_getElem? (i := 175) rfl)) (pk9_t13 _ (List.mem_of_getElem? (i := 176) rfl))
set_option maxRecDepth 100000 in
theorem lw_p148 : lw_okq (⟨"TongueHouseModel", "right", "(III)Z"⟩, 229) := lw_mk lw_c10 (pk9_t13 _ (List.mem_of_getElem? (i := 179) rfl)) (pk9_t13 _ (List.mem_of_getElem? (i := 180) rfl))
set_option maxRecDepth 100000 in
theorem lw_p149 : lw_okq (⟨"TongueHouseModel", "left", "(III)Z"⟩, 229) := lw_mk lw_c10 (pk9_t13 _ (List.mem_of_getElem? (i := 183) rfl)) (pk9_t13 _ (List.mem_of_getElem? (i := 184) rfl))
set_option maxRecDepth 100000 in
theorem lw_p150 : lw_okq (⟨"TongueHouseModel", "outBuf", "()V"⟩, 229) := lw_mk lw_c10 (pk9_t13 _ (List.mem_of_getElem? (i := 187) rfl)) (pk9_t13 _ (List.mem_of_getElem? (i := 188) rfl))
set_option maxRecDepth 100000 in
theorem lw_p151 : lw_okq (⟨"TongueHouseModel", "outs", "(I)V"⟩, 229) := lw_mk lw_c10 (pk9_t13 _ (List.mem_of_getElem? (i := 191) rfl)) (pk9_t13 _ (List.mem_of_getElem? (i := 192) rfl))
set_option maxRecDepth 100000 in
theorem lw_p152 : lw_okq (⟨"TongueHouseModel", "forms", "(I)V"⟩, 229) := lw_mk lw_c10 (pk9_t13 _ (List.mem_of_getElem? (i := 199) rfl)) (pk9_t13 _ (List.mem_of_getElem? (i := 200) rfl))
set_option maxRecDepth 100000 in
theorem lw_p153 : lw_okq (⟨"TongueHouseModel", "cellsOf", "(II)I"⟩, 229) := lw_mk lw_c10 (pk9_t13 _ (List.mem_of_getElem? (i := 203) rfl)) (pk9_t13 _ (List.mem_of_getElem? (i := 204) rfl))
set_option maxRecDepth 100000 in
theorem lw_p154 : lw_okq (⟨"TongueHouseModel", "joined", "(III)I"⟩, 229) := lw_mk lw_c10 (pk9_t13 _ (List.mem_of_getElem? (i := 207) rfl)) (pk9_t13 _ (List.mem_of_getElem? (i := 208) rfl))
set_option maxRecDepth 100000 in
theorem lw_p155 : lw_okq (⟨"TongueHouseModel", "isForm", "(I[BII)Z"⟩, 229) := lw_mk lw_c10 (pk9_t13 _ (List.mem_of_getElem? (i := 211) rfl)) (pk9_t13 _ (List.mem_of_getElem? (i := 212) rfl))
set_option maxRecDepth 100000 in
theorem lw_p156 : lw_okq (⟨"TongueHouseModel", "valuesOf", "(III)I"⟩, 229) := lw_mk lw_c10 (pk9_t13 _ (List.mem_of_getElem? (i := 219) rfl)) (pk9_t13 _ (List.mem_of_getElem? (i := 220) rfl))
set_option maxRecDepth 100000 in
theorem lw_p157 : lw_okq (⟨"TongueHouseModel", "endsSo", "(III)Z"⟩, 229) := lw_mk lw_c10 (pk9_t13 _ (List.mem_of_getElem? (i := 232) rfl)) (pk9_t13 _ (List.mem_of_getElem? (i := 233) rfl))
set_option maxRecDepth 100000 in
theorem lw_p158 : lw_okq (⟨"TongueHouseModel", "noKind", "(I)Z"⟩, 229) := lw_mk lw_c10 (pk9_t14 _ (List.mem_of_getElem? (i := 8) rfl)) (pk9_t14 _ (List.mem_of_getElem? (i := 9) rfl))
set_option maxRecDepth 100000 in
theorem lw_p159 : lw_okq (⟨"TongueHouseModel", "sentence", "()Z"⟩, 229) := lw_mk lw_c10 (pk9_t14 _ (List.mem_of_getElem? (i := 12) rfl)) (pk9_t14 _ (List.mem_of_getElem? (i := 13) rfl))
def lw_privs_10 : List (MethodName × Nat) := [(⟨"TongueHouseModel", "oneWord", "()Z"⟩, 229), (⟨"TongueHouseModel", "sounded", "(I)I"⟩, 229), (⟨"TongueHouseModel", "stands", "(III)I"⟩, 229), (⟨"TongueHouseModel", "isIn", "(III)Z"⟩, 229), (⟨"TongueHouseModel", "right", "(III)Z"⟩, 229), (⟨"TongueHouseModel", "left", "(III)Z"⟩, 229), (⟨"TongueHouseModel", "outBuf", "()V"⟩, 229), (⟨"TongueHouseModel", "outs", "(I)V"⟩, 229), (⟨"TongueHouseModel", "forms", "(I)V"⟩, 229), (⟨"TongueHouseModel", "cellsOf", "(II)I"⟩, 229), (⟨"TongueHouseModel", "joined", "(III)I"⟩, 229), (⟨"TongueHouseModel", "isForm", "(I[BII)Z"⟩, 229), (⟨"TongueHouseModel", "valuesOf", "(III)I"⟩, 229), (⟨"TongueHouseModel", "endsSo", "(III)Z"⟩, 229), (⟨"TongueHouseModel", "noKind", "(I)Z"⟩, 229), (⟨"TongueHouseModel", "sentence", "()Z"⟩, 229)]
theorem lw_r10 : ∀ q ∈ lw_privs_10, lw_okq q := List.forall_mem_cons.mpr ⟨lw_p144, List.forall_mem_cons.mpr ⟨lw_p145, List.forall_mem_cons.mpr ⟨lw_p146, List.forall_mem_cons.mpr ⟨lw_p147, List.forall_mem_cons.mpr ⟨lw_p148, List.forall_mem_cons.mpr ⟨lw_p149, List.forall_mem_cons.mpr ⟨lw_p150, List.forall_mem_cons.mpr ⟨lw_p151, List.forall_mem_cons.mpr ⟨lw_p152, List.forall_mem_cons.mpr ⟨lw_p153, List.forall_mem_cons.mpr ⟨lw_p154, List.forall_mem_cons.mpr ⟨lw_p155, List.forall_mem_cons.mpr ⟨lw_p156, List.forall_mem_cons.mpr ⟨lw_p157, List.forall_mem_cons.mpr ⟨lw_p158, List.forall_mem_cons.mpr ⟨lw_p159, fun _ h => absurd h List.not_mem_nil⟩⟩⟩⟩⟩⟩⟩⟩⟩⟩⟩⟩⟩⟩⟩⟩
set_option maxRecDepth 100000 in
theorem lw_p160 : lw_okq (⟨"TongueHouseModel", "noForest", "()V"⟩, 229) := lw_mk lw_c10 (pk9_t14 _ (List.mem_of_getElem? (i := 16) rfl)) (pk9_t14 _ (List.mem_of_getElem? (i := 17) rfl))
set_option maxRecDepth 100000 in
theorem lw_p161 : lw_okq (⟨"TongueHouseModel", "parsed", "(II)I"⟩, 229) := lw_mk lw_c10 (pk9_t14 _ (List.mem_of_getElem? (i := 20) rfl)) (pk9_t14 _ (List.mem_of_getElem? (i := 21) rfl))
set_option maxRecDepth 100000 in
theorem lw_p162 : lw_okq (⟨"TongueHouseModel", "chart", "(I)Z"⟩, 229) := lw_mk lw_c10 (pk9_t14 _ (List.mem_of_getElem? (i := 24) rfl)) (pk9_t14 _ (List.mem_of_getElem? (i := 25) rfl))
set_option maxRecDepth 100000 in
theorem lw_p163 : lw_okq (⟨"TongueHouseModel", "leaves", "(III)V"⟩, 229) := lw_mk lw_c10 (pk9_t14 _ (List.mem_of_getElem? (i := 29) rfl)) (pk9_t14 _ (List.mem_of_getElem? (i := 30) rfl))
set_option maxRecDepth 100000 in
theorem lw_p164 : lw_okq (⟨"TongueHouseModel", "isWord", "(II)Z"⟩, 229) := lw_mk lw_c10 (pk9_t14 _ (List.mem_of_getElem? (i := 33) rfl)) (pk9_t14 _ (List.mem_of_getElem? (i := 34) rfl))
set_option maxRecDepth 100000 in
theorem lw_p165 : lw_okq (⟨"TongueHouseModel", "nodeOf", "(IIII)I"⟩, 229) := lw_mk lw_c10 (pk9_t14 _ (List.mem_of_getElem? (i := 37) rfl)) (pk9_t14 _ (List.mem_of_getElem? (i := 38) rfl))
set_option maxRecDepth 100000 in
theorem lw_p166 : lw_okq (⟨"TongueHouseModel", "wayOf", "(IIII)I"⟩, 229) := lw_mk lw_c10 (pk9_t14 _ (List.mem_of_getElem? (i := 44) rfl)) (pk9_t14 _ (List.mem_of_getElem? (i := 45) rfl))
set_option maxRecDepth 100000 in
theorem lw_p167 : lw_okq (⟨"TongueHouseModel", "match", "(II)V"⟩, 229) := lw_mk lw_c10 (pk9_t14 _ (List.mem_of_getElem? (i := 48) rfl)) (pk9_t14 _ (List.mem_of_getElem? (i := 49) rfl))
set_option maxRecDepth 100000 in
theorem lw_p168 : lw_okq (⟨"TongueHouseModel", "finish", "()V"⟩, 229) := lw_mk lw_c10 (pk9_t14 _ (List.mem_of_getElem? (i := 52) rfl)) (pk9_t14 _ (List.mem_of_getElem? (i := 53) rfl))
set_option maxRecDepth 100000 in
theorem lw_p169 : lw_okq (⟨"TongueHouseModel", "saidOf", "(I)I"⟩, 229) := lw_mk lw_c10 (pk9_t14 _ (List.mem_of_getElem? (i := 56) rfl)) (pk9_t14 _ (List.mem_of_getElem? (i := 57) rfl))
set_option maxRecDepth 100000 in
theorem lw_p170 : lw_okq (⟨"TongueHouseModel", "orderWays", "()V"⟩, 229) := lw_mk lw_c10 (pk9_t14 _ (List.mem_of_getElem? (i := 63) rfl)) (pk9_t14 _ (List.mem_of_getElem? (i := 64) rfl))
set_option maxRecDepth 100000 in
theorem lw_p171 : lw_okq (⟨"TongueHouseModel", "wayOrder", "(II)I"⟩, 229) := lw_mk lw_c10 (pk9_t14 _ (List.mem_of_getElem? (i := 67) rfl)) (pk9_t14 _ (List.mem_of_getElem? (i := 68) rfl))
set_option maxRecDepth 100000 in
theorem lw_p172 : lw_okq (⟨"TongueHouseModel", "counted", "()J"⟩, 229) := lw_mk lw_c10 (pk9_t14 _ (List.mem_of_getElem? (i := 71) rfl)) (pk9_t14 _ (List.mem_of_getElem? (i := 72) rfl))
set_option maxRecDepth 100000 in
theorem lw_p173 : lw_okq (⟨"TongueHouseModel", "tops", "(IIII)V"⟩, 229) := lw_mk lw_c10 (pk9_t14 _ (List.mem_of_getElem? (i := 80) rfl)) (pk9_t14 _ (List.mem_of_getElem? (i := 81) rfl))
set_option maxRecDepth 100000 in
theorem lw_p174 : lw_okq (⟨"TongueHouseModel", "ahead", "(IIII)Z"⟩, 229) := lw_mk lw_c10 (pk9_t14 _ (List.mem_of_getElem? (i := 84) rfl)) (pk9_t14 _ (List.mem_of_getElem? (i := 85) rfl))
set_option maxRecDepth 100000 in
theorem lw_p175 : lw_okq (⟨"TongueHouseModel", "combine", "(IIIIIIII)V"⟩, 229) := lw_mk lw_c10 (pk9_t14 _ (List.mem_of_getElem? (i := 91) rfl)) (pk9_t14 _ (List.mem_of_getElem? (i := 92) rfl))
def lw_privs_11 : List (MethodName × Nat) := [(⟨"TongueHouseModel", "noForest", "()V"⟩, 229), (⟨"TongueHouseModel", "parsed", "(II)I"⟩, 229), (⟨"TongueHouseModel", "chart", "(I)Z"⟩, 229), (⟨"TongueHouseModel", "leaves", "(III)V"⟩, 229), (⟨"TongueHouseModel", "isWord", "(II)Z"⟩, 229), (⟨"TongueHouseModel", "nodeOf", "(IIII)I"⟩, 229), (⟨"TongueHouseModel", "wayOf", "(IIII)I"⟩, 229), (⟨"TongueHouseModel", "match", "(II)V"⟩, 229), (⟨"TongueHouseModel", "finish", "()V"⟩, 229), (⟨"TongueHouseModel", "saidOf", "(I)I"⟩, 229), (⟨"TongueHouseModel", "orderWays", "()V"⟩, 229), (⟨"TongueHouseModel", "wayOrder", "(II)I"⟩, 229), (⟨"TongueHouseModel", "counted", "()J"⟩, 229), (⟨"TongueHouseModel", "tops", "(IIII)V"⟩, 229), (⟨"TongueHouseModel", "ahead", "(IIII)Z"⟩, 229), (⟨"TongueHouseModel", "combine", "(IIIIIIII)V"⟩, 229)]
theorem lw_r11 : ∀ q ∈ lw_privs_11, lw_okq q := List.forall_mem_cons.mpr ⟨lw_p160, List.forall_mem_cons.mpr ⟨lw_p161, List.forall_mem_cons.mpr ⟨lw_p162, List.forall_mem_cons.mpr ⟨lw_p163, List.forall_mem_cons.mpr ⟨lw_p164, List.forall_mem_cons.mpr ⟨lw_p165, List.forall_mem_cons.mpr ⟨lw_p166, List.forall_mem_cons.mpr ⟨lw_p167, List.forall_mem_cons.mpr ⟨lw_p168, List.forall_mem_cons.mpr ⟨lw_p169, List.forall_mem_cons.mpr ⟨lw_p170, List.forall_mem_cons.mpr ⟨lw_p171, List.forall_mem_cons.mpr ⟨lw_p172, List.forall_mem_cons.mpr ⟨lw_p173, List.forall_mem_cons.mpr ⟨lw_p174, List.forall_mem_cons.mpr ⟨lw_p175, fun _ h => absurd h List.not_mem_nil⟩⟩⟩⟩⟩⟩⟩⟩⟩⟩⟩⟩⟩⟩⟩⟩
set_option maxRecDepth 100000 in
theorem lw_p176 : lw_okq (⟨"TongueHouseModel", "noPlace", "(I)Z"⟩, 229) := lw_mk lw_c10 (pk9_t14 _ (List.mem_of_getElem? (i := 111) rfl)) (pk9_t14 _ (List.mem_of_getElem? (i := 112) rfl))
set_option maxRecDepth 100000 in
theorem lw_p177 : lw_okq (⟨"TongueHouseModel", "read", "(II)V"⟩, 229) := lw_mk lw_c10 (pk9_t14 _ (List.mem_of_getElem? (i := 115) rfl)) (pk9_t14 _ (List.mem_of_getElem? (i := 116) rfl))
set_option maxRecDepth 100000 in
theorem lw_p178 : lw_okq (⟨"TongueHouseModel", "noTree", "(I)Z"⟩, 229) := lw_mk lw_c10 (pk9_t14 _ (List.mem_of_getElem? (i := 123) rfl)) (pk9_t14 _ (List.mem_of_getElem? (i := 124) rfl))
set_option maxRecDepth 100000 in
theorem lw_p179 : lw_okq (⟨"TongueHouseModel", "takes", "(I)I"⟩, 229) := lw_mk lw_c10 (pk9_t14 _ (List.mem_of_getElem? (i := 131) rfl)) (pk9_t14 _ (List.mem_of_getElem? (i := 132) rfl))
set_option maxRecDepth 100000 in
theorem lw_p180 : lw_okq (⟨"TongueHouseModel", "shown", "(I)I"⟩, 229) := lw_mk lw_c10 (pk9_t14 _ (List.mem_of_getElem? (i := 135) rfl)) (pk9_t14 _ (List.mem_of_getElem? (i := 136) rfl))
set_option maxRecDepth 100000 in
theorem lw_p181 : lw_okq (⟨"TongueHouseModel", "outName", "(J)V"⟩, 229) := lw_mk lw_c10 (pk9_t14 _ (List.mem_of_getElem? (i := 139) rfl)) (pk9_t14 _ (List.mem_of_getElem? (i := 140) rfl))
set_option maxRecDepth 100000 in
theorem lw_p182 : lw_okq (⟨"TongueHouseModel", "options", "(II)I"⟩, 229) := lw_mk lw_c10 (pk9_t14 _ (List.mem_of_getElem? (i := 152) rfl)) (pk9_t14 _ (List.mem_of_getElem? (i := 153) rfl))
set_option maxRecDepth 100000 in
theorem lw_p183 : lw_okq (⟨"TongueHouseModel", "slot", "(III)I"⟩, 229) := lw_mk lw_c10 (pk9_t14 _ (List.mem_of_getElem? (i := 156) rfl)) (pk9_t14 _ (List.mem_of_getElem? (i := 157) rfl))
set_option maxRecDepth 100000 in
theorem lw_p184 : lw_okq (⟨"TongueHouseModel", "puts", "(IIIII)V"⟩, 229) := lw_mk lw_c10 (pk9_t14 _ (List.mem_of_getElem? (i := 160) rfl)) (pk9_t14 _ (List.mem_of_getElem? (i := 161) rfl))
set_option maxRecDepth 100000 in
theorem lw_p185 : lw_okq (⟨"TongueHouseModel", "ready", "(IIII)V"⟩, 229) := lw_mk lw_c10 (pk9_t14 _ (List.mem_of_getElem? (i := 164) rfl)) (pk9_t14 _ (List.mem_of_getElem? (i := 165) rfl))
set_option maxRecDepth 100000 in
theorem lw_p186 : lw_okq (⟨"TongueHouseModel", "hitsWord", "(III)Z"⟩, 229) := lw_mk lw_c10 (pk9_t14 _ (List.mem_of_getElem? (i := 184) rfl)) (pk9_t14 _ (List.mem_of_getElem? (i := 185) rfl))
set_option maxRecDepth 100000 in
theorem lw_p187 : lw_okq (⟨"TongueHouseModel", "mended", "(II)I"⟩, 229) := lw_mk lw_c10 (pk9_t14 _ (List.mem_of_getElem? (i := 196) rfl)) (pk9_t14 _ (List.mem_of_getElem? (i := 197) rfl))
set_option maxRecDepth 100000 in
theorem lw_p188 : lw_okq (⟨"TongueHouseModel", "word", "(I[BII)V"⟩, 229) := lw_mk lw_c10 (pk9_t14 _ (List.mem_of_getElem? (i := 200) rfl)) (pk9_t14 _ (List.mem_of_getElem? (i := 201) rfl))
set_option maxRecDepth 100000 in
theorem lw_p189 : lw_okq (⟨"TongueHouseModel", "back", "(II)V"⟩, 229) := lw_mk lw_c10 (pk9_t14 _ (List.mem_of_getElem? (i := 204) rfl)) (pk9_t14 _ (List.mem_of_getElem? (i := 205) rfl))
set_option maxRecDepth 100000 in
theorem lw_p190 : lw_okq (⟨"TongueHouseModel", "outSentence", "()V"⟩, 229) := lw_mk lw_c10 (pk9_t14 _ (List.mem_of_getElem? (i := 208) rfl)) (pk9_t14 _ (List.mem_of_getElem? (i := 209) rfl))
set_option maxRecDepth 100000 in
theorem lw_p191 : lw_okq (⟨"TongueHouseModel", "means", "()I"⟩, 229) := lw_mk lw_c10 (pk9_t14 _ (List.mem_of_getElem? (i := 216) rfl)) (pk9_t14 _ (List.mem_of_getElem? (i := 217) rfl))
def lw_privs_12 : List (MethodName × Nat) := [(⟨"TongueHouseModel", "noPlace", "(I)Z"⟩, 229), (⟨"TongueHouseModel", "read", "(II)V"⟩, 229), (⟨"TongueHouseModel", "noTree", "(I)Z"⟩, 229), (⟨"TongueHouseModel", "takes", "(I)I"⟩, 229), (⟨"TongueHouseModel", "shown", "(I)I"⟩, 229), (⟨"TongueHouseModel", "outName", "(J)V"⟩, 229), (⟨"TongueHouseModel", "options", "(II)I"⟩, 229), (⟨"TongueHouseModel", "slot", "(III)I"⟩, 229), (⟨"TongueHouseModel", "puts", "(IIIII)V"⟩, 229), (⟨"TongueHouseModel", "ready", "(IIII)V"⟩, 229), (⟨"TongueHouseModel", "hitsWord", "(III)Z"⟩, 229), (⟨"TongueHouseModel", "mended", "(II)I"⟩, 229), (⟨"TongueHouseModel", "word", "(I[BII)V"⟩, 229), (⟨"TongueHouseModel", "back", "(II)V"⟩, 229), (⟨"TongueHouseModel", "outSentence", "()V"⟩, 229), (⟨"TongueHouseModel", "means", "()I"⟩, 229)]
theorem lw_r12 : ∀ q ∈ lw_privs_12, lw_okq q := List.forall_mem_cons.mpr ⟨lw_p176, List.forall_mem_cons.mpr ⟨lw_p177, List.forall_mem_cons.mpr ⟨lw_p178, List.forall_mem_cons.mpr ⟨lw_p179, List.forall_mem_cons.mpr ⟨lw_p180, List.forall_mem_cons.mpr ⟨lw_p181, List.forall_mem_cons.mpr ⟨lw_p182, List.forall_mem_cons.mpr ⟨lw_p183, List.forall_mem_cons.mpr ⟨lw_p184, List.forall_mem_cons.mpr ⟨lw_p185, List.forall_mem_cons.mpr ⟨lw_p186, List.forall_mem_cons.mpr ⟨lw_p187, List.forall_mem_cons.mpr ⟨lw_p188, List.forall_mem_cons.mpr ⟨lw_p189, List.forall_mem_cons.mpr ⟨lw_p190, List.forall_mem_cons.mpr ⟨lw_p191, fun _ h => absurd h List.not_mem_nil⟩⟩⟩⟩⟩⟩⟩⟩⟩⟩⟩⟩⟩⟩⟩⟩
set_option maxRecDepth 100000 in
theorem lw_p192 : lw_okq (⟨"TongueHouseModel", "argumentsOf", "(I)I"⟩, 229) := lw_mk lw_c10 (pk9_t14 _ (List.mem_of_getElem? (i := 220) rfl)) (pk9_t14 _ (List.mem_of_getElem? (i := 221) rfl))
set_option maxRecDepth 100000 in
theorem lw_p193 : lw_okq (⟨"TongueHouseModel", "composed", "(II)I"⟩, 229) := lw_mk lw_c10 (pk9_t14 _ (List.mem_of_getElem? (i := 224) rfl)) (pk9_t14 _ (List.mem_of_getElem? (i := 225) rfl))
set_option maxRecDepth 100000 in
theorem lw_p194 : lw_okq (⟨"TongueHouseModel", "heap", "(IIIJ)I"⟩, 229) := lw_mk lw_c10 (pk9_t14 _ (List.mem_of_getElem? (i := 228) rfl)) (pk9_t14 _ (List.mem_of_getElem? (i := 229) rfl))
set_option maxRecDepth 100000 in
theorem lw_p195 : lw_okq (⟨"TongueHouseModel", "redex", "(I)I"⟩, 229) := lw_mk lw_c10 (pk9_t14 _ (List.mem_of_getElem? (i := 232) rfl)) (pk9_t14 _ (List.mem_of_getElem? (i := 233) rfl))
set_option maxRecDepth 100000 in
theorem lw_p196 : lw_okq (⟨"TongueHouseModel", "stepped", "(II)I"⟩, 229) := lw_mk lw_c10 (pk9_t14 _ (List.mem_of_getElem? (i := 236) rfl)) (pk9_t14 _ (List.mem_of_getElem? (i := 237) rfl))
set_option maxRecDepth 100000 in
theorem lw_p197 : lw_okq (⟨"TongueHouseModel", "put", "(III)I"⟩, 229) := lw_mk lw_c10 (pk9_t15 _ (List.mem_of_getElem? (i := 0) rfl)) (pk9_t15 _ (List.mem_of_getElem? (i := 1) rfl))
set_option maxRecDepth 100000 in
theorem lw_p198 : lw_okq (⟨"TongueHouseModel", "raised", "(III)I"⟩, 229) := lw_mk lw_c10 (pk9_t15 _ (List.mem_of_getElem? (i := 4) rfl)) (pk9_t15 _ (List.mem_of_getElem? (i := 5) rfl))
set_option maxRecDepth 100000 in
theorem lw_p199 : lw_okq (⟨"TongueHouseModel", "outTerm", "(II)V"⟩, 229) := lw_mk lw_c10 (pk9_t15 _ (List.mem_of_getElem? (i := 8) rfl)) (pk9_t15 _ (List.mem_of_getElem? (i := 9) rfl))
set_option maxRecDepth 100000 in
theorem lw_p200 : lw_okq (⟨"TongueHouseModel", "outNumber", "(I)V"⟩, 229) := lw_mk lw_c10 (pk9_t15 _ (List.mem_of_getElem? (i := 12) rfl)) (pk9_t15 _ (List.mem_of_getElem? (i := 13) rfl))
set_option maxRecDepth 100000 in
theorem lw_p201 : lw_okq (⟨"TongueHouseModel", "outApplied", "(II)V"⟩, 229) := lw_mk lw_c10 (pk9_t15 _ (List.mem_of_getElem? (i := 16) rfl)) (pk9_t15 _ (List.mem_of_getElem? (i := 17) rfl))
set_option maxRecDepth 100000 in
theorem lw_p202 : lw_okq (⟨"TongueHouseModel", "holds", "(I)I"⟩, 229) := lw_mk lw_c10 (pk9_t15 _ (List.mem_of_getElem? (i := 24) rfl)) (pk9_t15 _ (List.mem_of_getElem? (i := 25) rfl))
set_option maxRecDepth 100000 in
theorem lw_p203 : lw_okq (⟨"TongueHouseModel", "thingOf", "(I)I"⟩, 229) := lw_mk lw_c10 (pk9_t15 _ (List.mem_of_getElem? (i := 28) rfl)) (pk9_t15 _ (List.mem_of_getElem? (i := 29) rfl))
def lw_privs_13 : List (MethodName × Nat) := [(⟨"TongueHouseModel", "argumentsOf", "(I)I"⟩, 229), (⟨"TongueHouseModel", "composed", "(II)I"⟩, 229), (⟨"TongueHouseModel", "heap", "(IIIJ)I"⟩, 229), (⟨"TongueHouseModel", "redex", "(I)I"⟩, 229), (⟨"TongueHouseModel", "stepped", "(II)I"⟩, 229), (⟨"TongueHouseModel", "put", "(III)I"⟩, 229), (⟨"TongueHouseModel", "raised", "(III)I"⟩, 229), (⟨"TongueHouseModel", "outTerm", "(II)V"⟩, 229), (⟨"TongueHouseModel", "outNumber", "(I)V"⟩, 229), (⟨"TongueHouseModel", "outApplied", "(II)V"⟩, 229), (⟨"TongueHouseModel", "holds", "(I)I"⟩, 229), (⟨"TongueHouseModel", "thingOf", "(I)I"⟩, 229)]
theorem lw_r13 : ∀ q ∈ lw_privs_13, lw_okq q := List.forall_mem_cons.mpr ⟨lw_p192, List.forall_mem_cons.mpr ⟨lw_p193, List.forall_mem_cons.mpr ⟨lw_p194, List.forall_mem_cons.mpr ⟨lw_p195, List.forall_mem_cons.mpr ⟨lw_p196, List.forall_mem_cons.mpr ⟨lw_p197, List.forall_mem_cons.mpr ⟨lw_p198, List.forall_mem_cons.mpr ⟨lw_p199, List.forall_mem_cons.mpr ⟨lw_p200, List.forall_mem_cons.mpr ⟨lw_p201, List.forall_mem_cons.mpr ⟨lw_p202, List.forall_mem_cons.mpr ⟨lw_p203, fun _ h => absurd h List.not_mem_nil⟩⟩⟩⟩⟩⟩⟩⟩⟩⟩⟩⟩
def lw_privs : List (MethodName × Nat) := lw_privs_1 ++ (lw_privs_2 ++ (lw_privs_3 ++ (lw_privs_4 ++ (lw_privs_5 ++ (lw_privs_6 ++ (lw_privs_7 ++ (lw_privs_8 ++ (lw_privs_9 ++ (lw_privs_10 ++ (lw_privs_11 ++ (lw_privs_12 ++ (lw_privs_13))))))))))))
def lw_tbl : List Cond := k2_sels lw_privs ++ tables_1
theorem lw_privs_ok : ∀ q ∈ lw_privs, lw_okq q := by
  show ∀ q ∈ lw_privs_1 ++ (lw_privs_2 ++ (lw_privs_3 ++ (lw_privs_4 ++ (lw_privs_5 ++ (lw_privs_6 ++ (lw_privs_7 ++ (lw_privs_8 ++ (lw_privs_9 ++ (lw_privs_10 ++ (lw_privs_11 ++ (lw_privs_12 ++ (lw_privs_13)))))))))))), lw_okq q
  exact List.forall_mem_append.mpr ⟨lw_r1, List.forall_mem_append.mpr ⟨lw_r2, List.forall_mem_append.mpr ⟨lw_r3, List.forall_mem_append.mpr ⟨lw_r4, List.forall_mem_append.mpr ⟨lw_r5, List.forall_mem_append.mpr ⟨lw_r6, List.forall_mem_append.mpr ⟨lw_r7, List.forall_mem_append.mpr ⟨lw_r8, List.forall_mem_append.mpr ⟨lw_r9, List.forall_mem_append.mpr ⟨lw_r10, List.forall_mem_append.mpr ⟨lw_r11, List.forall_mem_append.mpr ⟨lw_r12, lw_r13⟩⟩⟩⟩⟩⟩⟩⟩⟩⟩⟩⟩
