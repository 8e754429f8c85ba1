theorem lx_mk {c m d : String} {n : Nat} (h : (c ≠ "java/lang/invoke/MethodHandle" ∧ c ≠ "java/lang/invoke/VarHandle") ∧ Cond.instantiable c n ∈ tables_1) (a : Cond.privateMethod ⟨c, m, d⟩ ∈ tables_1) (b : Cond.instanceMethod ⟨c, m, d⟩ ∈ tables_1) : lw_okq (⟨c, m, d⟩, n) := ⟨h.1, h.2, a, b⟩
set_option maxRecDepth 100000 in
theorem lx_c0 : ("TongueHouse$Text" ≠ "java/lang/invoke/MethodHandle" ∧ "TongueHouse$Text" ≠ "java/lang/invoke/VarHandle") ∧ Cond.instantiable "TongueHouse$Text" 10 ∈ tables_1 := ⟨⟨by decide +kernel, by decide +kernel⟩, pk9_t1 _ (List.mem_of_getElem? (i := 171) rfl)⟩
set_option maxRecDepth 100000 in
theorem lx_c1 : ("TongueHouse$Reader" ≠ "java/lang/invoke/MethodHandle" ∧ "TongueHouse$Reader" ≠ "java/lang/invoke/VarHandle") ∧ Cond.instantiable "TongueHouse$Reader" 19 ∈ tables_1 := ⟨⟨by decide +kernel, by decide +kernel⟩, pk9_t1 _ (List.mem_of_getElem? (i := 233) rfl)⟩
set_option maxRecDepth 100000 in
theorem lx_c2 : ("TongueHouse$Ranking" ≠ "java/lang/invoke/MethodHandle" ∧ "TongueHouse$Ranking" ≠ "java/lang/invoke/VarHandle") ∧ Cond.instantiable "TongueHouse$Ranking" 19 ∈ tables_1 := ⟨⟨by decide +kernel, by decide +kernel⟩, pk9_t2 _ (List.mem_of_getElem? (i := 145) rfl)⟩
set_option maxRecDepth 100000 in
theorem lx_c3 : ("java/lang/Throwable" ≠ "java/lang/invoke/MethodHandle" ∧ "java/lang/Throwable" ≠ "java/lang/invoke/VarHandle") ∧ Cond.instantiable "java/lang/Throwable" 6 ∈ tables_1 := ⟨⟨by decide +kernel, by decide +kernel⟩, pk9_t6 _ (List.mem_of_getElem? (i := 146) rfl)⟩
set_option maxRecDepth 100000 in
theorem lx_c4 : ("TongueHouse" ≠ "java/lang/invoke/MethodHandle" ∧ "TongueHouse" ≠ "java/lang/invoke/VarHandle") ∧ Cond.instantiable "TongueHouse" 17 ∈ tables_1 := ⟨⟨by decide +kernel, by decide +kernel⟩, pk9_t1 _ (List.mem_of_getElem? (i := 29) rfl)⟩
set_option maxRecDepth 100000 in
theorem lx_c5 : ("TongueHouse$Forms" ≠ "java/lang/invoke/MethodHandle" ∧ "TongueHouse$Forms" ≠ "java/lang/invoke/VarHandle") ∧ Cond.instantiable "TongueHouse$Forms" 10 ∈ tables_1 := ⟨⟨by decide +kernel, by decide +kernel⟩, pk9_t4 _ (List.mem_of_getElem? (i := 60) rfl)⟩
set_option maxRecDepth 100000 in
theorem lx_c6 : ("TongueHouse$Finder" ≠ "java/lang/invoke/MethodHandle" ∧ "TongueHouse$Finder" ≠ "java/lang/invoke/VarHandle") ∧ Cond.instantiable "TongueHouse$Finder" 19 ∈ tables_1 := ⟨⟨by decide +kernel, by decide +kernel⟩, pk9_t3 _ (List.mem_of_getElem? (i := 84) rfl)⟩
set_option maxRecDepth 100000 in
theorem lx_c7 : ("TongueHouse$Chart" ≠ "java/lang/invoke/MethodHandle" ∧ "TongueHouse$Chart" ≠ "java/lang/invoke/VarHandle") ∧ Cond.instantiable "TongueHouse$Chart" 22 ∈ tables_1 := ⟨⟨by decide +kernel, by decide +kernel⟩, pk9_t2 _ (List.mem_of_getElem? (i := 59) rfl)⟩
set_option maxRecDepth 100000 in
theorem lx_c8 : ("TongueHouse$Sayer" ≠ "java/lang/invoke/MethodHandle" ∧ "TongueHouse$Sayer" ≠ "java/lang/invoke/VarHandle") ∧ Cond.instantiable "TongueHouse$Sayer" 14 ∈ tables_1 := ⟨⟨by decide +kernel, by decide +kernel⟩, pk9_t2 _ (List.mem_of_getElem? (i := 211) rfl)⟩
set_option maxRecDepth 100000 in
theorem lx_c9 : ("TongueHouse$Thought" ≠ "java/lang/invoke/MethodHandle" ∧ "TongueHouse$Thought" ≠ "java/lang/invoke/VarHandle") ∧ Cond.instantiable "TongueHouse$Thought" 19 ∈ tables_1 := ⟨⟨by decide +kernel, by decide +kernel⟩, pk9_t3 _ (List.mem_of_getElem? (i := 20) rfl)⟩
set_option maxRecDepth 100000 in
theorem lx_c10 : ("TongueHouseModel" ≠ "java/lang/invoke/MethodHandle" ∧ "TongueHouseModel" ≠ "java/lang/invoke/VarHandle") ∧ Cond.instantiable "TongueHouseModel" 229 ∈ tables_1 := ⟨⟨by decide +kernel, by decide +kernel⟩, pk9_t9 _ (List.mem_of_getElem? (i := 84) rfl)⟩
set_option maxRecDepth 100000 in
theorem lx_p0 : lw_okq (⟨"TongueHouse$Text", "takeName", "()V"⟩, 10) := lx_mk lx_c0 (pk9_t3 _ (List.mem_of_getElem? (i := 238) rfl)) (pk9_t3 _ (List.mem_of_getElem? (i := 239) rfl))
set_option maxRecDepth 100000 in
theorem lx_p1 : lw_okq (⟨"TongueHouse$Text", "takeNumber", "()V"⟩, 10) := lx_mk lx_c0 (pk9_t4 _ (List.mem_of_getElem? (i := 2) rfl)) (pk9_t4 _ (List.mem_of_getElem? (i := 3) rfl))
set_option maxRecDepth 100000 in
theorem lx_p2 : lw_okq (⟨"TongueHouse$Text", "takeLetters", "()V"⟩, 10) := lx_mk lx_c0 (pk9_t4 _ (List.mem_of_getElem? (i := 6) rfl)) (pk9_t4 _ (List.mem_of_getElem? (i := 7) rfl))
set_option maxRecDepth 100000 in
theorem lx_p3 : lw_okq (⟨"TongueHouse$Reader", "wrong", "(II)Z"⟩, 19) := lx_mk lx_c1 (pk9_t4 _ (List.mem_of_getElem? (i := 17) rfl)) (pk9_t4 _ (List.mem_of_getElem? (i := 18) rfl))
set_option maxRecDepth 100000 in
theorem lx_p4 : lw_okq (⟨"TongueHouse$Reader", "readTongue", "()Z"⟩, 19) := lx_mk lx_c1 (pk9_t4 _ (List.mem_of_getElem? (i := 23) rfl)) (pk9_t4 _ (List.mem_of_getElem? (i := 24) rfl))
set_option maxRecDepth 100000 in
theorem lx_p5 : lw_okq (⟨"TongueHouse$Reader", "need", "(I)Z"⟩, 19) := lx_mk lx_c1 (pk9_t4 _ (List.mem_of_getElem? (i := 27) rfl)) (pk9_t4 _ (List.mem_of_getElem? (i := 28) rfl))
set_option maxRecDepth 100000 in
theorem lx_p6 : lw_okq (⟨"TongueHouse$Reader", "closes", "(Z)Z"⟩, 19) := lx_mk lx_c1 (pk9_t4 _ (List.mem_of_getElem? (i := 39) rfl)) (pk9_t4 _ (List.mem_of_getElem? (i := 40) rfl))
set_option maxRecDepth 100000 in
theorem lx_p7 : lw_okq (⟨"TongueHouse$Reader", "take", "(I)Z"⟩, 19) := lx_mk lx_c1 (pk9_t4 _ (List.mem_of_getElem? (i := 43) rfl)) (pk9_t4 _ (List.mem_of_getElem? (i := 44) rfl))
set_option maxRecDepth 100000 in
theorem lx_p8 : lw_okq (⟨"TongueHouse$Reader", "readNewName", "(LTongueHouse$Names;)Z"⟩, 19) := lx_mk lx_c1 (pk9_t4 _ (List.mem_of_getElem? (i := 201) rfl)) (pk9_t4 _ (List.mem_of_getElem? (i := 202) rfl))
set_option maxRecDepth 100000 in
theorem lx_p9 : lw_okq (⟨"TongueHouse$Reader", "needNew", "(LTongueHouse$Names;)Z"⟩, 19) := lx_mk lx_c1 (pk9_t4 _ (List.mem_of_getElem? (i := 205) rfl)) (pk9_t4 _ (List.mem_of_getElem? (i := 206) rfl))
set_option maxRecDepth 100000 in
theorem lx_p10 : lw_okq (⟨"TongueHouse$Reader", "readFun", "()Z"⟩, 19) := lx_mk lx_c1 (pk9_t4 _ (List.mem_of_getElem? (i := 211) rfl)) (pk9_t4 _ (List.mem_of_getElem? (i := 212) rfl))
set_option maxRecDepth 100000 in
theorem lx_p11 : lw_okq (⟨"TongueHouse$Reader", "needKnown", "(LTongueHouse$Names;)Z"⟩, 19) := lx_mk lx_c1 (pk9_t4 _ (List.mem_of_getElem? (i := 215) rfl)) (pk9_t4 _ (List.mem_of_getElem? (i := 216) rfl))
set_option maxRecDepth 100000 in
theorem lx_p12 : lw_okq (⟨"TongueHouse$Reader", "readCost", "()Z"⟩, 19) := lx_mk lx_c1 (pk9_t4 _ (List.mem_of_getElem? (i := 219) rfl)) (pk9_t4 _ (List.mem_of_getElem? (i := 220) rfl))
set_option maxRecDepth 100000 in
theorem lx_p13 : lw_okq (⟨"TongueHouse$Reader", "isWord", "(J)Z"⟩, 19) := lx_mk lx_c1 (pk9_t4 _ (List.mem_of_getElem? (i := 224) rfl)) (pk9_t4 _ (List.mem_of_getElem? (i := 225) rfl))
set_option maxRecDepth 100000 in
theorem lx_p14 : lw_okq (⟨"TongueHouse$Reader", "readMean", "()Z"⟩, 19) := lx_mk lx_c1 (pk9_t4 _ (List.mem_of_getElem? (i := 230) rfl)) (pk9_t4 _ (List.mem_of_getElem? (i := 231) rfl))
set_option maxRecDepth 100000 in
theorem lx_p15 : lw_okq (⟨"TongueHouse$Reader", "readTerm", "(II)Z"⟩, 19) := lx_mk lx_c1 (pk9_t4 _ (List.mem_of_getElem? (i := 234) rfl)) (pk9_t4 _ (List.mem_of_getElem? (i := 235) rfl))
