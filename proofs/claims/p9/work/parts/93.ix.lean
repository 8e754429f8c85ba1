/-! STRING.INDEXOF on the text of signs. -/
def jx_ws : List Cond := [Cond.fieldLink RJ0 38 "java/lang/String" "COMPACT_STRINGS" "Z",
  Cond.fieldLink RJ0 15 "java/lang/String" "coder" "B",
  Cond.fieldLink RJ0 9 "java/lang/String" "value" "[B",
  Cond.code yJ0_coder_7d493 cJ0_coder_7d493 1 (some .byte),
  Cond.methodLink RJ0 335 yJ0_coder_7d493,
  Cond.instanceMethod yJ0_coder_7d493,
  Cond.selects RJ0 yJ0_coder_7d493 yJ0_coder_7d493,
  Cond.initialized RJ0,
  Cond.code yJ1_canEncode_9a6ad cJ1_canEncode_9a6ad 1 (some .boolean),
  Cond.methodLink RJ1 88 yJ1_canEncode_9a6ad,
  Cond.static yJ1_canEncode_9a6ad,
  Cond.initialized RJ1,
  Cond.methodLink RJ1 92 Lib.Math.max.name,
  Cond.static Lib.Math.max.name,
  Cond.initialized "java/lang/Math",
  Cond.code Lib.Math.max.name Lib.Math.max.code 2 (some .int),
  Cond.methodLink RJ1 38 Lib.Math.min.name,
  Cond.static Lib.Math.min.name,
  Cond.code Lib.Math.min.name Lib.Math.min.code 2 (some .int),
  Cond.code yJ1_indexOfChar_4cfef cJ1_indexOfChar_4cfef 6 (some .int),
  Cond.methodLink RJ1 95 yJ1_indexOfChar_4cfef,
  Cond.static yJ1_indexOfChar_4cfef,
  Cond.code yJ0_isLatin1_aae02 cJ0_isLatin1_aae02 1 (some .boolean),
  Cond.methodLink RJ0 492 yJ0_isLatin1_aae02,
  Cond.instanceMethod yJ0_isLatin1_aae02,
  Cond.selects RJ0 yJ0_isLatin1_aae02 yJ0_isLatin1_aae02,
  Cond.code yJ0_length_8abf5 cJ0_length_8abf5 1 (some .int),
  Cond.methodLink RJ0 505 yJ0_length_8abf5,
  Cond.instanceMethod yJ0_length_8abf5,
  Cond.selects RJ0 yJ0_length_8abf5 yJ0_length_8abf5,
  Cond.code yJ1_indexOf_4cfef cJ1_indexOf_4cfef 4 (some .int),
  Cond.methodLink RJ0 637 yJ1_indexOf_4cfef,
  Cond.static yJ1_indexOf_4cfef,
  Cond.code yJ0_indexOf_7cf53 cJ0_indexOf_7cf53 3 (some .int),
  Cond.methodLink RJ0 633 yJ0_indexOf_7cf53,
  Cond.instanceMethod yJ0_indexOf_7cf53,
  Cond.selects RJ0 yJ0_indexOf_7cf53 yJ0_indexOf_7cf53]
theorem jx_good : ∀ w ∈ jx_ws, goodWord w = true := List.all_eq_true.mp (by decide +kernel)
theorem jx0 : Cond.fieldLink RJ0 38 "java/lang/String" "COMPACT_STRINGS" "Z" ∈ jx_ws := List.mem_of_getElem? (i := 0) rfl
theorem jx1 : Cond.fieldLink RJ0 15 "java/lang/String" "coder" "B" ∈ jx_ws := List.mem_of_getElem? (i := 1) rfl
theorem jx2 : Cond.fieldLink RJ0 9 "java/lang/String" "value" "[B" ∈ jx_ws := List.mem_of_getElem? (i := 2) rfl
theorem jx3 : Cond.code yJ0_coder_7d493 cJ0_coder_7d493 1 (some .byte) ∈ jx_ws := List.mem_of_getElem? (i := 3) rfl
theorem jx4 : Cond.methodLink RJ0 335 yJ0_coder_7d493 ∈ jx_ws := List.mem_of_getElem? (i := 4) rfl
theorem jx5 : Cond.instanceMethod yJ0_coder_7d493 ∈ jx_ws := List.mem_of_getElem? (i := 5) rfl
theorem jx6 : Cond.selects RJ0 yJ0_coder_7d493 yJ0_coder_7d493 ∈ jx_ws := List.mem_of_getElem? (i := 6) rfl
theorem jx7 : Cond.initialized RJ0 ∈ jx_ws := List.mem_of_getElem? (i := 7) rfl
theorem jx8 : Cond.code yJ1_canEncode_9a6ad cJ1_canEncode_9a6ad 1 (some .boolean) ∈ jx_ws := List.mem_of_getElem? (i := 8) rfl
theorem jx9 : Cond.methodLink RJ1 88 yJ1_canEncode_9a6ad ∈ jx_ws := List.mem_of_getElem? (i := 9) rfl
theorem jx10 : Cond.static yJ1_canEncode_9a6ad ∈ jx_ws := List.mem_of_getElem? (i := 10) rfl
theorem jx11 : Cond.initialized RJ1 ∈ jx_ws := List.mem_of_getElem? (i := 11) rfl
theorem jx12 : Cond.methodLink RJ1 92 Lib.Math.max.name ∈ jx_ws := List.mem_of_getElem? (i := 12) rfl
theorem jx13 : Cond.static Lib.Math.max.name ∈ jx_ws := List.mem_of_getElem? (i := 13) rfl
theorem jx14 : Cond.initialized "java/lang/Math" ∈ jx_ws := List.mem_of_getElem? (i := 14) rfl
theorem jx15 : Cond.code Lib.Math.max.name Lib.Math.max.code 2 (some .int) ∈ jx_ws := List.mem_of_getElem? (i := 15) rfl
theorem jx16 : Cond.methodLink RJ1 38 Lib.Math.min.name ∈ jx_ws := List.mem_of_getElem? (i := 16) rfl
theorem jx17 : Cond.static Lib.Math.min.name ∈ jx_ws := List.mem_of_getElem? (i := 17) rfl
theorem jx18 : Cond.code Lib.Math.min.name Lib.Math.min.code 2 (some .int) ∈ jx_ws := List.mem_of_getElem? (i := 18) rfl
theorem jx19 : Cond.code yJ1_indexOfChar_4cfef cJ1_indexOfChar_4cfef 6 (some .int) ∈ jx_ws := List.mem_of_getElem? (i := 19) rfl
theorem jx20 : Cond.methodLink RJ1 95 yJ1_indexOfChar_4cfef ∈ jx_ws := List.mem_of_getElem? (i := 20) rfl
theorem jx21 : Cond.static yJ1_indexOfChar_4cfef ∈ jx_ws := List.mem_of_getElem? (i := 21) rfl
theorem jx22 : Cond.code yJ0_isLatin1_aae02 cJ0_isLatin1_aae02 1 (some .boolean) ∈ jx_ws := List.mem_of_getElem? (i := 22) rfl
theorem jx23 : Cond.methodLink RJ0 492 yJ0_isLatin1_aae02 ∈ jx_ws := List.mem_of_getElem? (i := 23) rfl
theorem jx24 : Cond.instanceMethod yJ0_isLatin1_aae02 ∈ jx_ws := List.mem_of_getElem? (i := 24) rfl
theorem jx25 : Cond.selects RJ0 yJ0_isLatin1_aae02 yJ0_isLatin1_aae02 ∈ jx_ws := List.mem_of_getElem? (i := 25) rfl
theorem jx26 : Cond.code yJ0_length_8abf5 cJ0_length_8abf5 1 (some .int) ∈ jx_ws := List.mem_of_getElem? (i := 26) rfl
theorem jx27 : Cond.methodLink RJ0 505 yJ0_length_8abf5 ∈ jx_ws := List.mem_of_getElem? (i := 27) rfl
theorem jx28 : Cond.instanceMethod yJ0_length_8abf5 ∈ jx_ws := List.mem_of_getElem? (i := 28) rfl
theorem jx29 : Cond.selects RJ0 yJ0_length_8abf5 yJ0_length_8abf5 ∈ jx_ws := List.mem_of_getElem? (i := 29) rfl
theorem jx30 : Cond.code yJ1_indexOf_4cfef cJ1_indexOf_4cfef 4 (some .int) ∈ jx_ws := List.mem_of_getElem? (i := 30) rfl
theorem jx31 : Cond.methodLink RJ0 637 yJ1_indexOf_4cfef ∈ jx_ws := List.mem_of_getElem? (i := 31) rfl
theorem jx32 : Cond.static yJ1_indexOf_4cfef ∈ jx_ws := List.mem_of_getElem? (i := 32) rfl
theorem jx33 : Cond.code yJ0_indexOf_7cf53 cJ0_indexOf_7cf53 3 (some .int) ∈ jx_ws := List.mem_of_getElem? (i := 33) rfl
theorem jx34 : Cond.methodLink RJ0 633 yJ0_indexOf_7cf53 ∈ jx_ws := List.mem_of_getElem? (i := 34) rfl
theorem jx35 : Cond.instanceMethod yJ0_indexOf_7cf53 ∈ jx_ws := List.mem_of_getElem? (i := 35) rfl
theorem jx36 : Cond.selects RJ0 yJ0_indexOf_7cf53 yJ0_indexOf_7cf53 ∈ jx_ws := List.mem_of_getElem? (i := 36) rfl
theorem jx_gV {c0 c1 : Cond} {own C : String} {index : Nat} {y : MethodName} (h0 : c1 ∈ jx_ws) (h1 : Cond.methodLink own index y ∈ jx_ws) (h2 : Cond.instanceMethod y ∈ jx_ws) (h3 : Cond.selects C y y ∈ jx_ws) (h4 : Cond.initialized C ∈ jx_ws) : GoodIn (c0 :: jx_ws) (wsV own index C y (c1 :: jx_ws)) := fun w hw => by
  have h9 : w ∈ jx_ws := by
    rcases List.mem_append.mp hw with hw | hw
    · rcases List.mem_cons.mp hw with rfl | hw
      · exact h1
      rcases List.mem_cons.mp hw with rfl | hw
      · exact h2
      rcases List.mem_cons.mp hw with rfl | hw
      · exact h3
      rcases List.mem_cons.mp hw with rfl | hw
      · exact h4
      exact absurd hw List.not_mem_nil
    · rcases List.mem_cons.mp hw with rfl | hw
      · exact h0
      · exact hw
  exact ⟨List.mem_cons_of_mem _ h9, good_of_word (jx_good w h9)⟩
theorem jx_gS {c0 c1 : Cond} {own : String} {index : Nat} {y : MethodName} (h0 : c1 ∈ jx_ws) (h1 : Cond.methodLink own index y ∈ jx_ws) (h2 : Cond.static y ∈ jx_ws) (h3 : Cond.initialized y.cls ∈ jx_ws) : GoodIn (c0 :: jx_ws) (va_wsS own index y (c1 :: jx_ws)) := fun w hw => by
  have h9 : w ∈ jx_ws := by
    rcases List.mem_append.mp hw with hw | hw
    · rcases List.mem_cons.mp hw with rfl | hw
      · exact h1
      rcases List.mem_cons.mp hw with rfl | hw
      · exact h2
      rcases List.mem_cons.mp hw with rfl | hw
      · exact h3
      exact absurd hw List.not_mem_nil
    · rcases List.mem_cons.mp hw with rfl | hw
      · exact h0
      · exact hw
  exact ⟨List.mem_cons_of_mem _ h9, good_of_word (jx_good w h9)⟩
theorem jpd_J0_coder_7d493 : yJ0_coder_7d493.cls = RJ0 ∧ yJ0_coder_7d493.cls ≠ "java/lang/invoke/MethodHandle" ∧ yJ0_coder_7d493.cls ≠ "java/lang/invoke/VarHandle" ∧ (parseMethodDescriptor yJ0_coder_7d493.desc).map (fun d => d.parameters.length) = some 0 := by decide +kernel
theorem jpd_J0_indexOf_7cf53 : yJ0_indexOf_7cf53.cls = RJ0 ∧ yJ0_indexOf_7cf53.cls ≠ "java/lang/invoke/MethodHandle" ∧ yJ0_indexOf_7cf53.cls ≠ "java/lang/invoke/VarHandle" ∧ (parseMethodDescriptor yJ0_indexOf_7cf53.desc).map (fun d => d.parameters.length) = some 2 := by decide +kernel
theorem jpd_J0_isLatin1_aae02 : yJ0_isLatin1_aae02.cls = RJ0 ∧ yJ0_isLatin1_aae02.cls ≠ "java/lang/invoke/MethodHandle" ∧ yJ0_isLatin1_aae02.cls ≠ "java/lang/invoke/VarHandle" ∧ (parseMethodDescriptor yJ0_isLatin1_aae02.desc).map (fun d => d.parameters.length) = some 0 := by decide +kernel
theorem jpd_J0_length_8abf5 : yJ0_length_8abf5.cls = RJ0 ∧ yJ0_length_8abf5.cls ≠ "java/lang/invoke/MethodHandle" ∧ yJ0_length_8abf5.cls ≠ "java/lang/invoke/VarHandle" ∧ (parseMethodDescriptor yJ0_length_8abf5.desc).map (fun d => d.parameters.length) = some 0 := by decide +kernel
theorem jpd_J1_canEncode_9a6ad : yJ1_canEncode_9a6ad.cls ≠ "java/lang/invoke/MethodHandle" ∧ yJ1_canEncode_9a6ad.cls ≠ "java/lang/invoke/VarHandle" ∧ (parseMethodDescriptor yJ1_canEncode_9a6ad.desc).map (fun d => d.parameters.length) = some 1 := by decide +kernel
theorem jpd_J1_indexOfChar_4cfef : yJ1_indexOfChar_4cfef.cls ≠ "java/lang/invoke/MethodHandle" ∧ yJ1_indexOfChar_4cfef.cls ≠ "java/lang/invoke/VarHandle" ∧ (parseMethodDescriptor yJ1_indexOfChar_4cfef.desc).map (fun d => d.parameters.length) = some 4 := by decide +kernel
theorem jpd_J1_indexOf_4cfef : yJ1_indexOf_4cfef.cls ≠ "java/lang/invoke/MethodHandle" ∧ yJ1_indexOf_4cfef.cls ≠ "java/lang/invoke/VarHandle" ∧ (parseMethodDescriptor yJ1_indexOf_4cfef.desc).map (fun d => d.parameters.length) = some 4 := by decide +kernel
theorem jdJ0_coder_7d493_0 : decode cJ0_coder_7d493 0 = .ok (.getstatic 38, 3) := by decide +kernel
theorem jdJ0_coder_7d493_3 : decode cJ0_coder_7d493 3 = .ok (.ifCond .eq 10, 3) := by decide +kernel
theorem jdJ0_coder_7d493_6 : decode cJ0_coder_7d493 6 = .ok (.aload_n 0, 1) := by decide +kernel
theorem jdJ0_coder_7d493_7 : decode cJ0_coder_7d493 7 = .ok (.getfield 15, 3) := by decide +kernel
theorem jdJ0_coder_7d493_10 : decode cJ0_coder_7d493 10 = .ok (.goto 4, 3) := by decide +kernel
theorem jdJ0_coder_7d493_14 : decode cJ0_coder_7d493 14 = .ok (.ireturn, 1) := by decide +kernel
theorem jdJ0_isLatin1_aae02_0 : decode cJ0_isLatin1_aae02 0 = .ok (.getstatic 38, 3) := by decide +kernel
theorem jdJ0_isLatin1_aae02_3 : decode cJ0_isLatin1_aae02 3 = .ok (.ifCond .eq 14, 3) := by decide +kernel
theorem jdJ0_isLatin1_aae02_6 : decode cJ0_isLatin1_aae02 6 = .ok (.aload_n 0, 1) := by decide +kernel
theorem jdJ0_isLatin1_aae02_7 : decode cJ0_isLatin1_aae02 7 = .ok (.getfield 15, 3) := by decide +kernel
theorem jdJ0_isLatin1_aae02_10 : decode cJ0_isLatin1_aae02 10 = .ok (.ifCond .ne 7, 3) := by decide +kernel
theorem jdJ0_isLatin1_aae02_13 : decode cJ0_isLatin1_aae02 13 = .ok (.iconst 1, 1) := by decide +kernel
theorem jdJ0_isLatin1_aae02_14 : decode cJ0_isLatin1_aae02 14 = .ok (.goto 4, 3) := by decide +kernel
theorem jdJ0_isLatin1_aae02_18 : decode cJ0_isLatin1_aae02 18 = .ok (.ireturn, 1) := by decide +kernel
theorem jdJ0_length_8abf5_0 : decode cJ0_length_8abf5 0 = .ok (.aload_n 0, 1) := by decide +kernel
theorem jdJ0_length_8abf5_1 : decode cJ0_length_8abf5 1 = .ok (.getfield 9, 3) := by decide +kernel
theorem jdJ0_length_8abf5_4 : decode cJ0_length_8abf5 4 = .ok (.arraylength, 1) := by decide +kernel
theorem jdJ0_length_8abf5_5 : decode cJ0_length_8abf5 5 = .ok (.aload_n 0, 1) := by decide +kernel
theorem jdJ0_length_8abf5_6 : decode cJ0_length_8abf5 6 = .ok (.invokevirtual 335, 3) := by decide +kernel
theorem jdJ0_length_8abf5_9 : decode cJ0_length_8abf5 9 = .ok (.ishr, 1) := by decide +kernel
theorem jdJ0_length_8abf5_10 : decode cJ0_length_8abf5 10 = .ok (.ireturn, 1) := by decide +kernel
theorem jdJ1_canEncode_9a6ad_0 : decode cJ1_canEncode_9a6ad 0 = .ok (.iload_n 0, 1) := by decide +kernel
theorem jdJ1_canEncode_9a6ad_1 : decode cJ1_canEncode_9a6ad 1 = .ok (.ifCond .lt 14, 3) := by decide +kernel
theorem jdJ1_canEncode_9a6ad_4 : decode cJ1_canEncode_9a6ad 4 = .ok (.iload_n 0, 1) := by decide +kernel
theorem jdJ1_canEncode_9a6ad_5 : decode cJ1_canEncode_9a6ad 5 = .ok (.sipush 255, 3) := by decide +kernel
theorem jdJ1_canEncode_9a6ad_8 : decode cJ1_canEncode_9a6ad 8 = .ok (.if_icmp .gt 7, 3) := by decide +kernel
theorem jdJ1_canEncode_9a6ad_11 : decode cJ1_canEncode_9a6ad 11 = .ok (.iconst 1, 1) := by decide +kernel
theorem jdJ1_canEncode_9a6ad_12 : decode cJ1_canEncode_9a6ad 12 = .ok (.goto 4, 3) := by decide +kernel
theorem jdJ1_canEncode_9a6ad_15 : decode cJ1_canEncode_9a6ad 15 = .ok (.iconst 0, 1) := by decide +kernel
theorem jdJ1_canEncode_9a6ad_16 : decode cJ1_canEncode_9a6ad 16 = .ok (.ireturn, 1) := by decide +kernel
theorem jdJ1_indexOfChar_4cfef_0 : decode cJ1_indexOfChar_4cfef 0 = .ok (.iload_n 1, 1) := by decide +kernel
theorem jdJ1_indexOfChar_4cfef_1 : decode cJ1_indexOfChar_4cfef 1 = .ok (.i2b, 1) := by decide +kernel
theorem jdJ1_indexOfChar_4cfef_2 : decode cJ1_indexOfChar_4cfef 2 = .ok (.istore 4, 2) := by decide +kernel
theorem jdJ1_indexOfChar_4cfef_4 : decode cJ1_indexOfChar_4cfef 4 = .ok (.iload_n 2, 1) := by decide +kernel
theorem jdJ1_indexOfChar_4cfef_5 : decode cJ1_indexOfChar_4cfef 5 = .ok (.istore 5, 2) := by decide +kernel
theorem jdJ1_indexOfChar_4cfef_7 : decode cJ1_indexOfChar_4cfef 7 = .ok (.iload 5, 2) := by decide +kernel
theorem jdJ1_indexOfChar_4cfef_9 : decode cJ1_indexOfChar_4cfef 9 = .ok (.iload_n 3, 1) := by decide +kernel
theorem jdJ1_indexOfChar_4cfef_10 : decode cJ1_indexOfChar_4cfef 10 = .ok (.if_icmp .ge 21, 3) := by decide +kernel
theorem jdJ1_indexOfChar_4cfef_13 : decode cJ1_indexOfChar_4cfef 13 = .ok (.aload_n 0, 1) := by decide +kernel
theorem jdJ1_indexOfChar_4cfef_14 : decode cJ1_indexOfChar_4cfef 14 = .ok (.iload 5, 2) := by decide +kernel
theorem jdJ1_indexOfChar_4cfef_16 : decode cJ1_indexOfChar_4cfef 16 = .ok (.baload, 1) := by decide +kernel
theorem jdJ1_indexOfChar_4cfef_17 : decode cJ1_indexOfChar_4cfef 17 = .ok (.iload 4, 2) := by decide +kernel
theorem jdJ1_indexOfChar_4cfef_19 : decode cJ1_indexOfChar_4cfef 19 = .ok (.if_icmp .ne 6, 3) := by decide +kernel
theorem jdJ1_indexOfChar_4cfef_22 : decode cJ1_indexOfChar_4cfef 22 = .ok (.iload 5, 2) := by decide +kernel
theorem jdJ1_indexOfChar_4cfef_24 : decode cJ1_indexOfChar_4cfef 24 = .ok (.ireturn, 1) := by decide +kernel
theorem jdJ1_indexOfChar_4cfef_25 : decode cJ1_indexOfChar_4cfef 25 = .ok (.iinc 5 1, 3) := by decide +kernel
theorem jdJ1_indexOfChar_4cfef_28 : decode cJ1_indexOfChar_4cfef 28 = .ok (.goto (-21), 3) := by decide +kernel
theorem jdJ1_indexOfChar_4cfef_31 : decode cJ1_indexOfChar_4cfef 31 = .ok (.iconst (-1), 1) := by decide +kernel
theorem jdJ1_indexOfChar_4cfef_32 : decode cJ1_indexOfChar_4cfef 32 = .ok (.ireturn, 1) := by decide +kernel
theorem jdJ1_indexOf_4cfef_0 : decode cJ1_indexOf_4cfef 0 = .ok (.iload_n 1, 1) := by decide +kernel
theorem jdJ1_indexOf_4cfef_1 : decode cJ1_indexOf_4cfef 1 = .ok (.invokestatic 88, 3) := by decide +kernel
theorem jdJ1_indexOf_4cfef_4 : decode cJ1_indexOf_4cfef 4 = .ok (.ifCond .ne 5, 3) := by decide +kernel
theorem jdJ1_indexOf_4cfef_7 : decode cJ1_indexOf_4cfef 7 = .ok (.iconst (-1), 1) := by decide +kernel
theorem jdJ1_indexOf_4cfef_8 : decode cJ1_indexOf_4cfef 8 = .ok (.ireturn, 1) := by decide +kernel
theorem jdJ1_indexOf_4cfef_9 : decode cJ1_indexOf_4cfef 9 = .ok (.iload_n 2, 1) := by decide +kernel
theorem jdJ1_indexOf_4cfef_10 : decode cJ1_indexOf_4cfef 10 = .ok (.iconst 0, 1) := by decide +kernel
theorem jdJ1_indexOf_4cfef_11 : decode cJ1_indexOf_4cfef 11 = .ok (.invokestatic 92, 3) := by decide +kernel
theorem jdJ1_indexOf_4cfef_14 : decode cJ1_indexOf_4cfef 14 = .ok (.istore_n 2, 1) := by decide +kernel
theorem jdJ1_indexOf_4cfef_15 : decode cJ1_indexOf_4cfef 15 = .ok (.iload_n 3, 1) := by decide +kernel
theorem jdJ1_indexOf_4cfef_16 : decode cJ1_indexOf_4cfef 16 = .ok (.aload_n 0, 1) := by decide +kernel
theorem jdJ1_indexOf_4cfef_17 : decode cJ1_indexOf_4cfef 17 = .ok (.arraylength, 1) := by decide +kernel
theorem jdJ1_indexOf_4cfef_18 : decode cJ1_indexOf_4cfef 18 = .ok (.invokestatic 38, 3) := by decide +kernel
theorem jdJ1_indexOf_4cfef_21 : decode cJ1_indexOf_4cfef 21 = .ok (.istore_n 3, 1) := by decide +kernel
theorem jdJ1_indexOf_4cfef_22 : decode cJ1_indexOf_4cfef 22 = .ok (.iload_n 2, 1) := by decide +kernel
theorem jdJ1_indexOf_4cfef_23 : decode cJ1_indexOf_4cfef 23 = .ok (.iload_n 3, 1) := by decide +kernel
theorem jdJ1_indexOf_4cfef_24 : decode cJ1_indexOf_4cfef 24 = .ok (.if_icmp .lt 5, 3) := by decide +kernel
theorem jdJ1_indexOf_4cfef_29 : decode cJ1_indexOf_4cfef 29 = .ok (.aload_n 0, 1) := by decide +kernel
theorem jdJ1_indexOf_4cfef_30 : decode cJ1_indexOf_4cfef 30 = .ok (.iload_n 1, 1) := by decide +kernel
theorem jdJ1_indexOf_4cfef_31 : decode cJ1_indexOf_4cfef 31 = .ok (.iload_n 2, 1) := by decide +kernel
theorem jdJ1_indexOf_4cfef_32 : decode cJ1_indexOf_4cfef 32 = .ok (.iload_n 3, 1) := by decide +kernel
theorem jdJ1_indexOf_4cfef_33 : decode cJ1_indexOf_4cfef 33 = .ok (.invokestatic 95, 3) := by decide +kernel
theorem jdJ1_indexOf_4cfef_36 : decode cJ1_indexOf_4cfef 36 = .ok (.ireturn, 1) := by decide +kernel
theorem jdJ0_indexOf_7cf53_0 : decode cJ0_indexOf_7cf53 0 = .ok (.aload_n 0, 1) := by decide +kernel
theorem jdJ0_indexOf_7cf53_1 : decode cJ0_indexOf_7cf53 1 = .ok (.invokevirtual 492, 3) := by decide +kernel
theorem jdJ0_indexOf_7cf53_4 : decode cJ0_indexOf_7cf53 4 = .ok (.ifCond .eq 19, 3) := by decide +kernel
theorem jdJ0_indexOf_7cf53_7 : decode cJ0_indexOf_7cf53 7 = .ok (.aload_n 0, 1) := by decide +kernel
theorem jdJ0_indexOf_7cf53_8 : decode cJ0_indexOf_7cf53 8 = .ok (.getfield 9, 3) := by decide +kernel
theorem jdJ0_indexOf_7cf53_11 : decode cJ0_indexOf_7cf53 11 = .ok (.iload_n 1, 1) := by decide +kernel
theorem jdJ0_indexOf_7cf53_12 : decode cJ0_indexOf_7cf53 12 = .ok (.iload_n 2, 1) := by decide +kernel
theorem jdJ0_indexOf_7cf53_13 : decode cJ0_indexOf_7cf53 13 = .ok (.aload_n 0, 1) := by decide +kernel
theorem jdJ0_indexOf_7cf53_14 : decode cJ0_indexOf_7cf53 14 = .ok (.invokevirtual 505, 3) := by decide +kernel
theorem jdJ0_indexOf_7cf53_17 : decode cJ0_indexOf_7cf53 17 = .ok (.invokestatic 637, 3) := by decide +kernel
theorem jdJ0_indexOf_7cf53_20 : decode cJ0_indexOf_7cf53 20 = .ok (.goto 16, 3) := by decide +kernel
theorem jdJ0_indexOf_7cf53_36 : decode cJ0_indexOf_7cf53 36 = .ok (.ireturn, 1) := by decide +kernel
theorem jdJ0_indexOf_0f7a4_0 : decode cJ0_indexOf_0f7a4 0 = .ok (.aload_n 0, 1) := by decide +kernel
theorem jdJ0_indexOf_0f7a4_1 : decode cJ0_indexOf_0f7a4 1 = .ok (.iload_n 1, 1) := by decide +kernel
theorem jdJ0_indexOf_0f7a4_2 : decode cJ0_indexOf_0f7a4 2 = .ok (.iconst 0, 1) := by decide +kernel
theorem jdJ0_indexOf_0f7a4_3 : decode cJ0_indexOf_0f7a4 3 = .ok (.invokevirtual 633, 3) := by decide +kernel
theorem jdJ0_indexOf_0f7a4_6 : decode cJ0_indexOf_0f7a4 6 = .ok (.ireturn, 1) := by decide +kernel
set_option maxHeartbeats 8000000 in
set_option maxRecDepth 100000 in
theorem jc_J0_coder_7d493 (l : Launch) (D : va_G) (cy : Nat → ClassId) (q v n : Nat) (b : Nat → Int32)  (sz : Nat) (L : List Nat) (f : Nat → va_E) : Met l yJ0_coder_7d493 (Cond.code yJ0_coder_7d493 cJ0_coder_7d493 1 (some .byte) :: jx_ws) ({ frames := 0, cells := 0, slots := 0, locals := 0 }) (py_Pc D cy q v n b [.ref q] sz L f) (pq_Qi D sz L f [] (fun r cs1 => r = 0 ∧ cs1 = [])) 0 0 (pw_A L f sz) := by
  refine Met.ofW (cc := cJ0_coder_7d493) (maxL := 1) (ret := (some .byte)) (by decide) rfl ?_
  intro p e s m args below meth c s₁ B hml hv
  obtain ⟨rfl, hsz, hG, hY, hP, hD0⟩ := hv
  have hx := B.exec
  have hb := B.bytes
  have hr := B.returns
  have hts := atoms_spec (ws := Cond.code yJ0_coder_7d493 cJ0_coder_7d493 1 (some .byte) :: jx_ws) B.pre
  have hpp := fun (w : Cond) (h : w ∈ jx_ws) => hts w (List.mem_cons_of_mem _ h)
  have hown : s.vm.findClass RJ0 = some m.cls := findClass_of_methodNamed B.named
  have hlocks := B.notSynchronized
  have hw := pw_start (cy := cy) hsz hP hD0
  have hW := pq_start (as := []) hw pq_C.nil rfl
  have hl := lv_entry ([.ref q]) (n := 1) (Nat.le_of_ble_eq_true rfl)
  rw [lg_entry_eq]
  generalize (lg_sl ([.ref q]) ++ List.replicate (1 - (lg_sl ([.ref q])).length) Slot.unset).toArray = ls at hl ⊢
  have hl : lv_has ls 1 [(0, .ref q)] := hl
  refine va_gets hx hb hY.2.2.2.2.1 hW.S hown (hpp _ jx0) (fun _ h => h) jdJ0_coder_7d493_0 ?_
  refine lv_if_eq (tgt := 13) hx hb jdJ0_coder_7d493_3 (by decide) (fun c1 => absurd c1 (by decide)) (fun _ => ?_)
  refine lv_aload_n hx hb jdJ0_coder_7d493_6 rfl (lv_at hl 0 rfl) ?_
  refine vk_getf hx hb hY.2.1 hW.S hown (hpp _ jx1) (fun _ h => h) jdJ0_coder_7d493_7 ?_
  refine lv_goto (tgt := 14) hx hb jdJ0_coder_7d493_10 (by decide) ?_
  exact pq_iret hx hb hr hlocks rfl hW ⟨rfl, rfl⟩ jdJ0_coder_7d493_14
set_option maxHeartbeats 8000000 in
set_option maxRecDepth 100000 in
theorem jc_J0_isLatin1_aae02 (l : Launch) (D : va_G) (cy : Nat → ClassId) (q v n : Nat) (b : Nat → Int32)  (sz : Nat) (L : List Nat) (f : Nat → va_E) : Met l yJ0_isLatin1_aae02 (Cond.code yJ0_isLatin1_aae02 cJ0_isLatin1_aae02 1 (some .boolean) :: jx_ws) ({ frames := 0, cells := 0, slots := 0, locals := 0 }) (py_Pc D cy q v n b [.ref q] sz L f) (pq_Qi D sz L f [] (fun r cs1 => r = 1 ∧ cs1 = [])) 0 0 (pw_A L f sz) := by
  refine Met.ofW (cc := cJ0_isLatin1_aae02) (maxL := 1) (ret := (some .boolean)) (by decide) rfl ?_
  intro p e s m args below meth c s₁ B hml hv
  obtain ⟨rfl, hsz, hG, hY, hP, hD0⟩ := hv
  have hx := B.exec
  have hb := B.bytes
  have hr := B.returns
  have hts := atoms_spec (ws := Cond.code yJ0_isLatin1_aae02 cJ0_isLatin1_aae02 1 (some .boolean) :: jx_ws) B.pre
  have hpp := fun (w : Cond) (h : w ∈ jx_ws) => hts w (List.mem_cons_of_mem _ h)
  have hown : s.vm.findClass RJ0 = some m.cls := findClass_of_methodNamed B.named
  have hlocks := B.notSynchronized
  have hw := pw_start (cy := cy) hsz hP hD0
  have hW := pq_start (as := []) hw pq_C.nil rfl
  have hl := lv_entry ([.ref q]) (n := 1) (Nat.le_of_ble_eq_true rfl)
  rw [lg_entry_eq]
  generalize (lg_sl ([.ref q]) ++ List.replicate (1 - (lg_sl ([.ref q])).length) Slot.unset).toArray = ls at hl ⊢
  have hl : lv_has ls 1 [(0, .ref q)] := hl
  refine va_gets hx hb hY.2.2.2.2.1 hW.S hown (hpp _ jx0) (fun _ h => h) jdJ0_isLatin1_aae02_0 ?_
  refine lv_if_eq (tgt := 17) hx hb jdJ0_isLatin1_aae02_3 (by decide) (fun c1 => absurd c1 (by decide)) (fun _ => ?_)
  refine lv_aload_n hx hb jdJ0_isLatin1_aae02_6 rfl (lv_at hl 0 rfl) ?_
  refine vk_getf hx hb hY.2.1 hW.S hown (hpp _ jx1) (fun _ h => h) jdJ0_isLatin1_aae02_7 ?_
  refine lv_if_ne (tgt := 17) hx hb jdJ0_isLatin1_aae02_10 (by decide) (fun c1 => absurd rfl c1) (fun _ => ?_)
  refine lv_iconst (v := 1) hx hb jdJ0_isLatin1_aae02_13 (by decide) ?_
  refine lv_goto (tgt := 18) hx hb jdJ0_isLatin1_aae02_14 (by decide) ?_
  exact pq_iret hx hb hr hlocks rfl hW ⟨rfl, rfl⟩ jdJ0_isLatin1_aae02_18
set_option maxHeartbeats 8000000 in
set_option maxRecDepth 100000 in
theorem jc_J0_length_8abf5 (l : Launch) (D : va_G) (cy : Nat → ClassId) (q v n : Nat) (b : Nat → Int32) (hn : n < 2 ^ 31) (sz : Nat) (L : List Nat) (f : Nat → va_E) : Met l yJ0_length_8abf5 (Cond.code yJ0_length_8abf5 cJ0_length_8abf5 1 (some .int) :: jx_ws) ({ frames := 1, cells := 0, slots := 0, locals := 20 }) (py_Pc D cy q v n b [.ref q] sz L f) (pq_Qi D sz L f [] (fun r cs1 => r = nI n ∧ cs1 = [])) 0 0 (pw_A L f sz) := by
  refine Met.ofW (cc := cJ0_length_8abf5) (maxL := 1) (ret := (some .int)) (by decide) rfl ?_
  intro p e s m args below meth c s₁ B hml hv
  obtain ⟨rfl, hsz, hG, hY, hP, hD0⟩ := hv
  have hx := B.exec
  have hb := B.bytes
  have hr := B.returns
  have hts := atoms_spec (ws := Cond.code yJ0_length_8abf5 cJ0_length_8abf5 1 (some .int) :: jx_ws) B.pre
  have hpp := fun (w : Cond) (h : w ∈ jx_ws) => hts w (List.mem_cons_of_mem _ h)
  have hown : s.vm.findClass RJ0 = some m.cls := findClass_of_methodNamed B.named
  have hlocks := B.notSynchronized
  have hw := pw_start (cy := cy) hsz hP hD0
  have hW := pq_start (as := []) hw pq_C.nil rfl
  have hl := lv_entry ([.ref q]) (n := 1) (Nat.le_of_ble_eq_true rfl)
  rw [lg_entry_eq]
  generalize (lg_sl ([.ref q]) ++ List.replicate (1 - (lg_sl ([.ref q])).length) Slot.unset).toArray = ls at hl ⊢
  have hl : lv_has ls 1 [(0, .ref q)] := hl
  refine lv_aload_n hx hb jdJ0_length_8abf5_0 rfl (lv_at hl 0 rfl) ?_
  refine vk_getf hx hb hY.2.2.1 hW.S hown (hpp _ jx2) (fun _ h => h) jdJ0_length_8abf5_1 ?_
  refine va_tlen (v := nI n) hx hb hY.2.2.2.1 hW.S rfl jdJ0_length_8abf5_4 ?_
  refine lv_aload_n hx hb jdJ0_length_8abf5_5 rfl (lv_at hl 0 rfl) ?_
  refine pq_calli hW [] [] (by decide) rfl rfl (fun f9 hw9 hC9 => va_runV (C := RJ0) (As := []) (rest := [.int (nI n)]) ⟨hx, hb, hml, hown, hts⟩ (jc_J0_coder_7d493 l D cy q v n b _ L f9) (cwV 0 hts (jx_gV jx3 jx4 jx5 jx6 jx7) rfl rfl rfl jpd_J0_coder_7d493 ⟨Nat.le_of_ble_eq_true rfl, Nat.le_of_ble_eq_true rfl⟩) (py_preV hG hY hw9) rfl rfl hl.1 rfl (lv_room (Nat.le_of_ble_eq_true rfl)) jdJ0_length_8abf5_6 ⟨Nat.le_of_ble_eq_true rfl, Nat.le_of_ble_eq_true rfl⟩) (fun r cs1 H locs hP hW => ?_)
  obtain ⟨rfl, rfl⟩ := hP
  refine lv_ishr hx hb jdJ0_length_8abf5_9 ?_
  exact pq_iret hx hb hr hlocks rfl hW ⟨sc_shr0 hn, rfl⟩ jdJ0_length_8abf5_10
set_option maxHeartbeats 8000000 in
set_option maxRecDepth 100000 in
theorem jc_J1_canEncode_9a6ad (l : Launch) (D : va_G) (cy : Nat → ClassId) (q v n : Nat) (b : Nat → Int32) (x : Int32) (sz : Nat) (L : List Nat) (f : Nat → va_E) : Met l yJ1_canEncode_9a6ad (Cond.code yJ1_canEncode_9a6ad cJ1_canEncode_9a6ad 1 (some .boolean) :: jx_ws) ({ frames := 0, cells := 0, slots := 0, locals := 0 }) (py_Pc D cy q v n b [.int x] sz L f) (pq_Qi D sz L f [] (fun r cs1 => (r = 1 ∧ ¬ x < 0 ∧ ¬ (255 : Int32) < x ∨ r = 0 ∧ (x < 0 ∨ (255 : Int32) < x)) ∧ cs1 = [])) 0 0 (pw_A L f sz) := by
  refine Met.ofW (cc := cJ1_canEncode_9a6ad) (maxL := 1) (ret := (some .boolean)) (by decide) rfl ?_
  intro p e s m args below meth c s₁ B hml hv
  obtain ⟨rfl, hsz, hG, hY, hP, hD0⟩ := hv
  have hx := B.exec
  have hb := B.bytes
  have hr := B.returns
  have hts := atoms_spec (ws := Cond.code yJ1_canEncode_9a6ad cJ1_canEncode_9a6ad 1 (some .boolean) :: jx_ws) B.pre
  have hpp := fun (w : Cond) (h : w ∈ jx_ws) => hts w (List.mem_cons_of_mem _ h)
  have hown : s.vm.findClass RJ1 = some m.cls := findClass_of_methodNamed B.named
  have hlocks := B.notSynchronized
  have hw := pw_start (cy := cy) hsz hP hD0
  have hW := pq_start (as := []) hw pq_C.nil rfl
  have hl := lv_entry ([.int x]) (n := 1) (Nat.le_of_ble_eq_true rfl)
  rw [lg_entry_eq]
  generalize (lg_sl ([.int x]) ++ List.replicate (1 - (lg_sl ([.int x])).length) Slot.unset).toArray = ls at hl ⊢
  have hl : lv_has ls 1 [(0, .int x)] := hl
  refine lv_iload_n hx hb jdJ1_canEncode_9a6ad_0 rfl (lv_at hl 0 rfl) ?_
  refine lv_if_lt (tgt := 15) hx hb jdJ1_canEncode_9a6ad_1 (by decide) (fun c1 => ?_) (fun c1 => ?_)
  · refine lv_iconst (v := 0) hx hb jdJ1_canEncode_9a6ad_15 (by decide) ?_
    exact pq_iret hx hb hr hlocks rfl hW ⟨Or.inr ⟨rfl, Or.inl c1⟩, rfl⟩ jdJ1_canEncode_9a6ad_16
  · refine lv_iload_n hx hb jdJ1_canEncode_9a6ad_4 rfl (lv_at hl 0 rfl) ?_
    refine lv_sipush (v := 255) hx hb jdJ1_canEncode_9a6ad_5 (by decide) ?_
    refine lv_icmp_gt (tgt := 15) hx hb jdJ1_canEncode_9a6ad_8 (by decide) (fun c2 => ?_) (fun c2 => ?_)
    · refine lv_iconst (v := 0) hx hb jdJ1_canEncode_9a6ad_15 (by decide) ?_
      exact pq_iret hx hb hr hlocks rfl hW ⟨Or.inr ⟨rfl, Or.inr c2⟩, rfl⟩ jdJ1_canEncode_9a6ad_16
    · refine lv_iconst (v := 1) hx hb jdJ1_canEncode_9a6ad_11 (by decide) ?_
      refine lv_goto (tgt := 16) hx hb jdJ1_canEncode_9a6ad_12 (by decide) ?_
      exact pq_iret hx hb hr hlocks rfl hW ⟨Or.inl ⟨rfl, c1, c2⟩, rfl⟩ jdJ1_canEncode_9a6ad_16
/-- the first place of a byte, or -1 -/
def jx_R (n : Nat) (b : Nat → Int32) (x r : Int32) : Prop := (∃ j : Nat, j < n ∧ r = nI j ∧ b j = x.toInt8.toInt32 ∧ ∀ i, i < j → ¬ b i = x.toInt8.toInt32) ∨ (r = -1 ∧ ∀ i, i < n → ¬ b i = x.toInt8.toInt32)
set_option maxHeartbeats 8000000 in
set_option maxRecDepth 100000 in
theorem jc_J1_indexOfChar_4cfef (l : Launch) (D : va_G) (cy : Nat → ClassId) (q v n : Nat) (b : Nat → Int32) (hn : n < 2 ^ 31) (x : Int32) (sz : Nat) (L : List Nat) (f : Nat → va_E) : Met l yJ1_indexOfChar_4cfef (Cond.code yJ1_indexOfChar_4cfef cJ1_indexOfChar_4cfef 6 (some .int) :: jx_ws) ({ frames := 0, cells := 0, slots := 0, locals := 0 }) (py_Pc D cy q v n b [.ref v, .int x, .int 0, .int (nI n)] sz L f) (pq_Qi D sz L f [] (fun r cs1 => jx_R n b x r ∧ cs1 = [])) 0 0 (pw_A L f sz) := by
  refine Met.ofW (cc := cJ1_indexOfChar_4cfef) (maxL := 6) (ret := (some .int)) (by decide) rfl ?_
  intro p e s m args below meth c s₁ B hml hv
  obtain ⟨rfl, hsz, hG, hY, hP, hD0⟩ := hv
  have hx := B.exec
  have hb := B.bytes
  have hr := B.returns
  have hts := atoms_spec (ws := Cond.code yJ1_indexOfChar_4cfef cJ1_indexOfChar_4cfef 6 (some .int) :: jx_ws) B.pre
  have hpp := fun (w : Cond) (h : w ∈ jx_ws) => hts w (List.mem_cons_of_mem _ h)
  have hown : s.vm.findClass RJ1 = some m.cls := findClass_of_methodNamed B.named
  have hlocks := B.notSynchronized
  have hw := pw_start (cy := cy) hsz hP hD0
  have hW := pq_start (as := []) hw pq_C.nil rfl
  have hl := lv_entry ([.ref v, .int x, .int 0, .int (nI n)]) (n := 6) (Nat.le_of_ble_eq_true rfl)
  rw [lg_entry_eq]
  generalize (lg_sl ([.ref v, .int x, .int 0, .int (nI n)]) ++ List.replicate (6 - (lg_sl ([.ref v, .int x, .int 0, .int (nI n)])).length) Slot.unset).toArray = ls at hl ⊢
  have hl : lv_has ls 6 [(0, .ref v), (1, .int x), (2, .int 0), (3, .int (nI n))] := hl
  refine lv_iload_n hx hb jdJ1_indexOfChar_4cfef_0 rfl (lv_at hl 1 rfl) ?_
  refine lv_i2b (v := x.toInt8.toInt32) hx hb jdJ1_indexOfChar_4cfef_1 rfl ?_
  refine lv_istore (lv' := [(4, .int x.toInt8.toInt32), (0, .ref v), (1, .int x), (2, .int 0), (3, .int (nI n))]) hx hb jdJ1_indexOfChar_4cfef_2 hl (by decide) rfl (fun ls hl => ?_)
  refine lv_iload_n hx hb jdJ1_indexOfChar_4cfef_4 rfl (lv_at hl 3 rfl) ?_
  refine lv_istore (lv' := [(5, .int 0), (4, .int x.toInt8.toInt32), (0, .ref v), (1, .int x), (2, .int 0), (3, .int (nI n))]) hx hb jdJ1_indexOfChar_4cfef_5 hl (by decide) rfl (fun ls hl => ?_)
  have loop : ∀ (fu j : Nat) (ls : Array Slot) (H : Heap) (locs : List Loc), n - j < fu → j ≤ n → (∀ i, i < j → ¬ b i = x.toInt8.toInt32) → lv_has ls 6 [(5, .int (nI j)), (4, .int x.toInt8.toInt32), (0, .ref v), (1, .int x), (2, .int 0), (3, .int (nI n))] → pq_W D (pw_A L f sz) s.heap L f [] [] H locs → W p l e (headSpec (Cond.code yJ1_indexOfChar_4cfef cJ1_indexOfChar_4cfef 6 (some .int) :: jx_ws) ({ frames := 0, cells := 0, slots := 0, locals := 0 })).room s m [Value.ref v, Value.int x, Value.int 0, Value.int (nI n)].toArray below meth c H locs 0 0 (MQ below (pq_Qi D sz L f [] (fun r cs1 => jx_R n b x r ∧ cs1 = [])) [Value.ref v, Value.int x, Value.int 0, Value.int (nI n)].toArray s 0 0 (pw_A L f sz)) (F0 m 7 ls []) := by
    intro fu
    induction fu with
    | zero => intro j ls H locs h _ _ _ _; omega
    | succ fu ih =>
      intro j ls H locs hfu hj hne hl hW
      refine lv_iload hx hb jdJ1_indexOfChar_4cfef_7 (lv_at hl 0 rfl) ?_
      refine lv_iload_n hx hb jdJ1_indexOfChar_4cfef_9 rfl (lv_at hl 5 rfl) ?_
      refine lv_icmp_ge (tgt := 31) hx hb jdJ1_indexOfChar_4cfef_10 (by decide) (fun c1 => ?_) (fun c1 => ?_)
      · refine lv_iconst (v := -1) hx hb jdJ1_indexOfChar_4cfef_31 (by decide) ?_
        refine pq_iret hx hb hr hlocks rfl hW ⟨Or.inr ⟨rfl, fun i hi => ?_⟩, rfl⟩ jdJ1_indexOfChar_4cfef_32
        by_cases c9 : i < j
        · exact hne i c9
        · exfalso
          have h9 : j < n := by omega
          exact absurd c1 (by rw [Int32.not_le]; exact nI_lt h9 hn)
      · have h9 : j < n := by
          rcases Nat.lt_or_ge j n with h | h
          · exact h
          · exact absurd (nI_le h (by omega)) c1
        refine lv_aload_n hx hb jdJ1_indexOfChar_4cfef_13 rfl (lv_at hl 2 rfl) ?_
        refine lv_iload hx hb jdJ1_indexOfChar_4cfef_14 (lv_at hl 0 rfl) ?_
        refine va_tb (v := .int (b j)) hx hb hY.2.2.2.1 hW.S (vp_in_nI h9 hn) (by show Value.int (b (nI j).toNatClampNeg) = _; rw [nI_clamp (by omega)]) jdJ1_indexOfChar_4cfef_16 ?_
        refine lv_iload hx hb jdJ1_indexOfChar_4cfef_17 (lv_at hl 1 rfl) ?_
        refine lv_icmp_ne (tgt := 25) hx hb jdJ1_indexOfChar_4cfef_19 (by decide) (fun c2 => ?_) (fun c2 => ?_)
        · refine lv_iinc (v := nI (j + 1)) (k := 0) (lv' := [(5, .int (nI (j + 1))), (4, .int x.toInt8.toInt32), (0, .ref v), (1, .int x), (2, .int 0), (3, .int (nI n))]) hx hb jdJ1_indexOfChar_4cfef_25 hl rfl (nI_1 _) (by decide) rfl (fun ls hl => ?_)
          refine lv_goto (tgt := 7) hx hb jdJ1_indexOfChar_4cfef_28 (by decide) ?_
          refine ih (j + 1) ls H locs (by omega) (by omega) (fun i hi => ?_) hl hW
          by_cases c9 : i < j
          · exact hne i c9
          · rw [show i = j from by omega]
            exact c2
        · refine lv_iload hx hb jdJ1_indexOfChar_4cfef_22 (lv_at hl 0 rfl) ?_
          exact pq_iret hx hb hr hlocks rfl hW ⟨Or.inl ⟨j, h9, rfl, c2, hne⟩, rfl⟩ jdJ1_indexOfChar_4cfef_24
  exact loop (n + 1) 0 ls _ _ (by omega) (by omega) (fun i hi => by omega) hl hW
def jx_R2 (n : Nat) (b : Nat → Int32) (x r : Int32) : Prop := ((x < 0 ∨ (255 : Int32) < x) ∧ r = -1) ∨ (¬ x < 0 ∧ ¬ (255 : Int32) < x ∧ jx_R n b x r)
set_option maxHeartbeats 8000000 in
set_option maxRecDepth 100000 in
theorem jc_J1_indexOf_4cfef (l : Launch) (D : va_G) (cy : Nat → ClassId) (q v n : Nat) (b : Nat → Int32) (hn : n < 2 ^ 31) (h0 : 0 < n) (x : Int32) (sz : Nat) (L : List Nat) (f : Nat → va_E) : Met l yJ1_indexOf_4cfef (Cond.code yJ1_indexOf_4cfef cJ1_indexOf_4cfef 4 (some .int) :: jx_ws) ({ frames := 1, cells := 0, slots := 0, locals := 30 }) (py_Pc D cy q v n b [.ref v, .int x, .int 0, .int (nI n)] sz L f) (pq_Qi D sz L f [] (fun r cs1 => jx_R2 n b x r ∧ cs1 = [])) 0 0 (pw_A L f sz) := by
  refine Met.ofW (cc := cJ1_indexOf_4cfef) (maxL := 4) (ret := (some .int)) (by decide) rfl ?_
  intro p e s m args below meth c s₁ B hml hv
  obtain ⟨rfl, hsz, hG, hY, hP, hD0⟩ := hv
  have hx := B.exec
  have hb := B.bytes
  have hr := B.returns
  have hts := atoms_spec (ws := Cond.code yJ1_indexOf_4cfef cJ1_indexOf_4cfef 4 (some .int) :: jx_ws) B.pre
  have hpp := fun (w : Cond) (h : w ∈ jx_ws) => hts w (List.mem_cons_of_mem _ h)
  have hown : s.vm.findClass RJ1 = some m.cls := findClass_of_methodNamed B.named
  have hlocks := B.notSynchronized
  have hw := pw_start (cy := cy) hsz hP hD0
  have hW := pq_start (as := []) hw pq_C.nil rfl
  have hl := lv_entry ([.ref v, .int x, .int 0, .int (nI n)]) (n := 4) (Nat.le_of_ble_eq_true rfl)
  rw [lg_entry_eq]
  generalize (lg_sl ([.ref v, .int x, .int 0, .int (nI n)]) ++ List.replicate (4 - (lg_sl ([.ref v, .int x, .int 0, .int (nI n)])).length) Slot.unset).toArray = ls at hl ⊢
  have hl : lv_has ls 4 [(0, .ref v), (1, .int x), (2, .int 0), (3, .int (nI n))] := hl
  refine lv_iload_n hx hb jdJ1_indexOf_4cfef_0 rfl (lv_at hl 1 rfl) ?_
  refine pq_calli hW [] [] (by decide) rfl rfl (fun f9 hw9 hC9 => va_runS (As := [.int x]) (rest := []) ⟨hx, hb, hml, hown, hts⟩ (jc_J1_canEncode_9a6ad l D cy q v n b x _ L f9) (va_cwS 1 hts (jx_gS jx8 jx9 jx10 jx11) rfl rfl rfl jpd_J1_canEncode_9a6ad ⟨Nat.le_of_ble_eq_true rfl, Nat.le_of_ble_eq_true rfl⟩) (py_pre hG hY hw9) rfl rfl hl.1 rfl (lv_room (Nat.le_of_ble_eq_true rfl)) jdJ1_indexOf_4cfef_1 ⟨Nat.le_of_ble_eq_true rfl, Nat.le_of_ble_eq_true rfl⟩) (fun r cs1 H locs hP hW => ?_)
  obtain ⟨⟨rfl, c1, c2⟩ | ⟨rfl, c1⟩, rfl⟩ := hP
  · refine lv_if_ne (tgt := 9) hx hb jdJ1_indexOf_4cfef_4 (by decide) (fun _ => ?_) (fun c9 => absurd c9 (by decide))
    refine lv_iload_n hx hb jdJ1_indexOf_4cfef_9 rfl (lv_at hl 2 rfl) ?_
    refine lv_iconst (v := 0) hx hb jdJ1_indexOf_4cfef_10 (by decide) ?_
    have hW : pq_W D _ s.heap L f _ [] H locs := hW
    refine va_mmax (x := 0) (y := 0) (rest := []) hx hb (hml.trans hl.1.symm) hown (hpp _ jx12) (hpp _ jx13) (hpp _ jx14) (hpp _ jx15) (Nat.le_of_ble_eq_true rfl) (Nat.le_of_ble_eq_true rfl) (Nat.zero_le _) (Nat.zero_le _) jdJ1_indexOf_4cfef_11 ?_
    rw [show (if (0 : Int32) < 0 then (0 : Int32) else 0) = 0 from by decide]
    refine lv_istore_n (lv' := [(2, .int 0), (0, .ref v), (1, .int x), (3, .int (nI n))]) hx hb jdJ1_indexOf_4cfef_14 rfl hl (by decide) rfl (fun ls hl => ?_)
    refine lv_iload_n hx hb jdJ1_indexOf_4cfef_15 rfl (lv_at hl 3 rfl) ?_
    refine lv_aload_n hx hb jdJ1_indexOf_4cfef_16 rfl (lv_at hl 1 rfl) ?_
    refine va_tlen (v := nI n) hx hb hY.2.2.2.1 hW.S rfl jdJ1_indexOf_4cfef_17 ?_
    have hW : pq_W D _ s.heap L f _ [] H locs := hW
    refine va_mmin (x := (nI n)) (y := (nI n)) (rest := []) hx hb (hml.trans hl.1.symm) hown (hpp _ jx16) (hpp _ jx17) (hpp _ jx14) (hpp _ jx18) (Nat.le_of_ble_eq_true rfl) (Nat.le_of_ble_eq_true rfl) (Nat.zero_le _) (Nat.zero_le _) jdJ1_indexOf_4cfef_18 ?_
    rw [ite_self]
    refine lv_istore_n (lv' := [(3, .int (nI n)), (2, .int 0), (0, .ref v), (1, .int x)]) hx hb jdJ1_indexOf_4cfef_21 rfl hl (by decide) rfl (fun ls hl => ?_)
    refine lv_iload_n hx hb jdJ1_indexOf_4cfef_22 rfl (lv_at hl 1 rfl) ?_
    refine lv_iload_n hx hb jdJ1_indexOf_4cfef_23 rfl (lv_at hl 0 rfl) ?_
    refine lv_icmp_lt (tgt := 29) hx hb jdJ1_indexOf_4cfef_24 (by decide) (fun _ => ?_) (fun c9 => absurd (nI_lt (a := 0) h0 hn) c9)
    refine lv_aload_n hx hb jdJ1_indexOf_4cfef_29 rfl (lv_at hl 2 rfl) ?_
    refine lv_iload_n hx hb jdJ1_indexOf_4cfef_30 rfl (lv_at hl 3 rfl) ?_
    refine lv_iload_n hx hb jdJ1_indexOf_4cfef_31 rfl (lv_at hl 1 rfl) ?_
    refine lv_iload_n hx hb jdJ1_indexOf_4cfef_32 rfl (lv_at hl 0 rfl) ?_
    have hW : pq_W D _ s.heap L f _ [] H locs := hW
    refine pq_calli hW [] [] (by decide) rfl rfl (fun f9 hw9 hC9 => va_runS (As := [.ref v, .int x, .int 0, .int (nI n)]) (rest := []) ⟨hx, hb, hml, hown, hts⟩ (jc_J1_indexOfChar_4cfef l D cy q v n b hn x _ L f9) (va_cwS 4 hts (jx_gS jx19 jx20 jx21 jx11) rfl rfl rfl jpd_J1_indexOfChar_4cfef ⟨Nat.le_of_ble_eq_true rfl, Nat.le_of_ble_eq_true rfl⟩) (py_pre hG hY hw9) rfl rfl hl.1 rfl (lv_room (Nat.le_of_ble_eq_true rfl)) jdJ1_indexOf_4cfef_33 ⟨Nat.le_of_ble_eq_true rfl, Nat.le_of_ble_eq_true rfl⟩) (fun r cs1 H locs hP hW => ?_)
    obtain ⟨h9, rfl⟩ := hP
    exact pq_iret hx hb hr hlocks rfl hW ⟨Or.inr ⟨c1, c2, h9⟩, rfl⟩ jdJ1_indexOf_4cfef_36
  · refine lv_if_ne (tgt := 9) hx hb jdJ1_indexOf_4cfef_4 (by decide) (fun c9 => absurd rfl c9) (fun _ => ?_)
    refine lv_iconst (v := -1) hx hb jdJ1_indexOf_4cfef_7 (by decide) ?_
    exact pq_iret hx hb hr hlocks rfl hW ⟨Or.inl ⟨c1, rfl⟩, rfl⟩ jdJ1_indexOf_4cfef_8
set_option maxHeartbeats 8000000 in
set_option maxRecDepth 100000 in
theorem jc_J0_indexOf_7cf53 (l : Launch) (D : va_G) (cy : Nat → ClassId) (q v n : Nat) (b : Nat → Int32) (hn : n < 2 ^ 31) (h0 : 0 < n) (x : Int32) (sz : Nat) (L : List Nat) (f : Nat → va_E) : Met l yJ0_indexOf_7cf53 (Cond.code yJ0_indexOf_7cf53 cJ0_indexOf_7cf53 3 (some .int) :: jx_ws) ({ frames := 2, cells := 0, slots := 0, locals := 60 }) (py_Pc D cy q v n b [.ref q, .int x, .int 0] sz L f) (pq_Qi D sz L f [] (fun r cs1 => jx_R2 n b x r ∧ cs1 = [])) 0 0 (pw_A L f sz) := by
  refine Met.ofW (cc := cJ0_indexOf_7cf53) (maxL := 3) (ret := (some .int)) (by decide) rfl ?_
  intro p e s m args below meth c s₁ B hml hv
  obtain ⟨rfl, hsz, hG, hY, hP, hD0⟩ := hv
  have hx := B.exec
  have hb := B.bytes
  have hr := B.returns
  have hts := atoms_spec (ws := Cond.code yJ0_indexOf_7cf53 cJ0_indexOf_7cf53 3 (some .int) :: jx_ws) B.pre
  have hpp := fun (w : Cond) (h : w ∈ jx_ws) => hts w (List.mem_cons_of_mem _ h)
  have hown : s.vm.findClass RJ0 = some m.cls := findClass_of_methodNamed B.named
  have hlocks := B.notSynchronized
  have hw := pw_start (cy := cy) hsz hP hD0
  have hW := pq_start (as := []) hw pq_C.nil rfl
  have hl := lv_entry ([.ref q, .int x, .int 0]) (n := 3) (Nat.le_of_ble_eq_true rfl)
  rw [lg_entry_eq]
  generalize (lg_sl ([.ref q, .int x, .int 0]) ++ List.replicate (3 - (lg_sl ([.ref q, .int x, .int 0])).length) Slot.unset).toArray = ls at hl ⊢
  have hl : lv_has ls 3 [(0, .ref q), (1, .int x), (2, .int 0)] := hl
  refine lv_aload_n hx hb jdJ0_indexOf_7cf53_0 rfl (lv_at hl 0 rfl) ?_
  refine pq_calli hW [] [] (by decide) rfl rfl (fun f9 hw9 hC9 => va_runV (C := RJ0) (As := []) (rest := []) ⟨hx, hb, hml, hown, hts⟩ (jc_J0_isLatin1_aae02 l D cy q v n b _ L f9) (cwV 0 hts (jx_gV jx22 jx23 jx24 jx25 jx7) rfl rfl rfl jpd_J0_isLatin1_aae02 ⟨Nat.le_of_ble_eq_true rfl, Nat.le_of_ble_eq_true rfl⟩) (py_preV hG hY hw9) rfl rfl hl.1 rfl (lv_room (Nat.le_of_ble_eq_true rfl)) jdJ0_indexOf_7cf53_1 ⟨Nat.le_of_ble_eq_true rfl, Nat.le_of_ble_eq_true rfl⟩) (fun r cs1 H locs hP hW => ?_)
  obtain ⟨rfl, rfl⟩ := hP
  refine lv_if_eq (tgt := 23) hx hb jdJ0_indexOf_7cf53_4 (by decide) (fun c1 => absurd c1 (by decide)) (fun _ => ?_)
  refine lv_aload_n hx hb jdJ0_indexOf_7cf53_7 rfl (lv_at hl 0 rfl) ?_
  refine vk_getf hx hb hY.2.2.1 hW.S hown (hpp _ jx2) (fun _ h => h) jdJ0_indexOf_7cf53_8 ?_
  refine lv_iload_n hx hb jdJ0_indexOf_7cf53_11 rfl (lv_at hl 1 rfl) ?_
  refine lv_iload_n hx hb jdJ0_indexOf_7cf53_12 rfl (lv_at hl 2 rfl) ?_
  refine lv_aload_n hx hb jdJ0_indexOf_7cf53_13 rfl (lv_at hl 0 rfl) ?_
  have hW : pq_W D _ s.heap L f _ [] H locs := hW
  refine pq_calli hW [] [] (by decide) rfl rfl (fun f9 hw9 hC9 => va_runV (C := RJ0) (As := []) (rest := [.int 0, .int x, .ref v]) ⟨hx, hb, hml, hown, hts⟩ (jc_J0_length_8abf5 l D cy q v n b hn _ L f9) (cwV 0 hts (jx_gV jx26 jx27 jx28 jx29 jx7) rfl rfl rfl jpd_J0_length_8abf5 ⟨Nat.le_of_ble_eq_true rfl, Nat.le_of_ble_eq_true rfl⟩) (py_preV hG hY hw9) rfl rfl hl.1 rfl (lv_room (Nat.le_of_ble_eq_true rfl)) jdJ0_indexOf_7cf53_14 ⟨Nat.le_of_ble_eq_true rfl, Nat.le_of_ble_eq_true rfl⟩) (fun r cs1 H locs hP hW => ?_)
  obtain ⟨rfl, rfl⟩ := hP
  have hW : pq_W D _ s.heap L f _ [] H locs := hW
  refine pq_calli hW [] [] (by decide) rfl rfl (fun f9 hw9 hC9 => va_runS (As := [.ref v, .int x, .int 0, .int (nI n)]) (rest := []) ⟨hx, hb, hml, hown, hts⟩ (jc_J1_indexOf_4cfef l D cy q v n b hn h0 x _ L f9) (va_cwS 4 hts (jx_gS jx30 jx31 jx32 jx11) rfl rfl rfl jpd_J1_indexOf_4cfef ⟨Nat.le_of_ble_eq_true rfl, Nat.le_of_ble_eq_true rfl⟩) (py_pre hG hY hw9) rfl rfl hl.1 rfl (lv_room (Nat.le_of_ble_eq_true rfl)) jdJ0_indexOf_7cf53_17 ⟨Nat.le_of_ble_eq_true rfl, Nat.le_of_ble_eq_true rfl⟩) (fun r cs1 H locs hP hW => ?_)
  obtain ⟨h9, rfl⟩ := hP
  refine lv_goto (tgt := 36) hx hb jdJ0_indexOf_7cf53_20 (by decide) ?_
  exact pq_iret hx hb hr hlocks rfl hW ⟨h9, rfl⟩ jdJ0_indexOf_7cf53_36
theorem jx_gT {ws0 : List Cond} {c0 : Cond} (hj : ∀ w ∈ jx_ws, w ∈ ws0) : GoodIn (c0 :: ws0) (wsV RJ0 633 RJ0 yJ0_indexOf_7cf53 (Cond.code yJ0_indexOf_7cf53 cJ0_indexOf_7cf53 3 (some .int) :: jx_ws)) := fun w hw => by
  have h8 : w ∈ jx_ws := by
    rcases List.mem_append.mp hw with hw | hw
    · rcases List.mem_cons.mp hw with rfl | hw
      · exact jx34
      rcases List.mem_cons.mp hw with rfl | hw
      · exact jx35
      rcases List.mem_cons.mp hw with rfl | hw
      · exact jx36
      rcases List.mem_cons.mp hw with rfl | hw
      · exact jx7
      exact absurd hw List.not_mem_nil
    · rcases List.mem_cons.mp hw with rfl | hw
      · exact jx33
      · exact hw
  exact ⟨List.mem_cons_of_mem _ (hj w h8), good_of_word (jx_good w h8)⟩
theorem jx_i8 {c : Int} (hc : 0 ≤ c ∧ c ≤ 255) : (Int32.ofInt c).toInt8.toInt32.toInt = if c ≤ 127 then c else c - 256 := by
  obtain ⟨k, rfl⟩ : ∃ k : Nat, c = (k : Int) := ⟨Int.toNat c, by omega⟩
  have h : ∀ k : Fin 256, (Int32.ofInt ((k.val : Nat) : Int)).toInt8.toInt32.toInt = if ((k.val : Nat) : Int) ≤ 127 then ((k.val : Nat) : Int) else ((k.val : Nat) : Int) - 256 := by decide +kernel
  exact h ⟨k, by omega⟩
theorem jx_at {j : Nat} (h : j < 19) : (gz_sb j).toInt = gz_sl[j]'h ∧ 35 ≤ gz_sl[j]'h ∧ gz_sl[j]'h ≤ 125 := by
  have h1 : ∀ j : Fin 19, (gz_sb j.val).toInt = gz_sl[j.val]'j.isLt ∧ 35 ≤ gz_sl[j.val]'j.isLt ∧ gz_sl[j.val]'j.isLt ≤ 125 := by decide +kernel
  exact h1 ⟨j, h⟩
/-- what the JDK answers is where the char stands -/
theorem jx_fin {c : Int} {r : Int32} (hc : gz_R c) (h : jx_R2 19 gz_sb (Int32.ofInt c) r) : r = Int32.ofInt (gz_ixf c) := by
  have ec := gz_toInt hc
  have e0 : Int32.toInt 0 = 0 := rfl
  have e255 : Int32.toInt 255 = 255 := rfl
  have none9 : (∀ i : Nat, (h : i < 19) → ¬ gz_sl[i]'h = c) → gz_ixf c = -1 := fun hn => by
    unfold gz_ixf
    split
    · rename_i k hk
      obtain ⟨h1, h2, _⟩ := List.findIdx?_eq_some_iff_getElem.mp hk
      exact absurd (by simpa using h2) (hn k h1)
    · rfl
  rcases h with ⟨h1, rfl⟩ | ⟨h1, h2, h3⟩
  · rw [none9 (fun i hi hq => ?_)]
    · rfl
    · have := (jx_at hi).2
      rw [Int32.lt_iff_toInt_lt, Int32.lt_iff_toInt_lt, ec, e0, e255] at h1
      omega
  · rw [Int32.lt_iff_toInt_lt, ec, e0] at h1
    rw [Int32.lt_iff_toInt_lt, ec, e255] at h2
    have e8 := jx_i8 (c := c) ⟨by omega, by omega⟩
    have eq9 : ∀ j : Nat, (hj : j < 19) → (gz_sb j = (Int32.ofInt c).toInt8.toInt32 ↔ gz_sl[j]'hj = c) := fun j hj => by
      have a := jx_at hj
      constructor
      · intro q
        have : (gz_sb j).toInt = (Int32.ofInt c).toInt8.toInt32.toInt := congrArg Int32.toInt q
        rw [e8, a.1] at this
        by_cases c9 : c ≤ 127
        · rw [if_pos c9] at this
          exact this
        · rw [if_neg c9] at this
          omega
      · intro q
        refine Int32.toInt_inj.mp ?_
        rw [e8, a.1, q, if_pos (by omega)]
    rcases h3 with ⟨j, hj, rfl, hq, hne⟩ | ⟨rfl, hne⟩
    · have hf : gz_sl.findIdx? (fun x => x == c) = some j := by
        rw [List.findIdx?_eq_some_iff_getElem]
        refine ⟨hj, by simpa using (eq9 j hj).mp hq, fun i hi => ?_⟩
        have := hne i hi
        rw [eq9 i (by omega)] at this
        exact fun q => this (eq_of_beq q)
      have : gz_ixf c = (j : Int) := by
        unfold gz_ixf
        rw [hf]
      rw [this]
      rfl
    · rw [none9 (fun i hi hq => hne i hi ((eq9 i hi).mpr hq))]
      rfl
set_option maxHeartbeats 8000000 in
set_option maxRecDepth 100000 in
/-- hIx of gz_met -/
theorem jx_met {l : Launch} {D : va_G} {cy : Nat → ClassId} {sa : Nat → Nat} {sv : Nat} {ws0 : List Cond} (hj : ∀ w ∈ jx_ws, w ∈ ws0) (d : Nat) (sh : gz_Sh) (h : gz_H) (c : Int) (h8 : 8 ≤ d) (hc : gz_R c) : gz_Met l D cy sa sv ws0 (d + 1) gz_Mx [gz_sg, .inl c] sh h (some (.inl (gz_ixf c))) sh h 0 0 := by
  intro sz L hL
  refine Met.ofW (cc := cJ0_indexOf_0f7a4) (maxL := 2) (ret := (some .int)) (by decide) rfl ?_
  intro p e s m args below meth c9 s₁ B hml hv
  obtain ⟨rfl, hsz, hG, hX, hP, hD0⟩ := hv
  have hx := B.exec
  have hb := B.bytes
  have hr := B.returns
  have hts := atoms_spec (ws := gx_code gz_Mx :: ws0) B.pre
  have hown : s.vm.findClass RJ0 = some m.cls := findClass_of_methodNamed B.named
  have hw := pw_start (cy := cy) hsz hP hD0
  have hY := hX.2.1
  have hl := lv_entry ([Value.ref (sa 5000), Value.int (Int32.ofInt c)]) (n := 2) (Nat.le_of_ble_eq_true rfl)
  show W _ _ _ _ _ _ _ _ _ _ _ _ _ _ _ (entryFrame m [Value.ref (sa 5000), Value.int (Int32.ofInt c)].toArray 2)
  rw [lg_entry_eq]
  generalize (lg_sl ([Value.ref (sa 5000), Value.int (Int32.ofInt c)]) ++ List.replicate (2 - (lg_sl ([Value.ref (sa 5000), Value.int (Int32.ofInt c)])).length) Slot.unset).toArray = ls at hl ⊢
  have hl : lv_has ls 2 [(0, .ref (sa 5000)), (1, .int (Int32.ofInt c))] := hl
  refine lv_aload_n hx hb jdJ0_indexOf_0f7a4_0 rfl (lv_at hl 0 rfl) ?_
  refine lv_iload_n hx hb jdJ0_indexOf_0f7a4_1 rfl (lv_at hl 1 rfl) ?_
  refine lv_iconst (v := 0) hx hb jdJ0_indexOf_0f7a4_2 (by decide) ?_
  have hW := pq_start (as := []) hw pq_C.nil rfl
  have hR1 : (2 : Nat) + 1 ≤ d + 1 := by omega
  have hR2 : 8 + (3 + 11) + 60 ≤ 64 * (d + 1) := by omega
  refine pq_calli hW [] [] (by decide) rfl rfl (fun f9 hw9 hC9 => va_runV (C := RJ0) (As := [.int (Int32.ofInt c), .int 0]) (rest := []) ⟨hx, hb, hml, hown, hts⟩ (jc_J0_indexOf_7cf53 l D cy (sa 5000) sv 19 gz_sb (by decide) (by decide) (Int32.ofInt c) _ L f9) (cwV 2 hts (jx_gT hj) rfl rfl rfl jpd_J0_indexOf_7cf53 ⟨hR1, hR2⟩) (py_preV hG hY hw9) rfl rfl hl.1 rfl (lv_room (Nat.le_of_ble_eq_true rfl)) jdJ0_indexOf_0f7a4_3 ⟨Nat.zero_le _, Nat.zero_le _⟩) (fun r cs1 H locs hP9 hW9 => ?_)
  obtain ⟨h9, rfl⟩ := hP9
  rw [jx_fin hc h9]
  obtain ⟨f, hw2, hS⟩ := pq_end (P := fun cs1 => cs1 = []) hW9 rfl
  have ef := (funext fun x => hS.2.2 x List.not_mem_nil : f = _)
  subst ef
  exact W.zret hx hb hr rfl (fun t ht hW => ⟨⟨L, List.prefix_refl L, hL, rfl, by rw [ht]; exact hw2.1, hw2.2.1⟩, hw2.2.2.1.F ht⟩) hw2.2.2.1.2.2 jdJ0_indexOf_0f7a4_6
