/-! TEXTS WITH KNOWN BYTES: String.length, String.charAt, and word() of the reference, told exactly. -/
def gd_jw : List Cond := [Cond.fieldLink RJ0 38 "java/lang/String" "COMPACT_STRINGS" "Z",
  Cond.fieldLink RJ0 15 "java/lang/String" "coder" "B",
  Cond.fieldLink RJ0 9 "java/lang/String" "value" "[B",
  Cond.code yJ0_coder_7d493 cJ0_coder_7d493 1 (some .byte),
  Cond.methodLink RJ0 335 yJ0_coder_7d493,
  Cond.instanceMethod yJ0_coder_7d493,
  Cond.selects RJ0 yJ0_coder_7d493 yJ0_coder_7d493,
  Cond.initialized RJ0,
  Cond.fieldLink RJ0 1053 "jdk/internal/util/Preconditions" "SIOOBE_FORMATTER" "Ljava/util/function/BiFunction;",
  Cond.code yJ3_checkIndex_8e157 cJ3_checkIndex_8e157 3 (some .int),
  Cond.methodLink RJ0 1059 yJ3_checkIndex_8e157,
  Cond.static yJ3_checkIndex_8e157,
  Cond.initialized RJ3,
  Cond.code yJ0_checkIndex_df160 cJ0_checkIndex_df160 2 none,
  Cond.methodLink RJ1 9 yJ0_checkIndex_df160,
  Cond.static yJ0_checkIndex_df160,
  Cond.code yJ0_isLatin1_aae02 cJ0_isLatin1_aae02 1 (some .boolean),
  Cond.methodLink RJ0 492 yJ0_isLatin1_aae02,
  Cond.instanceMethod yJ0_isLatin1_aae02,
  Cond.selects RJ0 yJ0_isLatin1_aae02 yJ0_isLatin1_aae02,
  Cond.code yJ1_charAt_3b067 cJ1_charAt_3b067 2 (some .char),
  Cond.methodLink RJ0 495 yJ1_charAt_3b067,
  Cond.static yJ1_charAt_3b067,
  Cond.initialized RJ1,
  Cond.code yJ0_length_8abf5 cJ0_length_8abf5 1 (some .int),
  Cond.methodLink RX13 627 yJ0_length_8abf5,
  Cond.instanceMethod yJ0_length_8abf5,
  Cond.selects RJ0 yJ0_length_8abf5 yJ0_length_8abf5,
  Cond.code yJ0_charAt_5068e cJ0_charAt_5068e 2 (some .char),
  Cond.methodLink RX13 630 yJ0_charAt_5068e,
  Cond.instanceMethod yJ0_charAt_5068e,
  Cond.selects RJ0 yJ0_charAt_5068e yJ0_charAt_5068e]
theorem gd_jgood : ∀ w ∈ gd_jw, goodWord w = true := List.all_eq_true.mp (by decide +kernel)
theorem gdp310 : Cond.fieldLink RJ0 38 "java/lang/String" "COMPACT_STRINGS" "Z" ∈ gd_jw := List.mem_of_getElem? (i := 0) rfl
theorem gdp311 : Cond.fieldLink RJ0 15 "java/lang/String" "coder" "B" ∈ gd_jw := List.mem_of_getElem? (i := 1) rfl
theorem gdp312 : Cond.fieldLink RJ0 9 "java/lang/String" "value" "[B" ∈ gd_jw := List.mem_of_getElem? (i := 2) rfl
theorem gdp313 : Cond.code yJ0_coder_7d493 cJ0_coder_7d493 1 (some .byte) ∈ gd_jw := List.mem_of_getElem? (i := 3) rfl
theorem gdp314 : Cond.methodLink RJ0 335 yJ0_coder_7d493 ∈ gd_jw := List.mem_of_getElem? (i := 4) rfl
theorem gdp315 : Cond.instanceMethod yJ0_coder_7d493 ∈ gd_jw := List.mem_of_getElem? (i := 5) rfl
theorem gdp316 : Cond.selects RJ0 yJ0_coder_7d493 yJ0_coder_7d493 ∈ gd_jw := List.mem_of_getElem? (i := 6) rfl
theorem gdp317 : Cond.initialized RJ0 ∈ gd_jw := List.mem_of_getElem? (i := 7) rfl
theorem gdp318 : Cond.fieldLink RJ0 1053 "jdk/internal/util/Preconditions" "SIOOBE_FORMATTER" "Ljava/util/function/BiFunction;" ∈ gd_jw := List.mem_of_getElem? (i := 8) rfl
theorem gdp319 : Cond.code yJ3_checkIndex_8e157 cJ3_checkIndex_8e157 3 (some .int) ∈ gd_jw := List.mem_of_getElem? (i := 9) rfl
theorem gdp320 : Cond.methodLink RJ0 1059 yJ3_checkIndex_8e157 ∈ gd_jw := List.mem_of_getElem? (i := 10) rfl
theorem gdp321 : Cond.static yJ3_checkIndex_8e157 ∈ gd_jw := List.mem_of_getElem? (i := 11) rfl
theorem gdp322 : Cond.initialized RJ3 ∈ gd_jw := List.mem_of_getElem? (i := 12) rfl
theorem gdp323 : Cond.code yJ0_checkIndex_df160 cJ0_checkIndex_df160 2 none ∈ gd_jw := List.mem_of_getElem? (i := 13) rfl
theorem gdp324 : Cond.methodLink RJ1 9 yJ0_checkIndex_df160 ∈ gd_jw := List.mem_of_getElem? (i := 14) rfl
theorem gdp325 : Cond.static yJ0_checkIndex_df160 ∈ gd_jw := List.mem_of_getElem? (i := 15) rfl
theorem gdp326 : Cond.code yJ0_isLatin1_aae02 cJ0_isLatin1_aae02 1 (some .boolean) ∈ gd_jw := List.mem_of_getElem? (i := 16) rfl
theorem gdp327 : Cond.methodLink RJ0 492 yJ0_isLatin1_aae02 ∈ gd_jw := List.mem_of_getElem? (i := 17) rfl
theorem gdp328 : Cond.instanceMethod yJ0_isLatin1_aae02 ∈ gd_jw := List.mem_of_getElem? (i := 18) rfl
theorem gdp329 : Cond.selects RJ0 yJ0_isLatin1_aae02 yJ0_isLatin1_aae02 ∈ gd_jw := List.mem_of_getElem? (i := 19) rfl
theorem gdp330 : Cond.code yJ1_charAt_3b067 cJ1_charAt_3b067 2 (some .char) ∈ gd_jw := List.mem_of_getElem? (i := 20) rfl
theorem gdp331 : Cond.methodLink RJ0 495 yJ1_charAt_3b067 ∈ gd_jw := List.mem_of_getElem? (i := 21) rfl
theorem gdp332 : Cond.static yJ1_charAt_3b067 ∈ gd_jw := List.mem_of_getElem? (i := 22) rfl
theorem gdp333 : Cond.initialized RJ1 ∈ gd_jw := List.mem_of_getElem? (i := 23) rfl
theorem gdp334 : Cond.code yJ0_length_8abf5 cJ0_length_8abf5 1 (some .int) ∈ gd_jw := List.mem_of_getElem? (i := 24) rfl
theorem gdp335 : Cond.methodLink RX13 627 yJ0_length_8abf5 ∈ gd_jw := List.mem_of_getElem? (i := 25) rfl
theorem gdp336 : Cond.instanceMethod yJ0_length_8abf5 ∈ gd_jw := List.mem_of_getElem? (i := 26) rfl
theorem gdp337 : Cond.selects RJ0 yJ0_length_8abf5 yJ0_length_8abf5 ∈ gd_jw := List.mem_of_getElem? (i := 27) rfl
theorem gdp338 : Cond.code yJ0_charAt_5068e cJ0_charAt_5068e 2 (some .char) ∈ gd_jw := List.mem_of_getElem? (i := 28) rfl
theorem gdp339 : Cond.methodLink RX13 630 yJ0_charAt_5068e ∈ gd_jw := List.mem_of_getElem? (i := 29) rfl
theorem gdp340 : Cond.instanceMethod yJ0_charAt_5068e ∈ gd_jw := List.mem_of_getElem? (i := 30) rfl
theorem gdp341 : Cond.selects RJ0 yJ0_charAt_5068e yJ0_charAt_5068e ∈ gd_jw := List.mem_of_getElem? (i := 31) rfl
theorem gd_gV {c0 c1 : Cond} {own C : String} {index : Nat} {y : MethodName} (h0 : c1 ∈ gd_jw) (h1 : Cond.methodLink own index y ∈ gd_jw) (h2 : Cond.instanceMethod y ∈ gd_jw) (h3 : Cond.selects C y y ∈ gd_jw) (h4 : Cond.initialized C ∈ gd_jw) : GoodIn (c0 :: gd_jw) (wsV own index C y (c1 :: gd_jw)) := fun w hw => by
  have h9 : w ∈ gd_jw := by
    rcases List.mem_append.mp hw with hw | hw
    · rcases List.mem_cons.mp hw with rfl | hw
      · exact h1
      rcases List.mem_cons.mp hw with rfl | hw
      · exact h2
      rcases List.mem_cons.mp hw with rfl | hw
      · exact h3
      rcases List.mem_cons.mp hw with rfl | hw
      · exact h4
      exact absurd hw List.not_mem_nil
    · rcases List.mem_cons.mp hw with rfl | hw
      · exact h0
      · exact hw
  exact ⟨List.mem_cons_of_mem _ h9, good_of_word (gd_jgood w h9)⟩
theorem gd_gS {c0 c1 : Cond} {own : String} {index : Nat} {y : MethodName} (h0 : c1 ∈ gd_jw) (h1 : Cond.methodLink own index y ∈ gd_jw) (h2 : Cond.static y ∈ gd_jw) (h3 : Cond.initialized y.cls ∈ gd_jw) : GoodIn (c0 :: gd_jw) (va_wsS own index y (c1 :: gd_jw)) := fun w hw => by
  have h9 : w ∈ gd_jw := by
    rcases List.mem_append.mp hw with hw | hw
    · rcases List.mem_cons.mp hw with rfl | hw
      · exact h1
      rcases List.mem_cons.mp hw with rfl | hw
      · exact h2
      rcases List.mem_cons.mp hw with rfl | hw
      · exact h3
      exact absurd hw List.not_mem_nil
    · rcases List.mem_cons.mp hw with rfl | hw
      · exact h0
      · exact hw
  exact ⟨List.mem_cons_of_mem _ h9, good_of_word (gd_jgood w h9)⟩
theorem gdpd_J0_charAt_5068e : yJ0_charAt_5068e.cls = RJ0 ∧ yJ0_charAt_5068e.cls ≠ "java/lang/invoke/MethodHandle" ∧ yJ0_charAt_5068e.cls ≠ "java/lang/invoke/VarHandle" ∧ (parseMethodDescriptor yJ0_charAt_5068e.desc).map (fun d => d.parameters.length) = some 1 := by decide +kernel
theorem gdpd_J0_checkIndex_df160 : yJ0_checkIndex_df160.cls ≠ "java/lang/invoke/MethodHandle" ∧ yJ0_checkIndex_df160.cls ≠ "java/lang/invoke/VarHandle" ∧ (parseMethodDescriptor yJ0_checkIndex_df160.desc).map (fun d => d.parameters.length) = some 2 := by decide +kernel
theorem gdpd_J0_coder_7d493 : yJ0_coder_7d493.cls = RJ0 ∧ yJ0_coder_7d493.cls ≠ "java/lang/invoke/MethodHandle" ∧ yJ0_coder_7d493.cls ≠ "java/lang/invoke/VarHandle" ∧ (parseMethodDescriptor yJ0_coder_7d493.desc).map (fun d => d.parameters.length) = some 0 := by decide +kernel
theorem gdpd_J0_isLatin1_aae02 : yJ0_isLatin1_aae02.cls = RJ0 ∧ yJ0_isLatin1_aae02.cls ≠ "java/lang/invoke/MethodHandle" ∧ yJ0_isLatin1_aae02.cls ≠ "java/lang/invoke/VarHandle" ∧ (parseMethodDescriptor yJ0_isLatin1_aae02.desc).map (fun d => d.parameters.length) = some 0 := by decide +kernel
theorem gdpd_J0_length_8abf5 : yJ0_length_8abf5.cls = RJ0 ∧ yJ0_length_8abf5.cls ≠ "java/lang/invoke/MethodHandle" ∧ yJ0_length_8abf5.cls ≠ "java/lang/invoke/VarHandle" ∧ (parseMethodDescriptor yJ0_length_8abf5.desc).map (fun d => d.parameters.length) = some 0 := by decide +kernel
theorem gdpd_J1_charAt_3b067 : yJ1_charAt_3b067.cls ≠ "java/lang/invoke/MethodHandle" ∧ yJ1_charAt_3b067.cls ≠ "java/lang/invoke/VarHandle" ∧ (parseMethodDescriptor yJ1_charAt_3b067.desc).map (fun d => d.parameters.length) = some 2 := by decide +kernel
theorem gdpd_J3_checkIndex_8e157 : yJ3_checkIndex_8e157.cls ≠ "java/lang/invoke/MethodHandle" ∧ yJ3_checkIndex_8e157.cls ≠ "java/lang/invoke/VarHandle" ∧ (parseMethodDescriptor yJ3_checkIndex_8e157.desc).map (fun d => d.parameters.length) = some 3 := by decide +kernel
theorem gdJ0_charAt_5068e_0 : decode cJ0_charAt_5068e 0 = .ok (.aload_n 0, 1) := by decide +kernel
theorem gdJ0_charAt_5068e_1 : decode cJ0_charAt_5068e 1 = .ok (.invokevirtual 492, 3) := by decide +kernel
theorem gdJ0_charAt_5068e_4 : decode cJ0_charAt_5068e 4 = .ok (.ifCond .eq 12, 3) := by decide +kernel
theorem gdJ0_charAt_5068e_7 : decode cJ0_charAt_5068e 7 = .ok (.aload_n 0, 1) := by decide +kernel
theorem gdJ0_charAt_5068e_8 : decode cJ0_charAt_5068e 8 = .ok (.getfield 9, 3) := by decide +kernel
theorem gdJ0_charAt_5068e_11 : decode cJ0_charAt_5068e 11 = .ok (.iload_n 1, 1) := by decide +kernel
theorem gdJ0_charAt_5068e_12 : decode cJ0_charAt_5068e 12 = .ok (.invokestatic 495, 3) := by decide +kernel
theorem gdJ0_charAt_5068e_15 : decode cJ0_charAt_5068e 15 = .ok (.ireturn, 1) := by decide +kernel
theorem gdJ0_checkIndex_df160_0 : decode cJ0_checkIndex_df160 0 = .ok (.iload_n 0, 1) := by decide +kernel
theorem gdJ0_checkIndex_df160_1 : decode cJ0_checkIndex_df160 1 = .ok (.iload_n 1, 1) := by decide +kernel
theorem gdJ0_checkIndex_df160_2 : decode cJ0_checkIndex_df160 2 = .ok (.getstatic 1053, 3) := by decide +kernel
theorem gdJ0_checkIndex_df160_5 : decode cJ0_checkIndex_df160 5 = .ok (.invokestatic 1059, 3) := by decide +kernel
theorem gdJ0_checkIndex_df160_8 : decode cJ0_checkIndex_df160 8 = .ok (.pop, 1) := by decide +kernel
theorem gdJ0_checkIndex_df160_9 : decode cJ0_checkIndex_df160 9 = .ok (.return_, 1) := by decide +kernel
theorem gdJ0_coder_7d493_0 : decode cJ0_coder_7d493 0 = .ok (.getstatic 38, 3) := by decide +kernel
theorem gdJ0_coder_7d493_3 : decode cJ0_coder_7d493 3 = .ok (.ifCond .eq 10, 3) := by decide +kernel
theorem gdJ0_coder_7d493_6 : decode cJ0_coder_7d493 6 = .ok (.aload_n 0, 1) := by decide +kernel
theorem gdJ0_coder_7d493_7 : decode cJ0_coder_7d493 7 = .ok (.getfield 15, 3) := by decide +kernel
theorem gdJ0_coder_7d493_10 : decode cJ0_coder_7d493 10 = .ok (.goto 4, 3) := by decide +kernel
theorem gdJ0_coder_7d493_14 : decode cJ0_coder_7d493 14 = .ok (.ireturn, 1) := by decide +kernel
theorem gdJ0_isLatin1_aae02_0 : decode cJ0_isLatin1_aae02 0 = .ok (.getstatic 38, 3) := by decide +kernel
theorem gdJ0_isLatin1_aae02_3 : decode cJ0_isLatin1_aae02 3 = .ok (.ifCond .eq 14, 3) := by decide +kernel
theorem gdJ0_isLatin1_aae02_6 : decode cJ0_isLatin1_aae02 6 = .ok (.aload_n 0, 1) := by decide +kernel
theorem gdJ0_isLatin1_aae02_7 : decode cJ0_isLatin1_aae02 7 = .ok (.getfield 15, 3) := by decide +kernel
theorem gdJ0_isLatin1_aae02_10 : decode cJ0_isLatin1_aae02 10 = .ok (.ifCond .ne 7, 3) := by decide +kernel
theorem gdJ0_isLatin1_aae02_13 : decode cJ0_isLatin1_aae02 13 = .ok (.iconst 1, 1) := by decide +kernel
theorem gdJ0_isLatin1_aae02_14 : decode cJ0_isLatin1_aae02 14 = .ok (.goto 4, 3) := by decide +kernel
theorem gdJ0_isLatin1_aae02_18 : decode cJ0_isLatin1_aae02 18 = .ok (.ireturn, 1) := by decide +kernel
theorem gdJ0_length_8abf5_0 : decode cJ0_length_8abf5 0 = .ok (.aload_n 0, 1) := by decide +kernel
theorem gdJ0_length_8abf5_1 : decode cJ0_length_8abf5 1 = .ok (.getfield 9, 3) := by decide +kernel
theorem gdJ0_length_8abf5_4 : decode cJ0_length_8abf5 4 = .ok (.arraylength, 1) := by decide +kernel
theorem gdJ0_length_8abf5_5 : decode cJ0_length_8abf5 5 = .ok (.aload_n 0, 1) := by decide +kernel
theorem gdJ0_length_8abf5_6 : decode cJ0_length_8abf5 6 = .ok (.invokevirtual 335, 3) := by decide +kernel
theorem gdJ0_length_8abf5_9 : decode cJ0_length_8abf5 9 = .ok (.ishr, 1) := by decide +kernel
theorem gdJ0_length_8abf5_10 : decode cJ0_length_8abf5 10 = .ok (.ireturn, 1) := by decide +kernel
theorem gdJ1_charAt_3b067_0 : decode cJ1_charAt_3b067 0 = .ok (.iload_n 1, 1) := by decide +kernel
theorem gdJ1_charAt_3b067_1 : decode cJ1_charAt_3b067 1 = .ok (.aload_n 0, 1) := by decide +kernel
theorem gdJ1_charAt_3b067_2 : decode cJ1_charAt_3b067 2 = .ok (.arraylength, 1) := by decide +kernel
theorem gdJ1_charAt_3b067_3 : decode cJ1_charAt_3b067 3 = .ok (.invokestatic 9, 3) := by decide +kernel
theorem gdJ1_charAt_3b067_6 : decode cJ1_charAt_3b067 6 = .ok (.aload_n 0, 1) := by decide +kernel
theorem gdJ1_charAt_3b067_7 : decode cJ1_charAt_3b067 7 = .ok (.iload_n 1, 1) := by decide +kernel
theorem gdJ1_charAt_3b067_8 : decode cJ1_charAt_3b067 8 = .ok (.baload, 1) := by decide +kernel
theorem gdJ1_charAt_3b067_9 : decode cJ1_charAt_3b067 9 = .ok (.sipush 255, 3) := by decide +kernel
theorem gdJ1_charAt_3b067_12 : decode cJ1_charAt_3b067 12 = .ok (.iand, 1) := by decide +kernel
theorem gdJ1_charAt_3b067_13 : decode cJ1_charAt_3b067 13 = .ok (.i2c, 1) := by decide +kernel
theorem gdJ1_charAt_3b067_14 : decode cJ1_charAt_3b067 14 = .ok (.ireturn, 1) := by decide +kernel
theorem gdJ3_checkIndex_8e157_0 : decode cJ3_checkIndex_8e157 0 = .ok (.iload_n 0, 1) := by decide +kernel
theorem gdJ3_checkIndex_8e157_1 : decode cJ3_checkIndex_8e157 1 = .ok (.ifCond .lt 8, 3) := by decide +kernel
theorem gdJ3_checkIndex_8e157_4 : decode cJ3_checkIndex_8e157 4 = .ok (.iload_n 0, 1) := by decide +kernel
theorem gdJ3_checkIndex_8e157_5 : decode cJ3_checkIndex_8e157 5 = .ok (.iload_n 1, 1) := by decide +kernel
theorem gdJ3_checkIndex_8e157_6 : decode cJ3_checkIndex_8e157 6 = .ok (.if_icmp .lt 10, 3) := by decide +kernel
theorem gdJ3_checkIndex_8e157_16 : decode cJ3_checkIndex_8e157 16 = .ok (.iload_n 0, 1) := by decide +kernel
theorem gdJ3_checkIndex_8e157_17 : decode cJ3_checkIndex_8e157 17 = .ok (.ireturn, 1) := by decide +kernel
theorem gdX13_word_0 : decode cX13_word 0 = .ok (.lconst 0, 1) := by decide +kernel
theorem gdX13_word_1 : decode cX13_word 1 = .ok (.lstore_n 1, 1) := by decide +kernel
theorem gdX13_word_2 : decode cX13_word 2 = .ok (.iconst 0, 1) := by decide +kernel
theorem gdX13_word_3 : decode cX13_word 3 = .ok (.istore_n 3, 1) := by decide +kernel
theorem gdX13_word_4 : decode cX13_word 4 = .ok (.iload_n 3, 1) := by decide +kernel
theorem gdX13_word_5 : decode cX13_word 5 = .ok (.bipush 8, 2) := by decide +kernel
theorem gdX13_word_7 : decode cX13_word 7 = .ok (.if_icmp .ge 33, 3) := by decide +kernel
theorem gdX13_word_10 : decode cX13_word 10 = .ok (.lload_n 1, 1) := by decide +kernel
theorem gdX13_word_11 : decode cX13_word 11 = .ok (.bipush 8, 2) := by decide +kernel
theorem gdX13_word_13 : decode cX13_word 13 = .ok (.lshl, 1) := by decide +kernel
theorem gdX13_word_14 : decode cX13_word 14 = .ok (.iload_n 3, 1) := by decide +kernel
theorem gdX13_word_15 : decode cX13_word 15 = .ok (.aload_n 0, 1) := by decide +kernel
theorem gdX13_word_16 : decode cX13_word 16 = .ok (.invokevirtual 627, 3) := by decide +kernel
theorem gdX13_word_19 : decode cX13_word 19 = .ok (.if_icmp .ge 11, 3) := by decide +kernel
theorem gdX13_word_22 : decode cX13_word 22 = .ok (.aload_n 0, 1) := by decide +kernel
theorem gdX13_word_23 : decode cX13_word 23 = .ok (.iload_n 3, 1) := by decide +kernel
theorem gdX13_word_24 : decode cX13_word 24 = .ok (.invokevirtual 630, 3) := by decide +kernel
theorem gdX13_word_27 : decode cX13_word 27 = .ok (.goto 4, 3) := by decide +kernel
theorem gdX13_word_30 : decode cX13_word 30 = .ok (.iconst 0, 1) := by decide +kernel
theorem gdX13_word_31 : decode cX13_word 31 = .ok (.i2l, 1) := by decide +kernel
theorem gdX13_word_32 : decode cX13_word 32 = .ok (.lor, 1) := by decide +kernel
theorem gdX13_word_33 : decode cX13_word 33 = .ok (.lstore_n 1, 1) := by decide +kernel
theorem gdX13_word_34 : decode cX13_word 34 = .ok (.iinc 3 1, 3) := by decide +kernel
theorem gdX13_word_37 : decode cX13_word 37 = .ok (.goto (-33), 3) := by decide +kernel
theorem gdX13_word_40 : decode cX13_word 40 = .ok (.lload_n 1, 1) := by decide +kernel
theorem gdX13_word_41 : decode cX13_word 41 = .ok (.lreturn, 1) := by decide +kernel
def gd_ch (x : Int32) : Int32 := ((x &&& 255).toUInt32 % 65536).toInt32
theorem gd_ch_nI {n k : Nat} {b : Nat → Int32} (hk : k < n) (hn : n < 2 ^ 31) : gd_ch (b (nI k).toNatClampNeg) = gd_ch (b k) := by
  rw [show (nI k).toNatClampNeg = k from nI_clamp (by omega)]
def gd_wd (n : Nat) (b : Nat → Int32) : Nat → Int64
  | 0 => 0
  | j + 1 => (gd_wd n b j <<< ((8 : Int32).toInt64 &&& 63)) ||| (if j < n then gd_ch (b j) else 0).toInt64
set_option maxHeartbeats 8000000 in
set_option maxRecDepth 100000 in
theorem gdc_J0_coder_7d493 (l : Launch) (D : va_G) (cy : Nat → ClassId) (q v n : Nat) (b : Nat → Int32) (sz : Nat) (L : List Nat) (f : Nat → va_E) : Met l yJ0_coder_7d493 (Cond.code yJ0_coder_7d493 cJ0_coder_7d493 1 (some .byte) :: gd_jw) ({ frames := 0, cells := 0, slots := 0, locals := 0 }) (py_Pc D cy q v n b [.ref q] sz L f) (pq_Qi D sz L f [] (fun r cs1 => r = 0 ∧ cs1 = [])) 0 0 (pw_A L f sz) := by
  refine Met.ofW (cc := cJ0_coder_7d493) (maxL := 1) (ret := (some .byte)) (by decide) rfl ?_
  intro p e s m args below meth c s₁ B hml hv
  obtain ⟨rfl, hsz, hG, hY, hP, hD0⟩ := hv
  have hx := B.exec
  have hb := B.bytes
  have hr := B.returns
  have hts := atoms_spec (ws := Cond.code yJ0_coder_7d493 cJ0_coder_7d493 1 (some .byte) :: gd_jw) B.pre
  have hpp := fun (w : Cond) (h : w ∈ gd_jw) => hts w (List.mem_cons_of_mem _ h)
  have hown : s.vm.findClass RJ0 = some m.cls := findClass_of_methodNamed B.named
  have hlocks := B.notSynchronized
  have hw := pw_start (cy := cy) hsz hP hD0
  have hW := pq_start (as := []) hw pq_C.nil rfl
  have hl := lv_entry ([.ref q]) (n := 1) (Nat.le_of_ble_eq_true rfl)
  rw [lg_entry_eq]
  generalize (lg_sl ([.ref q]) ++ List.replicate (1 - (lg_sl ([.ref q])).length) Slot.unset).toArray = ls at hl ⊢
  have hl : lv_has ls 1 [(0, .ref q)] := hl
  refine va_gets hx hb hY.2.2.2.2.1 hW.S hown (hpp _ gdp310) (fun _ h => h) gdJ0_coder_7d493_0 ?_
  refine lv_if_eq (tgt := 13) hx hb gdJ0_coder_7d493_3 (by decide) (fun c1 => absurd c1 (by decide)) (fun _ => ?_)
  refine lv_aload_n hx hb gdJ0_coder_7d493_6 rfl (lv_at hl 0 rfl) ?_
  refine vk_getf hx hb hY.2.1 hW.S hown (hpp _ gdp311) (fun _ h => h) gdJ0_coder_7d493_7 ?_
  refine lv_goto (tgt := 14) hx hb gdJ0_coder_7d493_10 (by decide) ?_
  exact pq_iret hx hb hr hlocks rfl hW ⟨rfl, rfl⟩ gdJ0_coder_7d493_14
set_option maxHeartbeats 8000000 in
set_option maxRecDepth 100000 in
theorem gdc_J0_isLatin1_aae02 (l : Launch) (D : va_G) (cy : Nat → ClassId) (q v n : Nat) (b : Nat → Int32) (sz : Nat) (L : List Nat) (f : Nat → va_E) : Met l yJ0_isLatin1_aae02 (Cond.code yJ0_isLatin1_aae02 cJ0_isLatin1_aae02 1 (some .boolean) :: gd_jw) ({ frames := 0, cells := 0, slots := 0, locals := 0 }) (py_Pc D cy q v n b [.ref q] sz L f) (pq_Qi D sz L f [] (fun r cs1 => r = 1 ∧ cs1 = [])) 0 0 (pw_A L f sz) := by
  refine Met.ofW (cc := cJ0_isLatin1_aae02) (maxL := 1) (ret := (some .boolean)) (by decide) rfl ?_
  intro p e s m args below meth c s₁ B hml hv
  obtain ⟨rfl, hsz, hG, hY, hP, hD0⟩ := hv
  have hx := B.exec
  have hb := B.bytes
  have hr := B.returns
  have hts := atoms_spec (ws := Cond.code yJ0_isLatin1_aae02 cJ0_isLatin1_aae02 1 (some .boolean) :: gd_jw) B.pre
  have hpp := fun (w : Cond) (h : w ∈ gd_jw) => hts w (List.mem_cons_of_mem _ h)
  have hown : s.vm.findClass RJ0 = some m.cls := findClass_of_methodNamed B.named
  have hlocks := B.notSynchronized
  have hw := pw_start (cy := cy) hsz hP hD0
  have hW := pq_start (as := []) hw pq_C.nil rfl
  have hl := lv_entry ([.ref q]) (n := 1) (Nat.le_of_ble_eq_true rfl)
  rw [lg_entry_eq]
  generalize (lg_sl ([.ref q]) ++ List.replicate (1 - (lg_sl ([.ref q])).length) Slot.unset).toArray = ls at hl ⊢
  have hl : lv_has ls 1 [(0, .ref q)] := hl
  refine va_gets hx hb hY.2.2.2.2.1 hW.S hown (hpp _ gdp310) (fun _ h => h) gdJ0_isLatin1_aae02_0 ?_
  refine lv_if_eq (tgt := 17) hx hb gdJ0_isLatin1_aae02_3 (by decide) (fun c1 => absurd c1 (by decide)) (fun _ => ?_)
  refine lv_aload_n hx hb gdJ0_isLatin1_aae02_6 rfl (lv_at hl 0 rfl) ?_
  refine vk_getf hx hb hY.2.1 hW.S hown (hpp _ gdp311) (fun _ h => h) gdJ0_isLatin1_aae02_7 ?_
  refine lv_if_ne (tgt := 17) hx hb gdJ0_isLatin1_aae02_10 (by decide) (fun c1 => absurd rfl c1) (fun _ => ?_)
  refine lv_iconst (v := 1) hx hb gdJ0_isLatin1_aae02_13 (by decide) ?_
  refine lv_goto (tgt := 18) hx hb gdJ0_isLatin1_aae02_14 (by decide) ?_
  exact pq_iret hx hb hr hlocks rfl hW ⟨rfl, rfl⟩ gdJ0_isLatin1_aae02_18
set_option maxHeartbeats 8000000 in
set_option maxRecDepth 100000 in
theorem gdc_J0_length_8abf5 (l : Launch) (D : va_G) (cy : Nat → ClassId) (q v n : Nat) (b : Nat → Int32) (hn : n < 2 ^ 31) (sz : Nat) (L : List Nat) (f : Nat → va_E) : Met l yJ0_length_8abf5 (Cond.code yJ0_length_8abf5 cJ0_length_8abf5 1 (some .int) :: gd_jw) ({ frames := 1, cells := 0, slots := 0, locals := 20 }) (py_Pc D cy q v n b [.ref q] sz L f) (pq_Qi D sz L f [] (fun r cs1 => r = nI n ∧ cs1 = [])) 0 0 (pw_A L f sz) := by
  refine Met.ofW (cc := cJ0_length_8abf5) (maxL := 1) (ret := (some .int)) (by decide) rfl ?_
  intro p e s m args below meth c s₁ B hml hv
  obtain ⟨rfl, hsz, hG, hY, hP, hD0⟩ := hv
  have hx := B.exec
  have hb := B.bytes
  have hr := B.returns
  have hts := atoms_spec (ws := Cond.code yJ0_length_8abf5 cJ0_length_8abf5 1 (some .int) :: gd_jw) B.pre
  have hpp := fun (w : Cond) (h : w ∈ gd_jw) => hts w (List.mem_cons_of_mem _ h)
  have hown : s.vm.findClass RJ0 = some m.cls := findClass_of_methodNamed B.named
  have hlocks := B.notSynchronized
  have hw := pw_start (cy := cy) hsz hP hD0
  have hW := pq_start (as := []) hw pq_C.nil rfl
  have hl := lv_entry ([.ref q]) (n := 1) (Nat.le_of_ble_eq_true rfl)
  rw [lg_entry_eq]
  generalize (lg_sl ([.ref q]) ++ List.replicate (1 - (lg_sl ([.ref q])).length) Slot.unset).toArray = ls at hl ⊢
  have hl : lv_has ls 1 [(0, .ref q)] := hl
  refine lv_aload_n hx hb gdJ0_length_8abf5_0 rfl (lv_at hl 0 rfl) ?_
  refine vk_getf hx hb hY.2.2.1 hW.S hown (hpp _ gdp312) (fun _ h => h) gdJ0_length_8abf5_1 ?_
  refine va_tlen (v := nI n) hx hb hY.2.2.2.1 hW.S rfl gdJ0_length_8abf5_4 ?_
  refine lv_aload_n hx hb gdJ0_length_8abf5_5 rfl (lv_at hl 0 rfl) ?_
  refine pq_calli hW [] [] (by decide) rfl rfl (fun f9 hw9 hC9 => va_runV (C := RJ0) (As := []) (rest := [.int (nI n)]) ⟨hx, hb, hml, hown, hts⟩ (gdc_J0_coder_7d493 l D cy q v n b _ L f9) (cwV 0 hts (gd_gV gdp313 gdp314 gdp315 gdp316 gdp317) rfl rfl rfl gdpd_J0_coder_7d493 ⟨Nat.le_of_ble_eq_true rfl, Nat.le_of_ble_eq_true rfl⟩) (py_preV hG hY hw9) rfl rfl hl.1 rfl (lv_room (Nat.le_of_ble_eq_true rfl)) gdJ0_length_8abf5_6 ⟨Nat.le_of_ble_eq_true rfl, Nat.le_of_ble_eq_true rfl⟩) (fun r cs1 H locs hP hW => ?_)
  obtain ⟨rfl, rfl⟩ := hP
  refine lv_ishr hx hb gdJ0_length_8abf5_9 ?_
  exact pq_iret hx hb hr hlocks rfl hW ⟨sc_shr0 hn, rfl⟩ gdJ0_length_8abf5_10
set_option maxHeartbeats 8000000 in
set_option maxRecDepth 100000 in
theorem gdc_J3_checkIndex_8e157_n (l : Launch) (D : va_G) (cy : Nat → ClassId) (q v n : Nat) (b : Nat → Int32) (k : Nat) (hk : k < n) (hn : n < 2 ^ 31) (sz : Nat) (L : List Nat) (f : Nat → va_E) : Met l yJ3_checkIndex_8e157 (Cond.code yJ3_checkIndex_8e157 cJ3_checkIndex_8e157 3 (some .int) :: gd_jw) ({ frames := 0, cells := 0, slots := 0, locals := 0 }) (py_Pc D cy q v n b [.int (nI k), .int (nI n), .null] sz L f) (pq_Qi D sz L f [] (fun r cs1 => cs1 = [])) 0 0 (pw_A L f sz) := by
  refine Met.ofW (cc := cJ3_checkIndex_8e157) (maxL := 3) (ret := (some .int)) (by decide) rfl ?_
  intro p e s m args below meth c s₁ B hml hv
  obtain ⟨rfl, hsz, hG, hY, hP, hD0⟩ := hv
  have hx := B.exec
  have hb := B.bytes
  have hr := B.returns
  have hts := atoms_spec (ws := Cond.code yJ3_checkIndex_8e157 cJ3_checkIndex_8e157 3 (some .int) :: gd_jw) B.pre
  have hpp := fun (w : Cond) (h : w ∈ gd_jw) => hts w (List.mem_cons_of_mem _ h)
  have hown : s.vm.findClass RJ3 = some m.cls := findClass_of_methodNamed B.named
  have hlocks := B.notSynchronized
  have hw := pw_start (cy := cy) hsz hP hD0
  have hW := pq_start (as := []) hw pq_C.nil rfl
  have hl := lv_entry ([.int (nI k), .int (nI n), .null]) (n := 3) (Nat.le_of_ble_eq_true rfl)
  rw [lg_entry_eq]
  generalize (lg_sl ([.int (nI k), .int (nI n), .null]) ++ List.replicate (3 - (lg_sl ([.int (nI k), .int (nI n), .null])).length) Slot.unset).toArray = ls at hl ⊢
  have hl : lv_has ls 3 [(0, .int (nI k)), (1, .int (nI n)), (2, .null)] := hl
  refine lv_iload_n hx hb gdJ3_checkIndex_8e157_0 rfl (lv_at hl 0 rfl) ?_
  refine lv_if_lt (tgt := 9) hx hb gdJ3_checkIndex_8e157_1 (by decide) (fun c1 => absurd c1 (nI_pos (by omega))) (fun _ => ?_)
  refine lv_iload_n hx hb gdJ3_checkIndex_8e157_4 rfl (lv_at hl 0 rfl) ?_
  refine lv_iload_n hx hb gdJ3_checkIndex_8e157_5 rfl (lv_at hl 1 rfl) ?_
  refine lv_icmp_lt (tgt := 16) hx hb gdJ3_checkIndex_8e157_6 (by decide) (fun _ => ?_) (fun c1 => absurd (nI_lt hk hn) c1)
  refine lv_iload_n hx hb gdJ3_checkIndex_8e157_16 rfl (lv_at hl 0 rfl) ?_
  exact pq_iret hx hb hr hlocks rfl hW rfl gdJ3_checkIndex_8e157_17
set_option maxHeartbeats 8000000 in
set_option maxRecDepth 100000 in
theorem gdc_J3_checkIndex_8e157_r (l : Launch) (D : va_G) (cy : Nat → ClassId) (q v n : Nat) (b : Nat → Int32) (k : Nat) (hk : k < n) (hn : n < 2 ^ 31) (t : Nat) (sz : Nat) (L : List Nat) (f : Nat → va_E) : Met l yJ3_checkIndex_8e157 (Cond.code yJ3_checkIndex_8e157 cJ3_checkIndex_8e157 3 (some .int) :: gd_jw) ({ frames := 0, cells := 0, slots := 0, locals := 0 }) (py_Pc D cy q v n b [.int (nI k), .int (nI n), .ref t] sz L f) (pq_Qi D sz L f [] (fun r cs1 => cs1 = [])) 0 0 (pw_A L f sz) := by
  refine Met.ofW (cc := cJ3_checkIndex_8e157) (maxL := 3) (ret := (some .int)) (by decide) rfl ?_
  intro p e s m args below meth c s₁ B hml hv
  obtain ⟨rfl, hsz, hG, hY, hP, hD0⟩ := hv
  have hx := B.exec
  have hb := B.bytes
  have hr := B.returns
  have hts := atoms_spec (ws := Cond.code yJ3_checkIndex_8e157 cJ3_checkIndex_8e157 3 (some .int) :: gd_jw) B.pre
  have hpp := fun (w : Cond) (h : w ∈ gd_jw) => hts w (List.mem_cons_of_mem _ h)
  have hown : s.vm.findClass RJ3 = some m.cls := findClass_of_methodNamed B.named
  have hlocks := B.notSynchronized
  have hw := pw_start (cy := cy) hsz hP hD0
  have hW := pq_start (as := []) hw pq_C.nil rfl
  have hl := lv_entry ([.int (nI k), .int (nI n), .ref t]) (n := 3) (Nat.le_of_ble_eq_true rfl)
  rw [lg_entry_eq]
  generalize (lg_sl ([.int (nI k), .int (nI n), .ref t]) ++ List.replicate (3 - (lg_sl ([.int (nI k), .int (nI n), .ref t])).length) Slot.unset).toArray = ls at hl ⊢
  have hl : lv_has ls 3 [(0, .int (nI k)), (1, .int (nI n)), (2, .ref t)] := hl
  refine lv_iload_n hx hb gdJ3_checkIndex_8e157_0 rfl (lv_at hl 0 rfl) ?_
  refine lv_if_lt (tgt := 9) hx hb gdJ3_checkIndex_8e157_1 (by decide) (fun c1 => absurd c1 (nI_pos (by omega))) (fun _ => ?_)
  refine lv_iload_n hx hb gdJ3_checkIndex_8e157_4 rfl (lv_at hl 0 rfl) ?_
  refine lv_iload_n hx hb gdJ3_checkIndex_8e157_5 rfl (lv_at hl 1 rfl) ?_
  refine lv_icmp_lt (tgt := 16) hx hb gdJ3_checkIndex_8e157_6 (by decide) (fun _ => ?_) (fun c1 => absurd (nI_lt hk hn) c1)
  refine lv_iload_n hx hb gdJ3_checkIndex_8e157_16 rfl (lv_at hl 0 rfl) ?_
  exact pq_iret hx hb hr hlocks rfl hW rfl gdJ3_checkIndex_8e157_17
set_option maxHeartbeats 8000000 in
set_option maxRecDepth 100000 in
theorem gdc_J0_checkIndex_df160 (l : Launch) (D : va_G) (cy : Nat → ClassId) (q v n : Nat) (b : Nat → Int32) (k : Nat) (hk : k < n) (hn : n < 2 ^ 31) (sz : Nat) (L : List Nat) (f : Nat → va_E) : Met l yJ0_checkIndex_df160 (Cond.code yJ0_checkIndex_df160 cJ0_checkIndex_df160 2 none :: gd_jw) ({ frames := 1, cells := 0, slots := 0, locals := 22 }) (py_Pc D cy q v n b [.int (nI k), .int (nI n)] sz L f) (pq_Qv D sz L f [] (fun cs1 => cs1 = [])) 0 0 (pw_A L f sz) := by
  refine Met.ofW (cc := cJ0_checkIndex_df160) (maxL := 2) (ret := none) (by decide) rfl ?_
  intro p e s m args below meth c s₁ B hml hv
  obtain ⟨rfl, hsz, hG, hY, hP, hD0⟩ := hv
  have hx := B.exec
  have hb := B.bytes
  have hr := B.returns
  have hts := atoms_spec (ws := Cond.code yJ0_checkIndex_df160 cJ0_checkIndex_df160 2 none :: gd_jw) B.pre
  have hpp := fun (w : Cond) (h : w ∈ gd_jw) => hts w (List.mem_cons_of_mem _ h)
  have hown : s.vm.findClass RJ0 = some m.cls := findClass_of_methodNamed B.named
  have hlocks := B.notSynchronized
  have hw := pw_start (cy := cy) hsz hP hD0
  have hW := pq_start (as := []) hw pq_C.nil rfl
  have hl := lv_entry ([.int (nI k), .int (nI n)]) (n := 2) (Nat.le_of_ble_eq_true rfl)
  rw [lg_entry_eq]
  generalize (lg_sl ([.int (nI k), .int (nI n)]) ++ List.replicate (2 - (lg_sl ([.int (nI k), .int (nI n)])).length) Slot.unset).toArray = ls at hl ⊢
  have hl : lv_has ls 2 [(0, .int (nI k)), (1, .int (nI n))] := hl
  refine lv_iload_n hx hb gdJ0_checkIndex_df160_0 rfl (lv_at hl 0 rfl) ?_
  refine lv_iload_n hx hb gdJ0_checkIndex_df160_1 rfl (lv_at hl 1 rfl) ?_
  rcases hY.2.2.2.2.2 with hZ | ⟨t, hZ⟩
  · refine va_gets hx hb hZ hW.S hown (hpp _ gdp318) (fun _ h => h) gdJ0_checkIndex_df160_2 ?_
    refine pq_calli hW [] [] (by decide) rfl rfl (fun f9 hw9 hC9 => va_runS (As := [.int (nI k), .int (nI n), .null]) (rest := []) ⟨hx, hb, hml, hown, hts⟩ (gdc_J3_checkIndex_8e157_n l D cy q v n b k hk hn _ L f9) (va_cwS 3 hts (gd_gS gdp319 gdp320 gdp321 gdp322) rfl rfl rfl gdpd_J3_checkIndex_8e157 ⟨Nat.le_of_ble_eq_true rfl, Nat.le_of_ble_eq_true rfl⟩) (py_pre hG hY hw9) rfl rfl hl.1 rfl (lv_room (Nat.le_of_ble_eq_true rfl)) gdJ0_checkIndex_df160_5 ⟨Nat.le_of_ble_eq_true rfl, Nat.le_of_ble_eq_true rfl⟩) (fun r cs1 H locs hP hW => ?_)
    subst hP
    refine lv_pop hx hb gdJ0_checkIndex_df160_8 rfl ?_
    exact pq_vret hx hb hr hlocks hW rfl gdJ0_checkIndex_df160_9
  · refine va_gets hx hb hZ hW.S hown (hpp _ gdp318) (fun _ h => h) gdJ0_checkIndex_df160_2 ?_
    refine pq_calli hW [] [] (by decide) rfl rfl (fun f9 hw9 hC9 => va_runS (As := [.int (nI k), .int (nI n), .ref t]) (rest := []) ⟨hx, hb, hml, hown, hts⟩ (gdc_J3_checkIndex_8e157_r l D cy q v n b k hk hn t _ L f9) (va_cwS 3 hts (gd_gS gdp319 gdp320 gdp321 gdp322) rfl rfl rfl gdpd_J3_checkIndex_8e157 ⟨Nat.le_of_ble_eq_true rfl, Nat.le_of_ble_eq_true rfl⟩) (py_pre hG hY hw9) rfl rfl hl.1 rfl (lv_room (Nat.le_of_ble_eq_true rfl)) gdJ0_checkIndex_df160_5 ⟨Nat.le_of_ble_eq_true rfl, Nat.le_of_ble_eq_true rfl⟩) (fun r cs1 H locs hP hW => ?_)
    subst hP
    refine lv_pop hx hb gdJ0_checkIndex_df160_8 rfl ?_
    exact pq_vret hx hb hr hlocks hW rfl gdJ0_checkIndex_df160_9
set_option maxHeartbeats 8000000 in
set_option maxRecDepth 100000 in
theorem gdc_J1_charAt_3b067 (l : Launch) (D : va_G) (cy : Nat → ClassId) (q v n : Nat) (b : Nat → Int32) (k : Nat) (hk : k < n) (hn : n < 2 ^ 31) (sz : Nat) (L : List Nat) (f : Nat → va_E) : Met l yJ1_charAt_3b067 (Cond.code yJ1_charAt_3b067 cJ1_charAt_3b067 2 (some .char) :: gd_jw) ({ frames := 2, cells := 0, slots := 0, locals := 43 }) (py_Pc D cy q v n b [.ref v, .int (nI k)] sz L f) (pq_Qi D sz L f [] (fun r cs1 => (narrow .char (.int r) = .int r ∧ r = gd_ch (b k)) ∧ cs1 = [])) 0 0 (pw_A L f sz) := by
  refine Met.ofW (cc := cJ1_charAt_3b067) (maxL := 2) (ret := (some .char)) (by decide) rfl ?_
  intro p e s m args below meth c s₁ B hml hv
  obtain ⟨rfl, hsz, hG, hY, hP, hD0⟩ := hv
  have hx := B.exec
  have hb := B.bytes
  have hr := B.returns
  have hts := atoms_spec (ws := Cond.code yJ1_charAt_3b067 cJ1_charAt_3b067 2 (some .char) :: gd_jw) B.pre
  have hpp := fun (w : Cond) (h : w ∈ gd_jw) => hts w (List.mem_cons_of_mem _ h)
  have hown : s.vm.findClass RJ1 = some m.cls := findClass_of_methodNamed B.named
  have hlocks := B.notSynchronized
  have hw := pw_start (cy := cy) hsz hP hD0
  have hW := pq_start (as := []) hw pq_C.nil rfl
  have hl := lv_entry ([.ref v, .int (nI k)]) (n := 2) (Nat.le_of_ble_eq_true rfl)
  rw [lg_entry_eq]
  generalize (lg_sl ([.ref v, .int (nI k)]) ++ List.replicate (2 - (lg_sl ([.ref v, .int (nI k)])).length) Slot.unset).toArray = ls at hl ⊢
  have hl : lv_has ls 2 [(0, .ref v), (1, .int (nI k))] := hl
  refine lv_iload_n hx hb gdJ1_charAt_3b067_0 rfl (lv_at hl 1 rfl) ?_
  refine lv_aload_n hx hb gdJ1_charAt_3b067_1 rfl (lv_at hl 0 rfl) ?_
  refine va_tlen (v := nI n) hx hb hY.2.2.2.1 hW.S rfl gdJ1_charAt_3b067_2 ?_
  refine pq_callv hW [] [] (by decide) rfl rfl (fun f9 hw9 hC9 => va_runS (As := [.int (nI k), .int (nI n)]) (rest := []) ⟨hx, hb, hml, hown, hts⟩ (gdc_J0_checkIndex_df160 l D cy q v n b k hk hn _ L f9) (va_cwS 2 hts (gd_gS gdp323 gdp324 gdp325 gdp317) rfl rfl rfl gdpd_J0_checkIndex_df160 ⟨Nat.le_of_ble_eq_true rfl, Nat.le_of_ble_eq_true rfl⟩) (py_pre hG hY hw9) rfl rfl hl.1 rfl (lv_room (Nat.le_of_ble_eq_true rfl)) gdJ1_charAt_3b067_3 ⟨Nat.le_of_ble_eq_true rfl, Nat.le_of_ble_eq_true rfl⟩) (fun cs1 H locs hP hW => ?_)
  subst hP
  refine lv_aload_n hx hb gdJ1_charAt_3b067_6 rfl (lv_at hl 0 rfl) ?_
  refine lv_iload_n hx hb gdJ1_charAt_3b067_7 rfl (lv_at hl 1 rfl) ?_
  refine va_tb hx hb hY.2.2.2.1 hW.S (vp_in_nI hk hn) rfl gdJ1_charAt_3b067_8 ?_
  refine lv_sipush (v := 255) hx hb gdJ1_charAt_3b067_9 (by decide) ?_
  refine lv_iand hx hb gdJ1_charAt_3b067_12 ?_
  refine lv_i2c hx hb gdJ1_charAt_3b067_13 rfl ?_
  exact pq_iret hx hb hr hlocks (pk_nc _) hW ⟨⟨pk_nc _, gd_ch_nI hk hn⟩, rfl⟩ gdJ1_charAt_3b067_14
set_option maxHeartbeats 8000000 in
set_option maxRecDepth 100000 in
theorem gdc_J0_charAt_5068e (l : Launch) (D : va_G) (cy : Nat → ClassId) (q v n : Nat) (b : Nat → Int32) (k : Nat) (hk : k < n) (hn : n < 2 ^ 31) (sz : Nat) (L : List Nat) (f : Nat → va_E) : Met l yJ0_charAt_5068e (Cond.code yJ0_charAt_5068e cJ0_charAt_5068e 2 (some .char) :: gd_jw) ({ frames := 3, cells := 0, slots := 0, locals := 64 }) (py_Pc D cy q v n b [.ref q, .int (nI k)] sz L f) (pq_Qi D sz L f [] (fun r cs1 => r = gd_ch (b k) ∧ cs1 = [])) 0 0 (pw_A L f sz) := by
  refine Met.ofW (cc := cJ0_charAt_5068e) (maxL := 2) (ret := (some .char)) (by decide) rfl ?_
  intro p e s m args below meth c s₁ B hml hv
  obtain ⟨rfl, hsz, hG, hY, hP, hD0⟩ := hv
  have hx := B.exec
  have hb := B.bytes
  have hr := B.returns
  have hts := atoms_spec (ws := Cond.code yJ0_charAt_5068e cJ0_charAt_5068e 2 (some .char) :: gd_jw) B.pre
  have hpp := fun (w : Cond) (h : w ∈ gd_jw) => hts w (List.mem_cons_of_mem _ h)
  have hown : s.vm.findClass RJ0 = some m.cls := findClass_of_methodNamed B.named
  have hlocks := B.notSynchronized
  have hw := pw_start (cy := cy) hsz hP hD0
  have hW := pq_start (as := []) hw pq_C.nil rfl
  have hl := lv_entry ([.ref q, .int (nI k)]) (n := 2) (Nat.le_of_ble_eq_true rfl)
  rw [lg_entry_eq]
  generalize (lg_sl ([.ref q, .int (nI k)]) ++ List.replicate (2 - (lg_sl ([.ref q, .int (nI k)])).length) Slot.unset).toArray = ls at hl ⊢
  have hl : lv_has ls 2 [(0, .ref q), (1, .int (nI k))] := hl
  refine lv_aload_n hx hb gdJ0_charAt_5068e_0 rfl (lv_at hl 0 rfl) ?_
  refine pq_calli hW [] [] (by decide) rfl rfl (fun f9 hw9 hC9 => va_runV (C := RJ0) (As := []) (rest := []) ⟨hx, hb, hml, hown, hts⟩ (gdc_J0_isLatin1_aae02 l D cy q v n b _ L f9) (cwV 0 hts (gd_gV gdp326 gdp327 gdp328 gdp329 gdp317) rfl rfl rfl gdpd_J0_isLatin1_aae02 ⟨Nat.le_of_ble_eq_true rfl, Nat.le_of_ble_eq_true rfl⟩) (py_preV hG hY hw9) rfl rfl hl.1 rfl (lv_room (Nat.le_of_ble_eq_true rfl)) gdJ0_charAt_5068e_1 ⟨Nat.le_of_ble_eq_true rfl, Nat.le_of_ble_eq_true rfl⟩) (fun r cs1 H locs hP hW => ?_)
  obtain ⟨rfl, rfl⟩ := hP
  refine lv_if_eq (tgt := 16) hx hb gdJ0_charAt_5068e_4 (by decide) (fun c1 => absurd c1 (by decide)) (fun _ => ?_)
  refine lv_aload_n hx hb gdJ0_charAt_5068e_7 rfl (lv_at hl 0 rfl) ?_
  refine vk_getf hx hb hY.2.2.1 hW.S hown (hpp _ gdp312) (fun _ h => h) gdJ0_charAt_5068e_8 ?_
  refine lv_iload_n hx hb gdJ0_charAt_5068e_11 rfl (lv_at hl 1 rfl) ?_
  have hW : pq_W D _ s.heap L f _ [] H locs := hW
  refine pq_calli hW [] [] (by decide) rfl rfl (fun f9 hw9 hC9 => va_runS (As := [.ref v, .int (nI k)]) (rest := []) ⟨hx, hb, hml, hown, hts⟩ (gdc_J1_charAt_3b067 l D cy q v n b k hk hn _ L f9) (va_cwS 2 hts (gd_gS gdp330 gdp331 gdp332 gdp333) rfl rfl rfl gdpd_J1_charAt_3b067 ⟨Nat.le_of_ble_eq_true rfl, Nat.le_of_ble_eq_true rfl⟩) (py_pre hG hY hw9) rfl rfl hl.1 rfl (lv_room (Nat.le_of_ble_eq_true rfl)) gdJ0_charAt_5068e_12 ⟨Nat.le_of_ble_eq_true rfl, Nat.le_of_ble_eq_true rfl⟩) (fun r cs1 H locs hP hW => ?_)
  obtain ⟨⟨hr9, hr8⟩, rfl⟩ := hP
  exact pq_iret hx hb hr hlocks hr9 hW ⟨hr8, rfl⟩ gdJ0_charAt_5068e_15
set_option maxHeartbeats 8000000 in
set_option maxRecDepth 100000 in
theorem gdc_X13_word (l : Launch) (D : va_G) (cy : Nat → ClassId) (q v n : Nat) (b : Nat → Int32) (hn : n < 2 ^ 31) (sz : Nat) (L : List Nat) (f : Nat → va_E) : Met l yX13_word (Cond.code yX13_word cX13_word 4 (some .long) :: gd_jw) ({ frames := 4, cells := 0, slots := 0, locals := 86 }) (py_Pc D cy q v n b [.ref q] sz L f) (pq_Ql D sz L f [] (fun r cs1 => r = gd_wd n b 8 ∧ cs1 = [])) 0 0 (pw_A L f sz) := by
  refine Met.ofW (cc := cX13_word) (maxL := 4) (ret := (some .long)) (by decide) rfl ?_
  intro p e s m args below meth c s₁ B hml hv
  obtain ⟨rfl, hsz, hG, hY, hP, hD0⟩ := hv
  have hx := B.exec
  have hb := B.bytes
  have hr := B.returns
  have hts := atoms_spec (ws := Cond.code yX13_word cX13_word 4 (some .long) :: gd_jw) B.pre
  have hpp := fun (w : Cond) (h : w ∈ gd_jw) => hts w (List.mem_cons_of_mem _ h)
  have hown : s.vm.findClass RX13 = some m.cls := findClass_of_methodNamed B.named
  have hlocks := B.notSynchronized
  have hw := pw_start (cy := cy) hsz hP hD0
  have hW := pq_start (as := []) hw pq_C.nil rfl
  have hl := lv_entry ([.ref q]) (n := 4) (Nat.le_of_ble_eq_true rfl)
  rw [lg_entry_eq]
  generalize (lg_sl ([.ref q]) ++ List.replicate (4 - (lg_sl ([.ref q])).length) Slot.unset).toArray = ls at hl ⊢
  have hl : lv_has ls 4 [(0, .ref q)] := hl
  refine lv_lconst (v := 0) hx hb gdX13_word_0 (by decide) ?_
  refine lv_lstore_n (lv' := [(1, .long 0), (0, .ref q)]) hx hb gdX13_word_1 rfl hl (by decide) rfl (fun ls hl => ?_)
  refine lv_iconst (v := 0) hx hb gdX13_word_2 (by decide) ?_
  refine lv_istore_n (lv' := [(3, .int 0), (1, .long 0), (0, .ref q)]) hx hb gdX13_word_3 rfl hl (by decide) rfl (fun ls hl => ?_)
  have loop : ∀ (fu j : Nat) (w : Int64) (ls : Array Slot) (H : Heap) (locs : List Loc), 8 - j < fu → j ≤ 8 → w = gd_wd n b j → lv_has ls 4 [(3, .int (nI j)), (1, .long w), (0, .ref q)] → pq_W D (pw_A L f sz) s.heap L f [] [] H locs → W p l e (headSpec (Cond.code yX13_word cX13_word 4 (some .long) :: gd_jw) ({ frames := 4, cells := 0, slots := 0, locals := 86 })).room s m [Value.ref q].toArray below meth c H locs 0 0 (MQ below (pq_Ql D sz L f [] (fun r cs1 => r = gd_wd n b 8 ∧ cs1 = [])) [Value.ref q].toArray s 0 0 (pw_A L f sz)) (F0 m 4 ls []) := by
    intro fu
    induction fu with
    | zero => intro j w ls H locs h _ _ _ _; omega
    | succ fu ih =>
      intro j w ls H locs hfu hj hw9 hl hW
      refine lv_iload_n hx hb gdX13_word_4 rfl (lv_at hl 0 rfl) ?_
      refine lv_bipush (v := 8) hx hb gdX13_word_5 (by decide) ?_
      refine lv_icmp_ge (tgt := 40) hx hb gdX13_word_7 (by decide) (fun c1 => ?_) (fun c1 => ?_)
      · refine lv_lload_n hx hb gdX13_word_40 rfl (lv_at hl 1 rfl) ?_
        have hj9 : j = 8 := by
          rcases Nat.lt_or_ge j 8 with h | h
          · exact absurd c1 (by
              intro h2
              have h3 : nI j < nI 8 := nI_lt h (by omega)
              rw [Int32.le_iff_toInt_le] at h2
              rw [Int32.lt_iff_toInt_lt] at h3
              have h4 : (nI 8).toInt = (8 : Int32).toInt := rfl
              omega)
          · omega
        subst hj9
        exact pq_lret hx hb hr hlocks hW ⟨hw9, rfl⟩ gdX13_word_41
      · have hj8 : j < 8 := by
          rcases Nat.lt_or_ge j 8 with h | h
          · exact h
          · exact absurd (show (8 : Int32) ≤ nI j from nI_le (a := 8) h (by omega)) c1
        refine lv_lload_n hx hb gdX13_word_10 rfl (lv_at hl 1 rfl) ?_
        refine lv_bipush (v := 8) hx hb gdX13_word_11 (by decide) ?_
        refine lv_lshl hx hb gdX13_word_13 rfl ?_
        refine lv_topl (fun w1 hw1 => ?_)
        refine lv_iload_n hx hb gdX13_word_14 rfl (lv_at hl 0 rfl) ?_
        refine lv_aload_n hx hb gdX13_word_15 rfl (lv_at hl 2 rfl) ?_
        refine pq_calli hW [] [] (by decide) rfl rfl (fun f9 hw9 hC9 => va_runV (C := RJ0) (As := []) (rest := [.int (nI j), .long w1]) ⟨hx, hb, hml, hown, hts⟩ (gdc_J0_length_8abf5 l D cy q v n b hn _ L f9) (cwV 0 hts (gd_gV gdp334 gdp335 gdp336 gdp337 gdp317) rfl rfl rfl gdpd_J0_length_8abf5 ⟨Nat.le_of_ble_eq_true rfl, Nat.le_of_ble_eq_true rfl⟩) (py_preV hG hY hw9) rfl rfl hl.1 rfl (lv_room (Nat.le_of_ble_eq_true rfl)) gdX13_word_16 ⟨Nat.le_of_ble_eq_true rfl, Nat.le_of_ble_eq_true rfl⟩) (fun r cs1 H locs hP hW => ?_)
        obtain ⟨rfl, rfl⟩ := hP
        have hW : pq_W D (pw_A L f sz) s.heap L f [] [] H locs := hW
        have tail : ∀ (x : Int32) (H : Heap) (locs : List Loc), x = (if j < n then gd_ch (b j) else 0) → pq_W D (pw_A L f sz) s.heap L f [] [] H locs → W p l e (headSpec (Cond.code yX13_word cX13_word 4 (some .long) :: gd_jw) ({ frames := 4, cells := 0, slots := 0, locals := 86 })).room s m [Value.ref q].toArray below meth c H locs 0 0 (MQ below (pq_Ql D sz L f [] (fun r cs1 => r = gd_wd n b 8 ∧ cs1 = [])) [Value.ref q].toArray s 0 0 (pw_A L f sz)) (F0 m 31 ls [.int x, .long w1]) := fun x H locs hx9 hW => by
          refine lv_i2l (v := x.toInt64) hx hb gdX13_word_31 rfl ?_
          refine lv_lor hx hb gdX13_word_32 ?_
          refine lv_topl (fun w2 hw2 => ?_)
          refine lv_lstore_n (lv' := [(1, .long w2), (3, .int (nI j)), (0, .ref q)]) hx hb gdX13_word_33 rfl hl (by decide) rfl (fun ls hl => ?_)
          refine lv_iinc (v := nI (j + 1)) (lv' := [(3, .int (nI (j + 1))), (1, .long w2), (0, .ref q)]) hx hb gdX13_word_34 hl (k := 1) rfl (nI_1 j) (by decide) rfl (fun ls hl => ?_)
          refine lv_goto (tgt := 4) hx hb gdX13_word_37 (by decide) ?_
          exact ih (j + 1) w2 ls H locs (by omega) (by omega) (by rw [hw2, hw1, hw9, hx9]; rfl) hl hW
        refine lv_icmp_ge (tgt := 30) hx hb gdX13_word_19 (by decide) (fun c2 => ?_) (fun c2 => ?_)
        · refine lv_iconst (v := 0) hx hb gdX13_word_30 (by decide) ?_
          have hjn : ¬ j < n := fun h => absurd c2 (by
            intro h2
            have h3 : nI j < nI n := nI_lt h (by omega)
            rw [Int32.le_iff_toInt_le] at h2
            rw [Int32.lt_iff_toInt_lt] at h3
            omega)
          exact tail 0 H locs (if_neg hjn).symm hW
        · have hjn : j < n := by
            rcases Nat.lt_or_ge j n with h | h
            · exact h
            · exact absurd (nI_le h (by omega)) c2
          refine lv_aload_n hx hb gdX13_word_22 rfl (lv_at hl 2 rfl) ?_
          refine lv_iload_n hx hb gdX13_word_23 rfl (lv_at hl 0 rfl) ?_
          refine pq_calli hW [] [] (by decide) rfl rfl (fun f9 hw9 hC9 => va_runV (C := RJ0) (As := [.int (nI j)]) (rest := [.long w1]) ⟨hx, hb, hml, hown, hts⟩ (gdc_J0_charAt_5068e l D cy q v n b j hjn hn _ L f9) (cwV 1 hts (gd_gV gdp338 gdp339 gdp340 gdp341 gdp317) rfl rfl rfl gdpd_J0_charAt_5068e ⟨Nat.le_of_ble_eq_true rfl, Nat.le_of_ble_eq_true rfl⟩) (py_preV hG hY hw9) rfl rfl hl.1 rfl (lv_room (Nat.le_of_ble_eq_true rfl)) gdX13_word_24 ⟨Nat.le_of_ble_eq_true rfl, Nat.le_of_ble_eq_true rfl⟩) (fun r cs1 H locs hP hW => ?_)
          obtain ⟨hP1, rfl⟩ := hP
          refine lv_goto (tgt := 31) hx hb gdX13_word_27 (by decide) ?_
          exact tail r H locs (by rw [if_pos hjn]; exact hP1) hW
  exact loop 9 0 0 ls s.heap [] (by omega) (by omega) rfl hl hW
