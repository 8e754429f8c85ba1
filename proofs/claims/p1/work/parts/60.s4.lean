theorem pt27 : Cond.laysStatic "java/lang/Throwable" "UNASSIGNED_STACK" "[Ljava/lang/StackTraceElement;" ∈ lw_tbl := pk_t6 _ (List.mem_of_getElem? (i := 135) rfl)
theorem pt28 : Cond.laysStatic "java/lang/Throwable" "SUPPRESSED_SENTINEL" "Ljava/util/List;" ∈ lw_tbl := pk_t6 _ (List.mem_of_getElem? (i := 137) rfl)
theorem pt29 : Cond.laysStatic "java/lang/String" "COMPACT_STRINGS" "Z" ∈ lw_tbl := pk_t9 _ (List.mem_of_getElem? (i := 104) rfl)
theorem pt30 : Cond.laysStatic "jdk/internal/util/Preconditions" "SIOOBE_FORMATTER" "Ljava/util/function/BiFunction;" ∈ lw_tbl := pk_t9 _ (List.mem_of_getElem? (i := 120) rfl)
theorem pt31 : Cond.initialized "java/lang/Throwable" ∈ lw_tbl := pk_t1 _ (List.mem_of_getElem? (i := 16) rfl)
theorem pt32 : Cond.initialized "java/lang/String" ∈ lw_tbl := pk_t1 _ (List.mem_of_getElem? (i := 12) rfl)
theorem pt33 : Cond.initialized "jdk/internal/util/Preconditions" ∈ lw_tbl := pk_t1 _ (List.mem_of_getElem? (i := 14) rfl)
set_option maxRecDepth 100000 in
theorem pf0 : Cond.isRef (.static "java/lang/Throwable" "UNASSIGNED_STACK" "[Ljava/lang/StackTraceElement;") ∈ lc_flat := by decide +kernel
set_option maxRecDepth 100000 in
theorem pf1 : Cond.isRef (.static "java/lang/Throwable" "SUPPRESSED_SENTINEL" "Ljava/util/List;") ∈ lc_flat := by decide +kernel
set_option maxRecDepth 100000 in
theorem pf2 : Cond.eq (.static "java/lang/String" "COMPACT_STRINGS" "Z") (.int 1) ∈ lc_flat := by decide +kernel
set_option maxRecDepth 100000 in
theorem pf3 : Cond.isRef (.static "jdk/internal/util/Preconditions" "SIOOBE_FORMATTER" "Ljava/util/function/BiFunction;") ∈ lc_flat := by decide +kernel
theorem pt34 : Cond.castable "java/lang/IllegalArgumentException" "java/lang/IllegalArgumentException" ∈ lw_tbl := pk_t6 _ (List.mem_of_getElem? (i := 188) rfl)
theorem pt35 : Cond.castable "java/lang/IllegalStateException" "java/lang/IllegalStateException" ∈ lw_tbl := pk_t6 _ (List.mem_of_getElem? (i := 110) rfl)
theorem pt36 : Cond.declares ⟨"java/lang/RuntimeException", "<init>", "(Ljava/lang/String;)V"⟩ ∈ lw_tbl := pk_t6 _ (List.mem_of_getElem? (i := 112) rfl)
theorem pt37 : Cond.declares ⟨"java/lang/Exception", "<init>", "(Ljava/lang/String;)V"⟩ ∈ lw_tbl := pk_t6 _ (List.mem_of_getElem? (i := 114) rfl)
theorem pt38 : Cond.declares ⟨"java/lang/Throwable", "<init>", "(Ljava/lang/String;)V"⟩ ∈ lw_tbl := pk_t6 _ (List.mem_of_getElem? (i := 116) rfl)
