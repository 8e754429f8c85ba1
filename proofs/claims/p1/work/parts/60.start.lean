/-! THE LAW FROM ITS START: what the tables and the premises give, the two objects, the switch. -/
theorem pt_i12 : Cond.methodLink RL 91 yX12_init ∈ lw_tbl := pk_t1 _ (List.mem_of_getElem? (i := 30) rfl)
theorem pt_m12 : Cond.instanceMethod yX12_init ∈ lw_tbl := pk_t1 _ (List.mem_of_getElem? (i := 31) rfl)
set_option maxRecDepth 100000 in
theorem px12_0 : Cond.code yX12_init cX12_init 1 none ∈ lw_tbl := pk_t1 _ (List.mem_of_getElem? (i := 32) rfl)
set_option maxRecDepth 100000 in
theorem px12_1 : Cond.methodLink RX12 3 objectInit ∈ lw_tbl := pk_t1 _ (List.mem_of_getElem? (i := 33) rfl)
set_option maxRecDepth 100000 in
theorem px12_2 : Cond.instanceMethod objectInit ∈ lw_tbl := pk_t1 _ (List.mem_of_getElem? (i := 34) rfl)
set_option maxRecDepth 100000 in
theorem px12_3 : Cond.code objectInit ⟨#[0xb1]⟩ 1 none ∈ lw_tbl := pk_t1 _ (List.mem_of_getElem? (i := 35) rfl)
set_option maxRecDepth 100000 in
theorem px12_4 : Cond.classLink RX12 9 RX8 ∈ lw_tbl := pk_t1 _ (List.mem_of_getElem? (i := 36) rfl)
set_option maxRecDepth 100000 in
theorem px12_5 : Cond.instantiable RX8 21 ∈ lw_tbl := pk_t1 _ (List.mem_of_getElem? (i := 37) rfl)
set_option maxRecDepth 100000 in
theorem px12_6 : Cond.initialized RX8 ∈ lw_tbl := pk_t1 _ (List.mem_of_getElem? (i := 2) rfl)
set_option maxRecDepth 100000 in
theorem px12_7 : Cond.fieldLink RX12 12 "TongueHouse" "store" "LTongueHouse$Store;" ∈ lw_tbl := pk_t3 _ (List.mem_of_getElem? (i := 155) rfl)
set_option maxRecDepth 100000 in
theorem px12_8 : Cond.classLink RX12 16 RX9 ∈ lw_tbl := pk_t1 _ (List.mem_of_getElem? (i := 170) rfl)
set_option maxRecDepth 100000 in
theorem px12_9 : Cond.instantiable RX9 10 ∈ lw_tbl := pk_t1 _ (List.mem_of_getElem? (i := 171) rfl)
set_option maxRecDepth 100000 in
theorem px12_10 : Cond.initialized RX9 ∈ lw_tbl := pk_t1 _ (List.mem_of_getElem? (i := 4) rfl)
set_option maxRecDepth 100000 in
theorem px12_11 : Cond.fieldLink RX12 19 "TongueHouse" "tape" "LTongueHouse$Text;" ∈ lw_tbl := pk_t3 _ (List.mem_of_getElem? (i := 156) rfl)
set_option maxRecDepth 100000 in
theorem px12_12 : Cond.fieldLink RX12 23 "TongueHouse" "out" "LTongueHouse$Text;" ∈ lw_tbl := pk_t3 _ (List.mem_of_getElem? (i := 157) rfl)
set_option maxRecDepth 100000 in
theorem px12_13 : Cond.fieldLink RX12 26 "TongueHouse" "base" "LTongueHouse$Text;" ∈ lw_tbl := pk_t3 _ (List.mem_of_getElem? (i := 158) rfl)
set_option maxRecDepth 100000 in
theorem px12_14 : Cond.fieldLink RX12 29 "TongueHouse" "draft" "LTongueHouse$Text;" ∈ lw_tbl := pk_t3 _ (List.mem_of_getElem? (i := 159) rfl)
set_option maxRecDepth 100000 in
theorem px12_15 : Cond.classLink RX12 32 RX6 ∈ lw_tbl := pk_t1 _ (List.mem_of_getElem? (i := 232) rfl)
set_option maxRecDepth 100000 in
theorem px12_16 : Cond.instantiable RX6 19 ∈ lw_tbl := pk_t1 _ (List.mem_of_getElem? (i := 233) rfl)
set_option maxRecDepth 100000 in
theorem px12_17 : Cond.initialized RX6 ∈ lw_tbl := pk_t1 _ (List.mem_of_getElem? (i := 5) rfl)
set_option maxRecDepth 100000 in
theorem px12_18 : Cond.fieldLink RX12 37 "TongueHouse" "reader" "LTongueHouse$Reader;" ∈ lw_tbl := pk_t3 _ (List.mem_of_getElem? (i := 160) rfl)
set_option maxRecDepth 100000 in
theorem px12_19 : Cond.classLink RX12 41 RX0 ∈ lw_tbl := pk_t2 _ (List.mem_of_getElem? (i := 58) rfl)
set_option maxRecDepth 100000 in
theorem px12_20 : Cond.instantiable RX0 22 ∈ lw_tbl := pk_t2 _ (List.mem_of_getElem? (i := 59) rfl)
set_option maxRecDepth 100000 in
theorem px12_21 : Cond.initialized RX0 ∈ lw_tbl := pk_t1 _ (List.mem_of_getElem? (i := 6) rfl)
set_option maxRecDepth 100000 in
theorem px12_22 : Cond.fieldLink RX12 46 "TongueHouse" "chart" "LTongueHouse$Chart;" ∈ lw_tbl := pk_t3 _ (List.mem_of_getElem? (i := 161) rfl)
set_option maxRecDepth 100000 in
theorem px12_23 : Cond.classLink RX12 50 RX5 ∈ lw_tbl := pk_t2 _ (List.mem_of_getElem? (i := 144) rfl)
set_option maxRecDepth 100000 in
theorem px12_24 : Cond.instantiable RX5 19 ∈ lw_tbl := pk_t2 _ (List.mem_of_getElem? (i := 145) rfl)
set_option maxRecDepth 100000 in
theorem px12_25 : Cond.initialized RX5 ∈ lw_tbl := pk_t1 _ (List.mem_of_getElem? (i := 7) rfl)
set_option maxRecDepth 100000 in
theorem px12_26 : Cond.fieldLink RX12 55 "TongueHouse" "ranking" "LTongueHouse$Ranking;" ∈ lw_tbl := pk_t3 _ (List.mem_of_getElem? (i := 162) rfl)
set_option maxRecDepth 100000 in
theorem px12_27 : Cond.classLink RX12 59 RX7 ∈ lw_tbl := pk_t2 _ (List.mem_of_getElem? (i := 210) rfl)
set_option maxRecDepth 100000 in
theorem px12_28 : Cond.instantiable RX7 14 ∈ lw_tbl := pk_t2 _ (List.mem_of_getElem? (i := 211) rfl)
set_option maxRecDepth 100000 in
theorem px12_29 : Cond.initialized RX7 ∈ lw_tbl := pk_t1 _ (List.mem_of_getElem? (i := 8) rfl)
set_option maxRecDepth 100000 in
theorem px12_30 : Cond.fieldLink RX12 62 "TongueHouse" "sayer" "LTongueHouse$Sayer;" ∈ lw_tbl := pk_t3 _ (List.mem_of_getElem? (i := 163) rfl)
set_option maxRecDepth 100000 in
theorem px12_31 : Cond.classLink RX12 66 RX10 ∈ lw_tbl := pk_t3 _ (List.mem_of_getElem? (i := 19) rfl)
set_option maxRecDepth 100000 in
theorem px12_32 : Cond.instantiable RX10 19 ∈ lw_tbl := pk_t3 _ (List.mem_of_getElem? (i := 20) rfl)
set_option maxRecDepth 100000 in
theorem px12_33 : Cond.initialized RX10 ∈ lw_tbl := pk_t1 _ (List.mem_of_getElem? (i := 9) rfl)
set_option maxRecDepth 100000 in
theorem px12_34 : Cond.fieldLink RX12 69 "TongueHouse" "thought" "LTongueHouse$Thought;" ∈ lw_tbl := pk_t3 _ (List.mem_of_getElem? (i := 164) rfl)
set_option maxRecDepth 100000 in
theorem px12_35 : Cond.classLink RX12 73 RX1 ∈ lw_tbl := pk_t3 _ (List.mem_of_getElem? (i := 83) rfl)
set_option maxRecDepth 100000 in
theorem px12_36 : Cond.instantiable RX1 19 ∈ lw_tbl := pk_t3 _ (List.mem_of_getElem? (i := 84) rfl)
set_option maxRecDepth 100000 in
theorem px12_37 : Cond.initialized RX1 ∈ lw_tbl := pk_t1 _ (List.mem_of_getElem? (i := 10) rfl)
set_option maxRecDepth 100000 in
theorem px12_38 : Cond.fieldLink RX12 76 "TongueHouse" "finder" "LTongueHouse$Finder;" ∈ lw_tbl := pk_t3 _ (List.mem_of_getElem? (i := 165) rfl)
set_option maxRecDepth 100000 in
theorem px12_39 : Cond.classLink RX12 80 "[[I" ∈ lw_tbl := pk_t3 _ (List.mem_of_getElem? (i := 152) rfl)
set_option maxRecDepth 100000 in
theorem px12_40 : Cond.arrayClass .int ∈ lw_tbl := pk_t1 _ (List.mem_of_getElem? (i := 168) rfl)
set_option maxRecDepth 100000 in
theorem px12_41 : Cond.fieldLink RX12 82 "TongueHouse" "planted" "[[I" ∈ lw_tbl := pk_t3 _ (List.mem_of_getElem? (i := 166) rfl)
set_option maxRecDepth 100000 in
theorem px12_42 : Cond.fieldLink RX12 85 "TongueHouse" "plantedSize" "[I" ∈ lw_tbl := pk_t3 _ (List.mem_of_getElem? (i := 167) rfl)
set_option maxRecDepth 100000 in
theorem px12_43 : Cond.classLink RX12 89 "[[B" ∈ lw_tbl := pk_t3 _ (List.mem_of_getElem? (i := 154) rfl)
set_option maxRecDepth 100000 in
theorem px12_44 : Cond.arrayClass .byte ∈ lw_tbl := pk_t1 _ (List.mem_of_getElem? (i := 169) rfl)
set_option maxRecDepth 100000 in
theorem px12_45 : Cond.fieldLink RX12 91 "TongueHouse" "candidates" "[[B" ∈ lw_tbl := pk_t3 _ (List.mem_of_getElem? (i := 168) rfl)
set_option maxRecDepth 100000 in
theorem px12_46 : Cond.fieldLink RX12 94 "TongueHouse" "candidateSize" "[I" ∈ lw_tbl := pk_t3 _ (List.mem_of_getElem? (i := 169) rfl)
set_option maxRecDepth 100000 in
theorem px12_47 : Cond.fieldLink RX12 97 "TongueHouse" "changes" "[I" ∈ lw_tbl := pk_t3 _ (List.mem_of_getElem? (i := 171) rfl)
set_option maxRecDepth 100000 in
theorem px12_48 : Cond.instanceMethod yX8_init ∈ lw_tbl := pk_t1 _ (List.mem_of_getElem? (i := 39) rfl)
set_option maxRecDepth 100000 in
theorem px12_49 : Cond.code yX8_init cX8_init 1 none ∈ lw_tbl := pk_t1 _ (List.mem_of_getElem? (i := 40) rfl)
set_option maxRecDepth 100000 in
theorem px12_50 : Cond.methodLink RX8 7 objectInit ∈ lw_tbl := pk_t1 _ (List.mem_of_getElem? (i := 41) rfl)
set_option maxRecDepth 100000 in
theorem px12_51 : Cond.classLink RX8 13 RX4 ∈ lw_tbl := pk_t1 _ (List.mem_of_getElem? (i := 42) rfl)
set_option maxRecDepth 100000 in
theorem px12_52 : Cond.instantiable RX4 2 ∈ lw_tbl := pk_t1 _ (List.mem_of_getElem? (i := 43) rfl)
set_option maxRecDepth 100000 in
theorem px12_53 : Cond.initialized RX4 ∈ lw_tbl := pk_t1 _ (List.mem_of_getElem? (i := 3) rfl)
set_option maxRecDepth 100000 in
theorem px12_54 : Cond.fieldLink RX8 18 "TongueHouse$Store" "kinds" "LTongueHouse$Names;" ∈ lw_tbl := pk_t1 _ (List.mem_of_getElem? (i := 66) rfl)
set_option maxRecDepth 100000 in
theorem px12_55 : Cond.fieldLink RX8 22 "TongueHouse$Store" "funs" "LTongueHouse$Names;" ∈ lw_tbl := pk_t1 _ (List.mem_of_getElem? (i := 71) rfl)
set_option maxRecDepth 100000 in
theorem px12_56 : Cond.fieldLink RX8 25 "TongueHouse$Store" "things" "LTongueHouse$Names;" ∈ lw_tbl := pk_t1 _ (List.mem_of_getElem? (i := 74) rfl)
set_option maxRecDepth 100000 in
theorem px12_57 : Cond.fieldLink RX8 28 "TongueHouse$Store" "tongueNames" "LTongueHouse$Names;" ∈ lw_tbl := pk_t1 _ (List.mem_of_getElem? (i := 77) rfl)
set_option maxRecDepth 100000 in
theorem px12_58 : Cond.classLink RX8 3 RX11 ∈ lw_tbl := pk_t1 _ (List.mem_of_getElem? (i := 64) rfl)
set_option maxRecDepth 100000 in
theorem px12_59 : Cond.fieldLink RX8 31 "TongueHouse$Store" "tongues" "[LTongueHouse$Tongue;" ∈ lw_tbl := pk_t1 _ (List.mem_of_getElem? (i := 80) rfl)
set_option maxRecDepth 100000 in
theorem px12_60 : Cond.fieldLink RX8 35 "TongueHouse$Store" "current" "I" ∈ lw_tbl := pk_t1 _ (List.mem_of_getElem? (i := 84) rfl)
set_option maxRecDepth 100000 in
theorem px12_61 : Cond.fieldLink RX8 39 "TongueHouse$Store" "funKind" "[I" ∈ lw_tbl := pk_t1 _ (List.mem_of_getElem? (i := 86) rfl)
set_option maxRecDepth 100000 in
theorem px12_62 : Cond.fieldLink RX8 43 "TongueHouse$Store" "funArity" "[I" ∈ lw_tbl := pk_t1 _ (List.mem_of_getElem? (i := 90) rfl)
set_option maxRecDepth 100000 in
theorem px12_63 : Cond.fieldLink RX8 46 "TongueHouse$Store" "funArgs" "[I" ∈ lw_tbl := pk_t1 _ (List.mem_of_getElem? (i := 93) rfl)
set_option maxRecDepth 100000 in
theorem px12_64 : Cond.fieldLink RX8 49 "TongueHouse$Store" "funCost" "[I" ∈ lw_tbl := pk_t1 _ (List.mem_of_getElem? (i := 96) rfl)
set_option maxRecDepth 100000 in
theorem px12_65 : Cond.fieldLink RX8 52 "TongueHouse$Store" "meanSize" "[I" ∈ lw_tbl := pk_t1 _ (List.mem_of_getElem? (i := 101) rfl)
set_option maxRecDepth 100000 in
theorem px12_66 : Cond.fieldLink RX8 55 "TongueHouse$Store" "meanOp" "[I" ∈ lw_tbl := pk_t1 _ (List.mem_of_getElem? (i := 104) rfl)
set_option maxRecDepth 100000 in
theorem px12_67 : Cond.arrayClass .long ∈ lw_tbl := pk_t1 _ (List.mem_of_getElem? (i := 63) rfl)
set_option maxRecDepth 100000 in
theorem px12_68 : Cond.fieldLink RX8 58 "TongueHouse$Store" "meanName" "[J" ∈ lw_tbl := pk_t1 _ (List.mem_of_getElem? (i := 107) rfl)
set_option maxRecDepth 100000 in
theorem px12_69 : Cond.fieldLink RX8 62 "TongueHouse$Store" "factName" "[J" ∈ lw_tbl := pk_t1 _ (List.mem_of_getElem? (i := 112) rfl)
set_option maxRecDepth 100000 in
theorem px12_70 : Cond.fieldLink RX8 65 "TongueHouse$Store" "factThings" "[I" ∈ lw_tbl := pk_t1 _ (List.mem_of_getElem? (i := 114) rfl)
set_option maxRecDepth 100000 in
theorem px12_71 : Cond.fieldLink RX8 68 "TongueHouse$Store" "pool" "[B" ∈ lw_tbl := pk_t1 _ (List.mem_of_getElem? (i := 116) rfl)
set_option maxRecDepth 100000 in
theorem px12_72 : Cond.fieldLink RX8 72 "TongueHouse$Store" "marks" "[I" ∈ lw_tbl := pk_t1 _ (List.mem_of_getElem? (i := 123) rfl)
set_option maxRecDepth 100000 in
theorem px12_73 : Cond.fieldLink RX8 75 "TongueHouse$Store" "stack" "[I" ∈ lw_tbl := pk_t1 _ (List.mem_of_getElem? (i := 124) rfl)
set_option maxRecDepth 100000 in
theorem px12_74 : Cond.methodLink RX8 15 yX4_init ∈ lw_tbl := pk_t1 _ (List.mem_of_getElem? (i := 44) rfl)
set_option maxRecDepth 100000 in
theorem px12_75 : Cond.instanceMethod yX4_init ∈ lw_tbl := pk_t1 _ (List.mem_of_getElem? (i := 45) rfl)
set_option maxRecDepth 100000 in
theorem px12_76 : Cond.code yX4_init cX4_init 2 none ∈ lw_tbl := pk_t1 _ (List.mem_of_getElem? (i := 46) rfl)
set_option maxRecDepth 100000 in
theorem px12_77 : Cond.methodLink RX4 3 objectInit ∈ lw_tbl := pk_t1 _ (List.mem_of_getElem? (i := 47) rfl)
set_option maxRecDepth 100000 in
theorem px12_78 : Cond.fieldLink RX4 9 "TongueHouse$Names" "name" "[J" ∈ lw_tbl := pk_t1 _ (List.mem_of_getElem? (i := 48) rfl)
set_option maxRecDepth 100000 in
theorem px12_79 : Cond.instanceMethod yX9_init ∈ lw_tbl := pk_t1 _ (List.mem_of_getElem? (i := 173) rfl)
set_option maxRecDepth 100000 in
theorem px12_80 : Cond.code yX9_init cX9_init 1 none ∈ lw_tbl := pk_t1 _ (List.mem_of_getElem? (i := 174) rfl)
set_option maxRecDepth 100000 in
theorem px12_81 : Cond.methodLink RX9 3 objectInit ∈ lw_tbl := pk_t1 _ (List.mem_of_getElem? (i := 175) rfl)
set_option maxRecDepth 100000 in
theorem px12_82 : Cond.fieldLink RX9 11 "TongueHouse$Text" "bytes" "[B" ∈ lw_tbl := pk_t1 _ (List.mem_of_getElem? (i := 176) rfl)
set_option maxRecDepth 100000 in
theorem px12_83 : Cond.fieldLink RX9 15 "TongueHouse$Text" "start" "[I" ∈ lw_tbl := pk_t1 _ (List.mem_of_getElem? (i := 186) rfl)
set_option maxRecDepth 100000 in
theorem px12_84 : Cond.fieldLink RX9 19 "TongueHouse$Text" "len" "[I" ∈ lw_tbl := pk_t1 _ (List.mem_of_getElem? (i := 190) rfl)
set_option maxRecDepth 100000 in
theorem px12_85 : Cond.methodLink RX12 34 yX6_init ∈ lw_tbl := pk_t1 _ (List.mem_of_getElem? (i := 234) rfl)
set_option maxRecDepth 100000 in
theorem px12_86 : Cond.instanceMethod yX6_init ∈ lw_tbl := pk_t1 _ (List.mem_of_getElem? (i := 235) rfl)
set_option maxRecDepth 100000 in
theorem px12_87 : Cond.code yX6_init cX6_init 3 none ∈ lw_tbl := pk_t1 _ (List.mem_of_getElem? (i := 236) rfl)
set_option maxRecDepth 100000 in
theorem px12_88 : Cond.methodLink RX6 3 objectInit ∈ lw_tbl := pk_t1 _ (List.mem_of_getElem? (i := 237) rfl)
set_option maxRecDepth 100000 in
theorem px12_89 : Cond.fieldLink RX6 11 "TongueHouse$Reader" "cell" "[I" ∈ lw_tbl := pk_t2 _ (List.mem_of_getElem? (i := 9) rfl)
set_option maxRecDepth 100000 in
theorem px12_90 : Cond.fieldLink RX6 17 "TongueHouse$Reader" "row" "[I" ∈ lw_tbl := pk_t2 _ (List.mem_of_getElem? (i := 10) rfl)
set_option maxRecDepth 100000 in
theorem px12_91 : Cond.fieldLink RX6 20 "TongueHouse$Reader" "names" "[J" ∈ lw_tbl := pk_t2 _ (List.mem_of_getElem? (i := 11) rfl)
set_option maxRecDepth 100000 in
theorem px12_92 : Cond.fieldLink RX6 24 "TongueHouse$Reader" "termOp" "[I" ∈ lw_tbl := pk_t2 _ (List.mem_of_getElem? (i := 13) rfl)
set_option maxRecDepth 100000 in
theorem px12_93 : Cond.fieldLink RX6 27 "TongueHouse$Reader" "termName" "[J" ∈ lw_tbl := pk_t2 _ (List.mem_of_getElem? (i := 14) rfl)
set_option maxRecDepth 100000 in
theorem px12_94 : Cond.fieldLink RX6 30 "TongueHouse$Reader" "binder" "[J" ∈ lw_tbl := pk_t2 _ (List.mem_of_getElem? (i := 16) rfl)
set_option maxRecDepth 100000 in
theorem px12_95 : Cond.fieldLink RX6 33 "TongueHouse$Reader" "opened" "[I" ∈ lw_tbl := pk_t2 _ (List.mem_of_getElem? (i := 17) rfl)
set_option maxRecDepth 100000 in
theorem px12_96 : Cond.fieldLink RX6 36 "TongueHouse$Reader" "seen" "[I" ∈ lw_tbl := pk_t2 _ (List.mem_of_getElem? (i := 18) rfl)
set_option maxRecDepth 100000 in
theorem px12_97 : Cond.fieldLink RX6 39 "TongueHouse$Reader" "store" "LTongueHouse$Store;" ∈ lw_tbl := pk_t1 _ (List.mem_of_getElem? (i := 238) rfl)
set_option maxRecDepth 100000 in
theorem px12_98 : Cond.fieldLink RX6 43 "TongueHouse$Reader" "tape" "LTongueHouse$Text;" ∈ lw_tbl := pk_t1 _ (List.mem_of_getElem? (i := 239) rfl)
set_option maxRecDepth 100000 in
theorem px12_99 : Cond.methodLink RX12 43 yX0_init ∈ lw_tbl := pk_t2 _ (List.mem_of_getElem? (i := 60) rfl)
set_option maxRecDepth 100000 in
theorem px12_100 : Cond.instanceMethod yX0_init ∈ lw_tbl := pk_t2 _ (List.mem_of_getElem? (i := 61) rfl)
set_option maxRecDepth 100000 in
theorem px12_101 : Cond.code yX0_init cX0_init 2 none ∈ lw_tbl := pk_t2 _ (List.mem_of_getElem? (i := 62) rfl)
set_option maxRecDepth 100000 in
theorem px12_102 : Cond.methodLink RX0 3 objectInit ∈ lw_tbl := pk_t2 _ (List.mem_of_getElem? (i := 63) rfl)
set_option maxRecDepth 100000 in
theorem px12_103 : Cond.fieldLink RX0 9 "TongueHouse$Chart" "firstNode" "[I" ∈ lw_tbl := pk_t2 _ (List.mem_of_getElem? (i := 66) rfl)
set_option maxRecDepth 100000 in
theorem px12_104 : Cond.fieldLink RX0 15 "TongueHouse$Chart" "nodeCount" "[I" ∈ lw_tbl := pk_t2 _ (List.mem_of_getElem? (i := 68) rfl)
set_option maxRecDepth 100000 in
theorem px12_105 : Cond.fieldLink RX0 18 "TongueHouse$Chart" "nodeEnd" "[I" ∈ lw_tbl := pk_t2 _ (List.mem_of_getElem? (i := 73) rfl)
set_option maxRecDepth 100000 in
theorem px12_106 : Cond.fieldLink RX0 21 "TongueHouse$Chart" "nodeValues" "[I" ∈ lw_tbl := pk_t2 _ (List.mem_of_getElem? (i := 75) rfl)
set_option maxRecDepth 100000 in
theorem px12_107 : Cond.fieldLink RX0 24 "TongueHouse$Chart" "wayNode" "[I" ∈ lw_tbl := pk_t2 _ (List.mem_of_getElem? (i := 80) rfl)
set_option maxRecDepth 100000 in
theorem px12_108 : Cond.fieldLink RX0 27 "TongueHouse$Chart" "wayRule" "[I" ∈ lw_tbl := pk_t2 _ (List.mem_of_getElem? (i := 82) rfl)
set_option maxRecDepth 100000 in
theorem px12_109 : Cond.constant RX0 30 ( 36000 ) ∈ lw_tbl := pk_t2 _ (List.mem_of_getElem? (i := 64) rfl)
set_option maxRecDepth 100000 in
theorem px12_110 : Cond.fieldLink RX0 31 "TongueHouse$Chart" "wayArgs" "[I" ∈ lw_tbl := pk_t2 _ (List.mem_of_getElem? (i := 84) rfl)
set_option maxRecDepth 100000 in
theorem px12_111 : Cond.fieldLink RX0 34 "TongueHouse$Chart" "kindLins" "[I" ∈ lw_tbl := pk_t2 _ (List.mem_of_getElem? (i := 92) rfl)
set_option maxRecDepth 100000 in
theorem px12_112 : Cond.fieldLink RX0 37 "TongueHouse$Chart" "linOrder" "[I" ∈ lw_tbl := pk_t2 _ (List.mem_of_getElem? (i := 93) rfl)
set_option maxRecDepth 100000 in
theorem px12_113 : Cond.fieldLink RX0 40 "TongueHouse$Chart" "chosen" "[I" ∈ lw_tbl := pk_t2 _ (List.mem_of_getElem? (i := 96) rfl)
set_option maxRecDepth 100000 in
theorem px12_114 : Cond.fieldLink RX0 43 "TongueHouse$Chart" "chosenValues" "[I" ∈ lw_tbl := pk_t2 _ (List.mem_of_getElem? (i := 97) rfl)
set_option maxRecDepth 100000 in
theorem px12_115 : Cond.fieldLink RX0 46 "TongueHouse$Chart" "work" "[I" ∈ lw_tbl := pk_t2 _ (List.mem_of_getElem? (i := 98) rfl)
set_option maxRecDepth 100000 in
theorem px12_116 : Cond.fieldLink RX0 49 "TongueHouse$Chart" "store" "LTongueHouse$Store;" ∈ lw_tbl := pk_t2 _ (List.mem_of_getElem? (i := 65) rfl)
set_option maxRecDepth 100000 in
theorem px12_117 : Cond.methodLink RX12 52 yX5_init ∈ lw_tbl := pk_t2 _ (List.mem_of_getElem? (i := 146) rfl)
set_option maxRecDepth 100000 in
theorem px12_118 : Cond.instanceMethod yX5_init ∈ lw_tbl := pk_t2 _ (List.mem_of_getElem? (i := 147) rfl)
set_option maxRecDepth 100000 in
theorem px12_119 : Cond.code yX5_init cX5_init 3 none ∈ lw_tbl := pk_t2 _ (List.mem_of_getElem? (i := 148) rfl)
set_option maxRecDepth 100000 in
theorem px12_120 : Cond.methodLink RX5 3 objectInit ∈ lw_tbl := pk_t2 _ (List.mem_of_getElem? (i := 149) rfl)
set_option maxRecDepth 100000 in
theorem px12_121 : Cond.arrayClass .boolean ∈ lw_tbl := pk_t2 _ (List.mem_of_getElem? (i := 209) rfl)
set_option maxRecDepth 100000 in
theorem px12_122 : Cond.fieldLink RX5 9 "TongueHouse$Ranking" "barred" "[Z" ∈ lw_tbl := pk_t2 _ (List.mem_of_getElem? (i := 156) rfl)
set_option maxRecDepth 100000 in
theorem px12_123 : Cond.fieldLink RX5 17 "TongueHouse$Ranking" "treeCount" "[J" ∈ lw_tbl := pk_t2 _ (List.mem_of_getElem? (i := 157) rfl)
set_option maxRecDepth 100000 in
theorem px12_124 : Cond.fieldLink RX5 21 "TongueHouse$Ranking" "reached" "[Z" ∈ lw_tbl := pk_t2 _ (List.mem_of_getElem? (i := 158) rfl)
set_option maxRecDepth 100000 in
theorem px12_125 : Cond.fieldLink RX5 24 "TongueHouse$Ranking" "order" "[I" ∈ lw_tbl := pk_t2 _ (List.mem_of_getElem? (i := 160) rfl)
set_option maxRecDepth 100000 in
theorem px12_126 : Cond.fieldLink RX5 28 "TongueHouse$Ranking" "spare" "[I" ∈ lw_tbl := pk_t2 _ (List.mem_of_getElem? (i := 161) rfl)
set_option maxRecDepth 100000 in
theorem px12_127 : Cond.fieldLink RX5 31 "TongueHouse$Ranking" "listSize" "[I" ∈ lw_tbl := pk_t2 _ (List.mem_of_getElem? (i := 162) rfl)
set_option maxRecDepth 100000 in
theorem px12_128 : Cond.constant RX5 34 ( 48000 ) ∈ lw_tbl := pk_t2 _ (List.mem_of_getElem? (i := 150) rfl)
set_option maxRecDepth 100000 in
theorem px12_129 : Cond.fieldLink RX5 35 "TongueHouse$Ranking" "listPrice" "[I" ∈ lw_tbl := pk_t2 _ (List.mem_of_getElem? (i := 163) rfl)
set_option maxRecDepth 100000 in
theorem px12_130 : Cond.fieldLink RX5 38 "TongueHouse$Ranking" "listWay" "[I" ∈ lw_tbl := pk_t2 _ (List.mem_of_getElem? (i := 164) rfl)
set_option maxRecDepth 100000 in
theorem px12_131 : Cond.fieldLink RX5 41 "TongueHouse$Ranking" "listRanks" "[I" ∈ lw_tbl := pk_t2 _ (List.mem_of_getElem? (i := 165) rfl)
set_option maxRecDepth 100000 in
theorem px12_132 : Cond.fieldLink RX5 44 "TongueHouse$Ranking" "topPrice" "[I" ∈ lw_tbl := pk_t2 _ (List.mem_of_getElem? (i := 167) rfl)
set_option maxRecDepth 100000 in
theorem px12_133 : Cond.fieldLink RX5 47 "TongueHouse$Ranking" "topEntry" "[I" ∈ lw_tbl := pk_t2 _ (List.mem_of_getElem? (i := 168) rfl)
set_option maxRecDepth 100000 in
theorem px12_134 : Cond.fieldLink RX5 50 "TongueHouse$Ranking" "stack" "[I" ∈ lw_tbl := pk_t2 _ (List.mem_of_getElem? (i := 169) rfl)
set_option maxRecDepth 100000 in
theorem px12_135 : Cond.fieldLink RX5 53 "TongueHouse$Ranking" "store" "LTongueHouse$Store;" ∈ lw_tbl := pk_t2 _ (List.mem_of_getElem? (i := 151) rfl)
set_option maxRecDepth 100000 in
theorem px12_136 : Cond.fieldLink RX5 57 "TongueHouse$Ranking" "chart" "LTongueHouse$Chart;" ∈ lw_tbl := pk_t2 _ (List.mem_of_getElem? (i := 152) rfl)
set_option maxRecDepth 100000 in
theorem px12_137 : Cond.methodLink RX12 61 yX7_init ∈ lw_tbl := pk_t2 _ (List.mem_of_getElem? (i := 212) rfl)
set_option maxRecDepth 100000 in
theorem px12_138 : Cond.instanceMethod yX7_init ∈ lw_tbl := pk_t2 _ (List.mem_of_getElem? (i := 213) rfl)
set_option maxRecDepth 100000 in
theorem px12_139 : Cond.code yX7_init cX7_init 2 none ∈ lw_tbl := pk_t2 _ (List.mem_of_getElem? (i := 214) rfl)
set_option maxRecDepth 100000 in
theorem px12_140 : Cond.methodLink RX7 3 objectInit ∈ lw_tbl := pk_t2 _ (List.mem_of_getElem? (i := 215) rfl)
set_option maxRecDepth 100000 in
theorem px12_141 : Cond.fieldLink RX7 9 "TongueHouse$Sayer" "child" "[I" ∈ lw_tbl := pk_t2 _ (List.mem_of_getElem? (i := 218) rfl)
set_option maxRecDepth 100000 in
theorem px12_142 : Cond.fieldLink RX7 15 "TongueHouse$Sayer" "options" "[I" ∈ lw_tbl := pk_t2 _ (List.mem_of_getElem? (i := 219) rfl)
set_option maxRecDepth 100000 in
theorem px12_143 : Cond.fieldLink RX7 18 "TongueHouse$Sayer" "cost" "[I" ∈ lw_tbl := pk_t2 _ (List.mem_of_getElem? (i := 220) rfl)
set_option maxRecDepth 100000 in
theorem px12_144 : Cond.fieldLink RX7 21 "TongueHouse$Sayer" "values" "[I" ∈ lw_tbl := pk_t2 _ (List.mem_of_getElem? (i := 221) rfl)
set_option maxRecDepth 100000 in
theorem px12_145 : Cond.fieldLink RX7 24 "TongueHouse$Sayer" "length" "[I" ∈ lw_tbl := pk_t2 _ (List.mem_of_getElem? (i := 222) rfl)
set_option maxRecDepth 100000 in
theorem px12_146 : Cond.fieldLink RX7 27 "TongueHouse$Sayer" "rule" "[I" ∈ lw_tbl := pk_t2 _ (List.mem_of_getElem? (i := 223) rfl)
set_option maxRecDepth 100000 in
theorem px12_147 : Cond.fieldLink RX7 30 "TongueHouse$Sayer" "picks" "[I" ∈ lw_tbl := pk_t2 _ (List.mem_of_getElem? (i := 224) rfl)
set_option maxRecDepth 100000 in
theorem px12_148 : Cond.fieldLink RX7 33 "TongueHouse$Sayer" "picked" "[I" ∈ lw_tbl := pk_t2 _ (List.mem_of_getElem? (i := 226) rfl)
set_option maxRecDepth 100000 in
theorem px12_149 : Cond.fieldLink RX7 36 "TongueHouse$Sayer" "work" "[I" ∈ lw_tbl := pk_t2 _ (List.mem_of_getElem? (i := 227) rfl)
set_option maxRecDepth 100000 in
theorem px12_150 : Cond.fieldLink RX7 39 "TongueHouse$Sayer" "openEntry" "[I" ∈ lw_tbl := pk_t2 _ (List.mem_of_getElem? (i := 228) rfl)
set_option maxRecDepth 100000 in
theorem px12_151 : Cond.fieldLink RX7 42 "TongueHouse$Sayer" "openItem" "[I" ∈ lw_tbl := pk_t2 _ (List.mem_of_getElem? (i := 229) rfl)
set_option maxRecDepth 100000 in
theorem px12_152 : Cond.fieldLink RX7 45 "TongueHouse$Sayer" "store" "LTongueHouse$Store;" ∈ lw_tbl := pk_t2 _ (List.mem_of_getElem? (i := 216) rfl)
set_option maxRecDepth 100000 in
theorem px12_153 : Cond.methodLink RX12 68 yX10_init ∈ lw_tbl := pk_t3 _ (List.mem_of_getElem? (i := 21) rfl)
set_option maxRecDepth 100000 in
theorem px12_154 : Cond.instanceMethod yX10_init ∈ lw_tbl := pk_t3 _ (List.mem_of_getElem? (i := 22) rfl)
set_option maxRecDepth 100000 in
theorem px12_155 : Cond.code yX10_init cX10_init 2 none ∈ lw_tbl := pk_t3 _ (List.mem_of_getElem? (i := 23) rfl)
set_option maxRecDepth 100000 in
theorem px12_156 : Cond.methodLink RX10 3 objectInit ∈ lw_tbl := pk_t3 _ (List.mem_of_getElem? (i := 24) rfl)
set_option maxRecDepth 100000 in
theorem px12_157 : Cond.fieldLink RX10 11 "TongueHouse$Thought" "op" "[I" ∈ lw_tbl := pk_t3 _ (List.mem_of_getElem? (i := 27) rfl)
set_option maxRecDepth 100000 in
theorem px12_158 : Cond.fieldLink RX10 15 "TongueHouse$Thought" "name" "[J" ∈ lw_tbl := pk_t3 _ (List.mem_of_getElem? (i := 28) rfl)
set_option maxRecDepth 100000 in
theorem px12_159 : Cond.fieldLink RX10 19 "TongueHouse$Thought" "nextOp" "[I" ∈ lw_tbl := pk_t3 _ (List.mem_of_getElem? (i := 29) rfl)
set_option maxRecDepth 100000 in
theorem px12_160 : Cond.fieldLink RX10 22 "TongueHouse$Thought" "nextName" "[J" ∈ lw_tbl := pk_t3 _ (List.mem_of_getElem? (i := 30) rfl)
set_option maxRecDepth 100000 in
theorem px12_161 : Cond.fieldLink RX10 25 "TongueHouse$Thought" "child" "[I" ∈ lw_tbl := pk_t3 _ (List.mem_of_getElem? (i := 31) rfl)
set_option maxRecDepth 100000 in
theorem px12_162 : Cond.fieldLink RX10 28 "TongueHouse$Thought" "stack" "[I" ∈ lw_tbl := pk_t3 _ (List.mem_of_getElem? (i := 32) rfl)
set_option maxRecDepth 100000 in
theorem px12_163 : Cond.fieldLink RX10 31 "TongueHouse$Thought" "inner" "[I" ∈ lw_tbl := pk_t3 _ (List.mem_of_getElem? (i := 33) rfl)
set_option maxRecDepth 100000 in
theorem px12_164 : Cond.fieldLink RX10 34 "TongueHouse$Thought" "openName" "[J" ∈ lw_tbl := pk_t3 _ (List.mem_of_getElem? (i := 35) rfl)
set_option maxRecDepth 100000 in
theorem px12_165 : Cond.fieldLink RX10 37 "TongueHouse$Thought" "openPart" "[I" ∈ lw_tbl := pk_t3 _ (List.mem_of_getElem? (i := 36) rfl)
set_option maxRecDepth 100000 in
theorem px12_166 : Cond.fieldLink RX10 40 "TongueHouse$Thought" "openSeen" "[I" ∈ lw_tbl := pk_t3 _ (List.mem_of_getElem? (i := 37) rfl)
set_option maxRecDepth 100000 in
theorem px12_167 : Cond.fieldLink RX10 43 "TongueHouse$Thought" "openValue" "[I" ∈ lw_tbl := pk_t3 _ (List.mem_of_getElem? (i := 38) rfl)
set_option maxRecDepth 100000 in
theorem px12_168 : Cond.fieldLink RX10 46 "TongueHouse$Thought" "openLevel" "[I" ∈ lw_tbl := pk_t3 _ (List.mem_of_getElem? (i := 39) rfl)
set_option maxRecDepth 100000 in
theorem px12_169 : Cond.fieldLink RX10 49 "TongueHouse$Thought" "thing" "[I" ∈ lw_tbl := pk_t3 _ (List.mem_of_getElem? (i := 40) rfl)
set_option maxRecDepth 100000 in
theorem px12_170 : Cond.fieldLink RX10 52 "TongueHouse$Thought" "store" "LTongueHouse$Store;" ∈ lw_tbl := pk_t3 _ (List.mem_of_getElem? (i := 25) rfl)
set_option maxRecDepth 100000 in
theorem px12_171 : Cond.methodLink RX12 75 yX1_init ∈ lw_tbl := pk_t3 _ (List.mem_of_getElem? (i := 85) rfl)
set_option maxRecDepth 100000 in
theorem px12_172 : Cond.instanceMethod yX1_init ∈ lw_tbl := pk_t3 _ (List.mem_of_getElem? (i := 86) rfl)
set_option maxRecDepth 100000 in
theorem px12_173 : Cond.code yX1_init cX1_init 2 none ∈ lw_tbl := pk_t3 _ (List.mem_of_getElem? (i := 87) rfl)
set_option maxRecDepth 100000 in
theorem px12_174 : Cond.methodLink RX1 3 objectInit ∈ lw_tbl := pk_t3 _ (List.mem_of_getElem? (i := 88) rfl)
set_option maxRecDepth 100000 in
theorem px12_175 : Cond.fieldLink RX1 9 "TongueHouse$Finder" "analysed" "[I" ∈ lw_tbl := pk_t3 _ (List.mem_of_getElem? (i := 96) rfl)
set_option maxRecDepth 100000 in
theorem px12_176 : Cond.fieldLink RX1 15 "TongueHouse$Finder" "guessPattern" "[I" ∈ lw_tbl := pk_t3 _ (List.mem_of_getElem? (i := 98) rfl)
set_option maxRecDepth 100000 in
theorem px12_177 : Cond.fieldLink RX1 18 "TongueHouse$Finder" "guessForms" "[I" ∈ lw_tbl := pk_t3 _ (List.mem_of_getElem? (i := 99) rfl)
set_option maxRecDepth 100000 in
theorem px12_178 : Cond.classLink RX1 21 "[B" ∈ lw_tbl := pk_t3 _ (List.mem_of_getElem? (i := 89) rfl)
set_option maxRecDepth 100000 in
theorem px12_179 : Cond.fieldLink RX1 23 "TongueHouse$Finder" "sentence" "[[B" ∈ lw_tbl := pk_t3 _ (List.mem_of_getElem? (i := 104) rfl)
set_option maxRecDepth 100000 in
theorem px12_180 : Cond.fieldLink RX1 27 "TongueHouse$Finder" "sentenceTongue" "[I" ∈ lw_tbl := pk_t3 _ (List.mem_of_getElem? (i := 105) rfl)
set_option maxRecDepth 100000 in
theorem px12_181 : Cond.classLink RX1 30 RX9 ∈ lw_tbl := pk_t3 _ (List.mem_of_getElem? (i := 91) rfl)
set_option maxRecDepth 100000 in
theorem px12_182 : Cond.fieldLink RX1 33 "TongueHouse$Finder" "words" "LTongueHouse$Text;" ∈ lw_tbl := pk_t3 _ (List.mem_of_getElem? (i := 106) rfl)
set_option maxRecDepth 100000 in
theorem px12_183 : Cond.fieldLink RX1 37 "TongueHouse$Finder" "wordKinds" "[I" ∈ lw_tbl := pk_t3 _ (List.mem_of_getElem? (i := 107) rfl)
set_option maxRecDepth 100000 in
theorem px12_184 : Cond.fieldLink RX1 40 "TongueHouse$Finder" "hitSentence" "[I" ∈ lw_tbl := pk_t3 _ (List.mem_of_getElem? (i := 109) rfl)
set_option maxRecDepth 100000 in
theorem px12_185 : Cond.fieldLink RX1 43 "TongueHouse$Finder" "hitWord" "[I" ∈ lw_tbl := pk_t3 _ (List.mem_of_getElem? (i := 110) rfl)
set_option maxRecDepth 100000 in
theorem px12_186 : Cond.fieldLink RX1 46 "TongueHouse$Finder" "question" "[I" ∈ lw_tbl := pk_t3 _ (List.mem_of_getElem? (i := 112) rfl)
set_option maxRecDepth 100000 in
theorem px12_187 : Cond.fieldLink RX1 49 "TongueHouse$Finder" "store" "LTongueHouse$Store;" ∈ lw_tbl := pk_t3 _ (List.mem_of_getElem? (i := 93) rfl)
set_option maxRecDepth 100000 in
theorem px12_188 : Cond.laysFinal "TongueHouse$Store" "TongueHouse$Store" "kinds" "LTongueHouse$Names;" ∈ lw_tbl := pk_t1 _ (List.mem_of_getElem? (i := 125) rfl)
set_option maxRecDepth 100000 in
theorem px12_189 : Cond.laysFinal "TongueHouse$Store" "TongueHouse$Store" "funs" "LTongueHouse$Names;" ∈ lw_tbl := pk_t1 _ (List.mem_of_getElem? (i := 127) rfl)
set_option maxRecDepth 100000 in
theorem px12_190 : Cond.laysFinal "TongueHouse$Store" "TongueHouse$Store" "things" "LTongueHouse$Names;" ∈ lw_tbl := pk_t1 _ (List.mem_of_getElem? (i := 129) rfl)
set_option maxRecDepth 100000 in
theorem px12_191 : Cond.laysFinal "TongueHouse$Store" "TongueHouse$Store" "tongueNames" "LTongueHouse$Names;" ∈ lw_tbl := pk_t1 _ (List.mem_of_getElem? (i := 131) rfl)
set_option maxRecDepth 100000 in
theorem px12_192 : Cond.laysFinal "TongueHouse$Store" "TongueHouse$Store" "tongues" "[LTongueHouse$Tongue;" ∈ lw_tbl := pk_t1 _ (List.mem_of_getElem? (i := 133) rfl)
set_option maxRecDepth 100000 in
theorem px12_193 : Cond.lays "TongueHouse$Store" "TongueHouse$Store" "current" "I" ∈ lw_tbl := pk_t1 _ (List.mem_of_getElem? (i := 135) rfl)
set_option maxRecDepth 100000 in
theorem px12_194 : Cond.laysFinal "TongueHouse$Store" "TongueHouse$Store" "funKind" "[I" ∈ lw_tbl := pk_t1 _ (List.mem_of_getElem? (i := 137) rfl)
set_option maxRecDepth 100000 in
theorem px12_195 : Cond.laysFinal "TongueHouse$Store" "TongueHouse$Store" "funArity" "[I" ∈ lw_tbl := pk_t1 _ (List.mem_of_getElem? (i := 139) rfl)
set_option maxRecDepth 100000 in
theorem px12_196 : Cond.laysFinal "TongueHouse$Store" "TongueHouse$Store" "funArgs" "[I" ∈ lw_tbl := pk_t1 _ (List.mem_of_getElem? (i := 141) rfl)
set_option maxRecDepth 100000 in
theorem px12_197 : Cond.laysFinal "TongueHouse$Store" "TongueHouse$Store" "funCost" "[I" ∈ lw_tbl := pk_t1 _ (List.mem_of_getElem? (i := 143) rfl)
set_option maxRecDepth 100000 in
theorem px12_198 : Cond.laysFinal "TongueHouse$Store" "TongueHouse$Store" "meanSize" "[I" ∈ lw_tbl := pk_t1 _ (List.mem_of_getElem? (i := 145) rfl)
set_option maxRecDepth 100000 in
theorem px12_199 : Cond.laysFinal "TongueHouse$Store" "TongueHouse$Store" "meanOp" "[I" ∈ lw_tbl := pk_t1 _ (List.mem_of_getElem? (i := 147) rfl)
set_option maxRecDepth 100000 in
theorem px12_200 : Cond.laysFinal "TongueHouse$Store" "TongueHouse$Store" "meanName" "[J" ∈ lw_tbl := pk_t1 _ (List.mem_of_getElem? (i := 149) rfl)
set_option maxRecDepth 100000 in
theorem px12_201 : Cond.lays "TongueHouse$Store" "TongueHouse$Store" "factCount" "I" ∈ lw_tbl := pk_t1 _ (List.mem_of_getElem? (i := 151) rfl)
set_option maxRecDepth 100000 in
theorem px12_202 : Cond.laysFinal "TongueHouse$Store" "TongueHouse$Store" "factName" "[J" ∈ lw_tbl := pk_t1 _ (List.mem_of_getElem? (i := 153) rfl)
set_option maxRecDepth 100000 in
theorem px12_203 : Cond.laysFinal "TongueHouse$Store" "TongueHouse$Store" "factThings" "[I" ∈ lw_tbl := pk_t1 _ (List.mem_of_getElem? (i := 155) rfl)
set_option maxRecDepth 100000 in
theorem px12_204 : Cond.laysFinal "TongueHouse$Store" "TongueHouse$Store" "pool" "[B" ∈ lw_tbl := pk_t1 _ (List.mem_of_getElem? (i := 157) rfl)
set_option maxRecDepth 100000 in
theorem px12_205 : Cond.lays "TongueHouse$Store" "TongueHouse$Store" "poolSize" "I" ∈ lw_tbl := pk_t1 _ (List.mem_of_getElem? (i := 159) rfl)
set_option maxRecDepth 100000 in
theorem px12_206 : Cond.lays "TongueHouse$Store" "TongueHouse$Store" "isFull" "Z" ∈ lw_tbl := pk_t1 _ (List.mem_of_getElem? (i := 161) rfl)
set_option maxRecDepth 100000 in
theorem px12_207 : Cond.laysFinal "TongueHouse$Store" "TongueHouse$Store" "marks" "[I" ∈ lw_tbl := pk_t1 _ (List.mem_of_getElem? (i := 163) rfl)
set_option maxRecDepth 100000 in
theorem px12_208 : Cond.laysFinal "TongueHouse$Store" "TongueHouse$Store" "stack" "[I" ∈ lw_tbl := pk_t1 _ (List.mem_of_getElem? (i := 165) rfl)
set_option maxRecDepth 100000 in
theorem px12_209 : Cond.laysFinal "TongueHouse" "TongueHouse" "store" "LTongueHouse$Store;" ∈ lw_tbl := pk_t3 _ (List.mem_of_getElem? (i := 172) rfl)
set_option maxRecDepth 100000 in
theorem px12_210 : Cond.laysFinal "TongueHouse" "TongueHouse" "tape" "LTongueHouse$Text;" ∈ lw_tbl := pk_t3 _ (List.mem_of_getElem? (i := 174) rfl)
set_option maxRecDepth 100000 in
theorem px12_211 : Cond.laysFinal "TongueHouse" "TongueHouse" "out" "LTongueHouse$Text;" ∈ lw_tbl := pk_t3 _ (List.mem_of_getElem? (i := 176) rfl)
set_option maxRecDepth 100000 in
theorem px12_212 : Cond.laysFinal "TongueHouse" "TongueHouse" "base" "LTongueHouse$Text;" ∈ lw_tbl := pk_t3 _ (List.mem_of_getElem? (i := 178) rfl)
set_option maxRecDepth 100000 in
theorem px12_213 : Cond.laysFinal "TongueHouse" "TongueHouse" "draft" "LTongueHouse$Text;" ∈ lw_tbl := pk_t3 _ (List.mem_of_getElem? (i := 180) rfl)
set_option maxRecDepth 100000 in
theorem px12_214 : Cond.laysFinal "TongueHouse" "TongueHouse" "reader" "LTongueHouse$Reader;" ∈ lw_tbl := pk_t3 _ (List.mem_of_getElem? (i := 182) rfl)
set_option maxRecDepth 100000 in
theorem px12_215 : Cond.laysFinal "TongueHouse" "TongueHouse" "chart" "LTongueHouse$Chart;" ∈ lw_tbl := pk_t3 _ (List.mem_of_getElem? (i := 184) rfl)
set_option maxRecDepth 100000 in
theorem px12_216 : Cond.laysFinal "TongueHouse" "TongueHouse" "ranking" "LTongueHouse$Ranking;" ∈ lw_tbl := pk_t3 _ (List.mem_of_getElem? (i := 186) rfl)
set_option maxRecDepth 100000 in
theorem px12_217 : Cond.laysFinal "TongueHouse" "TongueHouse" "sayer" "LTongueHouse$Sayer;" ∈ lw_tbl := pk_t3 _ (List.mem_of_getElem? (i := 188) rfl)
set_option maxRecDepth 100000 in
theorem px12_218 : Cond.laysFinal "TongueHouse" "TongueHouse" "thought" "LTongueHouse$Thought;" ∈ lw_tbl := pk_t3 _ (List.mem_of_getElem? (i := 190) rfl)
set_option maxRecDepth 100000 in
theorem px12_219 : Cond.laysFinal "TongueHouse" "TongueHouse" "finder" "LTongueHouse$Finder;" ∈ lw_tbl := pk_t3 _ (List.mem_of_getElem? (i := 192) rfl)
set_option maxRecDepth 100000 in
theorem px12_220 : Cond.laysFinal "TongueHouse" "TongueHouse" "planted" "[[I" ∈ lw_tbl := pk_t3 _ (List.mem_of_getElem? (i := 194) rfl)
set_option maxRecDepth 100000 in
theorem px12_221 : Cond.laysFinal "TongueHouse" "TongueHouse" "plantedSize" "[I" ∈ lw_tbl := pk_t3 _ (List.mem_of_getElem? (i := 196) rfl)
set_option maxRecDepth 100000 in
theorem px12_222 : Cond.laysFinal "TongueHouse" "TongueHouse" "candidates" "[[B" ∈ lw_tbl := pk_t3 _ (List.mem_of_getElem? (i := 198) rfl)
set_option maxRecDepth 100000 in
theorem px12_223 : Cond.laysFinal "TongueHouse" "TongueHouse" "candidateSize" "[I" ∈ lw_tbl := pk_t3 _ (List.mem_of_getElem? (i := 200) rfl)
set_option maxRecDepth 100000 in
theorem px12_224 : Cond.lays "TongueHouse" "TongueHouse" "candidateCount" "I" ∈ lw_tbl := pk_t3 _ (List.mem_of_getElem? (i := 202) rfl)
set_option maxRecDepth 100000 in
theorem px12_225 : Cond.laysFinal "TongueHouse" "TongueHouse" "changes" "[I" ∈ lw_tbl := pk_t3 _ (List.mem_of_getElem? (i := 204) rfl)
set_option maxRecDepth 100000 in
theorem px12_226 : Cond.laysFinal "TongueHouse$Text" "TongueHouse$Text" "bytes" "[B" ∈ lw_tbl := pk_t1 _ (List.mem_of_getElem? (i := 211) rfl)
set_option maxRecDepth 100000 in
theorem px12_227 : Cond.lays "TongueHouse$Text" "TongueHouse$Text" "size" "I" ∈ lw_tbl := pk_t1 _ (List.mem_of_getElem? (i := 213) rfl)
set_option maxRecDepth 100000 in
theorem px12_228 : Cond.laysFinal "TongueHouse$Text" "TongueHouse$Text" "start" "[I" ∈ lw_tbl := pk_t1 _ (List.mem_of_getElem? (i := 215) rfl)
set_option maxRecDepth 100000 in
theorem px12_229 : Cond.laysFinal "TongueHouse$Text" "TongueHouse$Text" "len" "[I" ∈ lw_tbl := pk_t1 _ (List.mem_of_getElem? (i := 217) rfl)
set_option maxRecDepth 100000 in
theorem px12_230 : Cond.lays "TongueHouse$Text" "TongueHouse$Text" "words" "I" ∈ lw_tbl := pk_t1 _ (List.mem_of_getElem? (i := 219) rfl)
set_option maxRecDepth 100000 in
theorem px12_231 : Cond.lays "TongueHouse$Text" "TongueHouse$Text" "at" "I" ∈ lw_tbl := pk_t1 _ (List.mem_of_getElem? (i := 221) rfl)
set_option maxRecDepth 100000 in
theorem px12_232 : Cond.lays "TongueHouse$Text" "TongueHouse$Text" "next" "I" ∈ lw_tbl := pk_t1 _ (List.mem_of_getElem? (i := 223) rfl)
set_option maxRecDepth 100000 in
theorem px12_233 : Cond.lays "TongueHouse$Text" "TongueHouse$Text" "type" "I" ∈ lw_tbl := pk_t1 _ (List.mem_of_getElem? (i := 225) rfl)
set_option maxRecDepth 100000 in
theorem px12_234 : Cond.lays "TongueHouse$Text" "TongueHouse$Text" "value" "I" ∈ lw_tbl := pk_t1 _ (List.mem_of_getElem? (i := 227) rfl)
set_option maxRecDepth 100000 in
theorem px12_235 : Cond.lays "TongueHouse$Text" "TongueHouse$Text" "name" "J" ∈ lw_tbl := pk_t1 _ (List.mem_of_getElem? (i := 229) rfl)
set_option maxRecDepth 100000 in
theorem px12_236 : Cond.laysFinal "TongueHouse$Reader" "TongueHouse$Reader" "store" "LTongueHouse$Store;" ∈ lw_tbl := pk_t2 _ (List.mem_of_getElem? (i := 19) rfl)
set_option maxRecDepth 100000 in
theorem px12_237 : Cond.laysFinal "TongueHouse$Reader" "TongueHouse$Reader" "tape" "LTongueHouse$Text;" ∈ lw_tbl := pk_t2 _ (List.mem_of_getElem? (i := 21) rfl)
set_option maxRecDepth 100000 in
theorem px12_238 : Cond.lays "TongueHouse$Reader" "TongueHouse$Reader" "tongue" "LTongueHouse$Tongue;" ∈ lw_tbl := pk_t2 _ (List.mem_of_getElem? (i := 23) rfl)
set_option maxRecDepth 100000 in
theorem px12_239 : Cond.lays "TongueHouse$Reader" "TongueHouse$Reader" "rule" "I" ∈ lw_tbl := pk_t2 _ (List.mem_of_getElem? (i := 25) rfl)
set_option maxRecDepth 100000 in
theorem px12_240 : Cond.lays "TongueHouse$Reader" "TongueHouse$Reader" "where" "I" ∈ lw_tbl := pk_t2 _ (List.mem_of_getElem? (i := 27) rfl)
set_option maxRecDepth 100000 in
theorem px12_241 : Cond.lays "TongueHouse$Reader" "TongueHouse$Reader" "first" "I" ∈ lw_tbl := pk_t2 _ (List.mem_of_getElem? (i := 29) rfl)
set_option maxRecDepth 100000 in
theorem px12_242 : Cond.lays "TongueHouse$Reader" "TongueHouse$Reader" "values" "I" ∈ lw_tbl := pk_t2 _ (List.mem_of_getElem? (i := 31) rfl)
set_option maxRecDepth 100000 in
theorem px12_243 : Cond.lays "TongueHouse$Reader" "TongueHouse$Reader" "cost" "I" ∈ lw_tbl := pk_t2 _ (List.mem_of_getElem? (i := 33) rfl)
set_option maxRecDepth 100000 in
theorem px12_244 : Cond.lays "TongueHouse$Reader" "TongueHouse$Reader" "cells" "I" ∈ lw_tbl := pk_t2 _ (List.mem_of_getElem? (i := 35) rfl)
set_option maxRecDepth 100000 in
theorem px12_245 : Cond.laysFinal "TongueHouse$Reader" "TongueHouse$Reader" "cell" "[I" ∈ lw_tbl := pk_t2 _ (List.mem_of_getElem? (i := 37) rfl)
set_option maxRecDepth 100000 in
theorem px12_246 : Cond.laysFinal "TongueHouse$Reader" "TongueHouse$Reader" "row" "[I" ∈ lw_tbl := pk_t2 _ (List.mem_of_getElem? (i := 39) rfl)
set_option maxRecDepth 100000 in
theorem px12_247 : Cond.laysFinal "TongueHouse$Reader" "TongueHouse$Reader" "names" "[J" ∈ lw_tbl := pk_t2 _ (List.mem_of_getElem? (i := 41) rfl)
set_option maxRecDepth 100000 in
theorem px12_248 : Cond.lays "TongueHouse$Reader" "TongueHouse$Reader" "termSize" "I" ∈ lw_tbl := pk_t2 _ (List.mem_of_getElem? (i := 43) rfl)
set_option maxRecDepth 100000 in
theorem px12_249 : Cond.laysFinal "TongueHouse$Reader" "TongueHouse$Reader" "termOp" "[I" ∈ lw_tbl := pk_t2 _ (List.mem_of_getElem? (i := 45) rfl)
set_option maxRecDepth 100000 in
theorem px12_250 : Cond.laysFinal "TongueHouse$Reader" "TongueHouse$Reader" "termName" "[J" ∈ lw_tbl := pk_t2 _ (List.mem_of_getElem? (i := 47) rfl)
set_option maxRecDepth 100000 in
theorem px12_251 : Cond.lays "TongueHouse$Reader" "TongueHouse$Reader" "binders" "I" ∈ lw_tbl := pk_t2 _ (List.mem_of_getElem? (i := 49) rfl)
set_option maxRecDepth 100000 in
theorem px12_252 : Cond.laysFinal "TongueHouse$Reader" "TongueHouse$Reader" "binder" "[J" ∈ lw_tbl := pk_t2 _ (List.mem_of_getElem? (i := 51) rfl)
set_option maxRecDepth 100000 in
theorem px12_253 : Cond.laysFinal "TongueHouse$Reader" "TongueHouse$Reader" "opened" "[I" ∈ lw_tbl := pk_t2 _ (List.mem_of_getElem? (i := 53) rfl)
set_option maxRecDepth 100000 in
theorem px12_254 : Cond.laysFinal "TongueHouse$Reader" "TongueHouse$Reader" "seen" "[I" ∈ lw_tbl := pk_t2 _ (List.mem_of_getElem? (i := 55) rfl)
set_option maxRecDepth 100000 in
theorem px12_255 : Cond.laysFinal "TongueHouse$Chart" "TongueHouse$Chart" "store" "LTongueHouse$Store;" ∈ lw_tbl := pk_t2 _ (List.mem_of_getElem? (i := 99) rfl)
set_option maxRecDepth 100000 in
theorem px12_256 : Cond.laysFinal "TongueHouse$Chart" "TongueHouse$Chart" "firstNode" "[I" ∈ lw_tbl := pk_t2 _ (List.mem_of_getElem? (i := 101) rfl)
set_option maxRecDepth 100000 in
theorem px12_257 : Cond.laysFinal "TongueHouse$Chart" "TongueHouse$Chart" "nodeCount" "[I" ∈ lw_tbl := pk_t2 _ (List.mem_of_getElem? (i := 103) rfl)
set_option maxRecDepth 100000 in
theorem px12_258 : Cond.lays "TongueHouse$Chart" "TongueHouse$Chart" "nodes" "I" ∈ lw_tbl := pk_t2 _ (List.mem_of_getElem? (i := 105) rfl)
set_option maxRecDepth 100000 in
theorem px12_259 : Cond.laysFinal "TongueHouse$Chart" "TongueHouse$Chart" "nodeEnd" "[I" ∈ lw_tbl := pk_t2 _ (List.mem_of_getElem? (i := 107) rfl)
set_option maxRecDepth 100000 in
theorem px12_260 : Cond.laysFinal "TongueHouse$Chart" "TongueHouse$Chart" "nodeValues" "[I" ∈ lw_tbl := pk_t2 _ (List.mem_of_getElem? (i := 109) rfl)
set_option maxRecDepth 100000 in
theorem px12_261 : Cond.lays "TongueHouse$Chart" "TongueHouse$Chart" "ways" "I" ∈ lw_tbl := pk_t2 _ (List.mem_of_getElem? (i := 111) rfl)
set_option maxRecDepth 100000 in
theorem px12_262 : Cond.laysFinal "TongueHouse$Chart" "TongueHouse$Chart" "wayNode" "[I" ∈ lw_tbl := pk_t2 _ (List.mem_of_getElem? (i := 113) rfl)
set_option maxRecDepth 100000 in
theorem px12_263 : Cond.laysFinal "TongueHouse$Chart" "TongueHouse$Chart" "wayRule" "[I" ∈ lw_tbl := pk_t2 _ (List.mem_of_getElem? (i := 115) rfl)
set_option maxRecDepth 100000 in
theorem px12_264 : Cond.laysFinal "TongueHouse$Chart" "TongueHouse$Chart" "wayArgs" "[I" ∈ lw_tbl := pk_t2 _ (List.mem_of_getElem? (i := 117) rfl)
set_option maxRecDepth 100000 in
theorem px12_265 : Cond.lays "TongueHouse$Chart" "TongueHouse$Chart" "root" "I" ∈ lw_tbl := pk_t2 _ (List.mem_of_getElem? (i := 119) rfl)
set_option maxRecDepth 100000 in
theorem px12_266 : Cond.lays "TongueHouse$Chart" "TongueHouse$Chart" "tries" "I" ∈ lw_tbl := pk_t2 _ (List.mem_of_getElem? (i := 121) rfl)
set_option maxRecDepth 100000 in
theorem px12_267 : Cond.lays "TongueHouse$Chart" "TongueHouse$Chart" "over" "Z" ∈ lw_tbl := pk_t2 _ (List.mem_of_getElem? (i := 123) rfl)
set_option maxRecDepth 100000 in
theorem px12_268 : Cond.lays "TongueHouse$Chart" "TongueHouse$Chart" "tongue" "LTongueHouse$Tongue;" ∈ lw_tbl := pk_t2 _ (List.mem_of_getElem? (i := 125) rfl)
set_option maxRecDepth 100000 in
theorem px12_269 : Cond.lays "TongueHouse$Chart" "TongueHouse$Chart" "text" "LTongueHouse$Text;" ∈ lw_tbl := pk_t2 _ (List.mem_of_getElem? (i := 127) rfl)
set_option maxRecDepth 100000 in
theorem px12_270 : Cond.laysFinal "TongueHouse$Chart" "TongueHouse$Chart" "kindLins" "[I" ∈ lw_tbl := pk_t2 _ (List.mem_of_getElem? (i := 129) rfl)
set_option maxRecDepth 100000 in
theorem px12_271 : Cond.laysFinal "TongueHouse$Chart" "TongueHouse$Chart" "linOrder" "[I" ∈ lw_tbl := pk_t2 _ (List.mem_of_getElem? (i := 131) rfl)
set_option maxRecDepth 100000 in
theorem px12_272 : Cond.lays "TongueHouse$Chart" "TongueHouse$Chart" "spanFirst" "I" ∈ lw_tbl := pk_t2 _ (List.mem_of_getElem? (i := 133) rfl)
set_option maxRecDepth 100000 in
theorem px12_273 : Cond.lays "TongueHouse$Chart" "TongueHouse$Chart" "spanEnd" "I" ∈ lw_tbl := pk_t2 _ (List.mem_of_getElem? (i := 135) rfl)
set_option maxRecDepth 100000 in
theorem px12_274 : Cond.laysFinal "TongueHouse$Chart" "TongueHouse$Chart" "chosen" "[I" ∈ lw_tbl := pk_t2 _ (List.mem_of_getElem? (i := 137) rfl)
set_option maxRecDepth 100000 in
theorem px12_275 : Cond.laysFinal "TongueHouse$Chart" "TongueHouse$Chart" "chosenValues" "[I" ∈ lw_tbl := pk_t2 _ (List.mem_of_getElem? (i := 139) rfl)
set_option maxRecDepth 100000 in
theorem px12_276 : Cond.laysFinal "TongueHouse$Chart" "TongueHouse$Chart" "work" "[I" ∈ lw_tbl := pk_t2 _ (List.mem_of_getElem? (i := 141) rfl)
set_option maxRecDepth 100000 in
theorem px12_277 : Cond.laysFinal "TongueHouse$Ranking" "TongueHouse$Ranking" "store" "LTongueHouse$Store;" ∈ lw_tbl := pk_t2 _ (List.mem_of_getElem? (i := 170) rfl)
set_option maxRecDepth 100000 in
theorem px12_278 : Cond.laysFinal "TongueHouse$Ranking" "TongueHouse$Ranking" "chart" "LTongueHouse$Chart;" ∈ lw_tbl := pk_t2 _ (List.mem_of_getElem? (i := 172) rfl)
set_option maxRecDepth 100000 in
theorem px12_279 : Cond.lays "TongueHouse$Ranking" "TongueHouse$Ranking" "tongue" "LTongueHouse$Tongue;" ∈ lw_tbl := pk_t2 _ (List.mem_of_getElem? (i := 174) rfl)
set_option maxRecDepth 100000 in
theorem px12_280 : Cond.lays "TongueHouse$Ranking" "TongueHouse$Ranking" "isOpen" "Z" ∈ lw_tbl := pk_t2 _ (List.mem_of_getElem? (i := 176) rfl)
set_option maxRecDepth 100000 in
theorem px12_281 : Cond.lays "TongueHouse$Ranking" "TongueHouse$Ranking" "ranked" "Z" ∈ lw_tbl := pk_t2 _ (List.mem_of_getElem? (i := 178) rfl)
set_option maxRecDepth 100000 in
theorem px12_282 : Cond.laysFinal "TongueHouse$Ranking" "TongueHouse$Ranking" "barred" "[Z" ∈ lw_tbl := pk_t2 _ (List.mem_of_getElem? (i := 180) rfl)
set_option maxRecDepth 100000 in
theorem px12_283 : Cond.laysFinal "TongueHouse$Ranking" "TongueHouse$Ranking" "treeCount" "[J" ∈ lw_tbl := pk_t2 _ (List.mem_of_getElem? (i := 182) rfl)
set_option maxRecDepth 100000 in
theorem px12_284 : Cond.laysFinal "TongueHouse$Ranking" "TongueHouse$Ranking" "reached" "[Z" ∈ lw_tbl := pk_t2 _ (List.mem_of_getElem? (i := 184) rfl)
set_option maxRecDepth 100000 in
theorem px12_285 : Cond.lays "TongueHouse$Ranking" "TongueHouse$Ranking" "orderSize" "I" ∈ lw_tbl := pk_t2 _ (List.mem_of_getElem? (i := 186) rfl)
set_option maxRecDepth 100000 in
theorem px12_286 : Cond.lays "TongueHouse$Ranking" "TongueHouse$Ranking" "order" "[I" ∈ lw_tbl := pk_t2 _ (List.mem_of_getElem? (i := 188) rfl)
set_option maxRecDepth 100000 in
theorem px12_287 : Cond.lays "TongueHouse$Ranking" "TongueHouse$Ranking" "spare" "[I" ∈ lw_tbl := pk_t2 _ (List.mem_of_getElem? (i := 190) rfl)
set_option maxRecDepth 100000 in
theorem px12_288 : Cond.laysFinal "TongueHouse$Ranking" "TongueHouse$Ranking" "listSize" "[I" ∈ lw_tbl := pk_t2 _ (List.mem_of_getElem? (i := 192) rfl)
set_option maxRecDepth 100000 in
theorem px12_289 : Cond.laysFinal "TongueHouse$Ranking" "TongueHouse$Ranking" "listPrice" "[I" ∈ lw_tbl := pk_t2 _ (List.mem_of_getElem? (i := 194) rfl)
set_option maxRecDepth 100000 in
theorem px12_290 : Cond.laysFinal "TongueHouse$Ranking" "TongueHouse$Ranking" "listWay" "[I" ∈ lw_tbl := pk_t2 _ (List.mem_of_getElem? (i := 196) rfl)
set_option maxRecDepth 100000 in
theorem px12_291 : Cond.laysFinal "TongueHouse$Ranking" "TongueHouse$Ranking" "listRanks" "[I" ∈ lw_tbl := pk_t2 _ (List.mem_of_getElem? (i := 198) rfl)
set_option maxRecDepth 100000 in
theorem px12_292 : Cond.lays "TongueHouse$Ranking" "TongueHouse$Ranking" "topSize" "I" ∈ lw_tbl := pk_t2 _ (List.mem_of_getElem? (i := 200) rfl)
set_option maxRecDepth 100000 in
theorem px12_293 : Cond.laysFinal "TongueHouse$Ranking" "TongueHouse$Ranking" "topPrice" "[I" ∈ lw_tbl := pk_t2 _ (List.mem_of_getElem? (i := 202) rfl)
set_option maxRecDepth 100000 in
theorem px12_294 : Cond.laysFinal "TongueHouse$Ranking" "TongueHouse$Ranking" "topEntry" "[I" ∈ lw_tbl := pk_t2 _ (List.mem_of_getElem? (i := 204) rfl)
set_option maxRecDepth 100000 in
theorem px12_295 : Cond.laysFinal "TongueHouse$Ranking" "TongueHouse$Ranking" "stack" "[I" ∈ lw_tbl := pk_t2 _ (List.mem_of_getElem? (i := 206) rfl)
set_option maxRecDepth 100000 in
theorem px12_296 : Cond.laysFinal "TongueHouse$Sayer" "TongueHouse$Sayer" "store" "LTongueHouse$Store;" ∈ lw_tbl := pk_t2 _ (List.mem_of_getElem? (i := 230) rfl)
set_option maxRecDepth 100000 in
theorem px12_297 : Cond.lays "TongueHouse$Sayer" "TongueHouse$Sayer" "tongue" "LTongueHouse$Tongue;" ∈ lw_tbl := pk_t2 _ (List.mem_of_getElem? (i := 232) rfl)
set_option maxRecDepth 100000 in
theorem px12_298 : Cond.laysFinal "TongueHouse$Sayer" "TongueHouse$Sayer" "child" "[I" ∈ lw_tbl := pk_t2 _ (List.mem_of_getElem? (i := 234) rfl)
set_option maxRecDepth 100000 in
theorem px12_299 : Cond.laysFinal "TongueHouse$Sayer" "TongueHouse$Sayer" "options" "[I" ∈ lw_tbl := pk_t2 _ (List.mem_of_getElem? (i := 236) rfl)
set_option maxRecDepth 100000 in
theorem px12_300 : Cond.laysFinal "TongueHouse$Sayer" "TongueHouse$Sayer" "cost" "[I" ∈ lw_tbl := pk_t2 _ (List.mem_of_getElem? (i := 238) rfl)
set_option maxRecDepth 100000 in
theorem px12_301 : Cond.laysFinal "TongueHouse$Sayer" "TongueHouse$Sayer" "values" "[I" ∈ lw_tbl := pk_t3 _ (List.mem_of_getElem? (i := 0) rfl)
set_option maxRecDepth 100000 in
theorem px12_302 : Cond.laysFinal "TongueHouse$Sayer" "TongueHouse$Sayer" "length" "[I" ∈ lw_tbl := pk_t3 _ (List.mem_of_getElem? (i := 2) rfl)
set_option maxRecDepth 100000 in
theorem px12_303 : Cond.laysFinal "TongueHouse$Sayer" "TongueHouse$Sayer" "rule" "[I" ∈ lw_tbl := pk_t3 _ (List.mem_of_getElem? (i := 4) rfl)
set_option maxRecDepth 100000 in
theorem px12_304 : Cond.laysFinal "TongueHouse$Sayer" "TongueHouse$Sayer" "picks" "[I" ∈ lw_tbl := pk_t3 _ (List.mem_of_getElem? (i := 6) rfl)
set_option maxRecDepth 100000 in
theorem px12_305 : Cond.lays "TongueHouse$Sayer" "TongueHouse$Sayer" "at" "I" ∈ lw_tbl := pk_t3 _ (List.mem_of_getElem? (i := 8) rfl)
set_option maxRecDepth 100000 in
theorem px12_306 : Cond.laysFinal "TongueHouse$Sayer" "TongueHouse$Sayer" "picked" "[I" ∈ lw_tbl := pk_t3 _ (List.mem_of_getElem? (i := 10) rfl)
set_option maxRecDepth 100000 in
theorem px12_307 : Cond.laysFinal "TongueHouse$Sayer" "TongueHouse$Sayer" "work" "[I" ∈ lw_tbl := pk_t3 _ (List.mem_of_getElem? (i := 12) rfl)
set_option maxRecDepth 100000 in
theorem px12_308 : Cond.laysFinal "TongueHouse$Sayer" "TongueHouse$Sayer" "openEntry" "[I" ∈ lw_tbl := pk_t3 _ (List.mem_of_getElem? (i := 14) rfl)
set_option maxRecDepth 100000 in
theorem px12_309 : Cond.laysFinal "TongueHouse$Sayer" "TongueHouse$Sayer" "openItem" "[I" ∈ lw_tbl := pk_t3 _ (List.mem_of_getElem? (i := 16) rfl)
set_option maxRecDepth 100000 in
theorem px12_310 : Cond.laysFinal "TongueHouse$Thought" "TongueHouse$Thought" "store" "LTongueHouse$Store;" ∈ lw_tbl := pk_t3 _ (List.mem_of_getElem? (i := 44) rfl)
set_option maxRecDepth 100000 in
theorem px12_311 : Cond.lays "TongueHouse$Thought" "TongueHouse$Thought" "size" "I" ∈ lw_tbl := pk_t3 _ (List.mem_of_getElem? (i := 46) rfl)
set_option maxRecDepth 100000 in
theorem px12_312 : Cond.lays "TongueHouse$Thought" "TongueHouse$Thought" "op" "[I" ∈ lw_tbl := pk_t3 _ (List.mem_of_getElem? (i := 48) rfl)
set_option maxRecDepth 100000 in
theorem px12_313 : Cond.lays "TongueHouse$Thought" "TongueHouse$Thought" "name" "[J" ∈ lw_tbl := pk_t3 _ (List.mem_of_getElem? (i := 50) rfl)
set_option maxRecDepth 100000 in
theorem px12_314 : Cond.lays "TongueHouse$Thought" "TongueHouse$Thought" "nextOp" "[I" ∈ lw_tbl := pk_t3 _ (List.mem_of_getElem? (i := 52) rfl)
set_option maxRecDepth 100000 in
theorem px12_315 : Cond.lays "TongueHouse$Thought" "TongueHouse$Thought" "nextName" "[J" ∈ lw_tbl := pk_t3 _ (List.mem_of_getElem? (i := 54) rfl)
set_option maxRecDepth 100000 in
theorem px12_316 : Cond.laysFinal "TongueHouse$Thought" "TongueHouse$Thought" "child" "[I" ∈ lw_tbl := pk_t3 _ (List.mem_of_getElem? (i := 56) rfl)
set_option maxRecDepth 100000 in
theorem px12_317 : Cond.laysFinal "TongueHouse$Thought" "TongueHouse$Thought" "stack" "[I" ∈ lw_tbl := pk_t3 _ (List.mem_of_getElem? (i := 58) rfl)
set_option maxRecDepth 100000 in
theorem px12_318 : Cond.laysFinal "TongueHouse$Thought" "TongueHouse$Thought" "inner" "[I" ∈ lw_tbl := pk_t3 _ (List.mem_of_getElem? (i := 60) rfl)
set_option maxRecDepth 100000 in
theorem px12_319 : Cond.lays "TongueHouse$Thought" "TongueHouse$Thought" "open" "I" ∈ lw_tbl := pk_t3 _ (List.mem_of_getElem? (i := 62) rfl)
set_option maxRecDepth 100000 in
theorem px12_320 : Cond.laysFinal "TongueHouse$Thought" "TongueHouse$Thought" "openName" "[J" ∈ lw_tbl := pk_t3 _ (List.mem_of_getElem? (i := 64) rfl)
set_option maxRecDepth 100000 in
theorem px12_321 : Cond.laysFinal "TongueHouse$Thought" "TongueHouse$Thought" "openPart" "[I" ∈ lw_tbl := pk_t3 _ (List.mem_of_getElem? (i := 66) rfl)
set_option maxRecDepth 100000 in
theorem px12_322 : Cond.laysFinal "TongueHouse$Thought" "TongueHouse$Thought" "openSeen" "[I" ∈ lw_tbl := pk_t3 _ (List.mem_of_getElem? (i := 68) rfl)
set_option maxRecDepth 100000 in
theorem px12_323 : Cond.laysFinal "TongueHouse$Thought" "TongueHouse$Thought" "openValue" "[I" ∈ lw_tbl := pk_t3 _ (List.mem_of_getElem? (i := 70) rfl)
set_option maxRecDepth 100000 in
theorem px12_324 : Cond.laysFinal "TongueHouse$Thought" "TongueHouse$Thought" "openLevel" "[I" ∈ lw_tbl := pk_t3 _ (List.mem_of_getElem? (i := 72) rfl)
set_option maxRecDepth 100000 in
theorem px12_325 : Cond.laysFinal "TongueHouse$Thought" "TongueHouse$Thought" "thing" "[I" ∈ lw_tbl := pk_t3 _ (List.mem_of_getElem? (i := 74) rfl)
set_option maxRecDepth 100000 in
theorem px12_326 : Cond.lays "TongueHouse$Thought" "TongueHouse$Thought" "at" "I" ∈ lw_tbl := pk_t3 _ (List.mem_of_getElem? (i := 76) rfl)
set_option maxRecDepth 100000 in
theorem px12_327 : Cond.lays "TongueHouse$Thought" "TongueHouse$Thought" "level" "I" ∈ lw_tbl := pk_t3 _ (List.mem_of_getElem? (i := 78) rfl)
set_option maxRecDepth 100000 in
theorem px12_328 : Cond.lays "TongueHouse$Thought" "TongueHouse$Thought" "astray" "Z" ∈ lw_tbl := pk_t3 _ (List.mem_of_getElem? (i := 80) rfl)
set_option maxRecDepth 100000 in
theorem px12_329 : Cond.laysFinal "TongueHouse$Finder" "TongueHouse$Finder" "store" "LTongueHouse$Store;" ∈ lw_tbl := pk_t3 _ (List.mem_of_getElem? (i := 113) rfl)
set_option maxRecDepth 100000 in
theorem px12_330 : Cond.lays "TongueHouse$Finder" "TongueHouse$Finder" "analysisTongue" "I" ∈ lw_tbl := pk_t3 _ (List.mem_of_getElem? (i := 115) rfl)
set_option maxRecDepth 100000 in
theorem px12_331 : Cond.lays "TongueHouse$Finder" "TongueHouse$Finder" "analyses" "I" ∈ lw_tbl := pk_t3 _ (List.mem_of_getElem? (i := 117) rfl)
set_option maxRecDepth 100000 in
theorem px12_332 : Cond.laysFinal "TongueHouse$Finder" "TongueHouse$Finder" "analysed" "[I" ∈ lw_tbl := pk_t3 _ (List.mem_of_getElem? (i := 119) rfl)
set_option maxRecDepth 100000 in
theorem px12_333 : Cond.lays "TongueHouse$Finder" "TongueHouse$Finder" "guesses" "I" ∈ lw_tbl := pk_t3 _ (List.mem_of_getElem? (i := 121) rfl)
set_option maxRecDepth 100000 in
theorem px12_334 : Cond.laysFinal "TongueHouse$Finder" "TongueHouse$Finder" "guessPattern" "[I" ∈ lw_tbl := pk_t3 _ (List.mem_of_getElem? (i := 123) rfl)
set_option maxRecDepth 100000 in
theorem px12_335 : Cond.laysFinal "TongueHouse$Finder" "TongueHouse$Finder" "guessForms" "[I" ∈ lw_tbl := pk_t3 _ (List.mem_of_getElem? (i := 125) rfl)
set_option maxRecDepth 100000 in
theorem px12_336 : Cond.lays "TongueHouse$Finder" "TongueHouse$Finder" "guessTotal" "I" ∈ lw_tbl := pk_t3 _ (List.mem_of_getElem? (i := 127) rfl)
set_option maxRecDepth 100000 in
theorem px12_337 : Cond.lays "TongueHouse$Finder" "TongueHouse$Finder" "guessEnding" "I" ∈ lw_tbl := pk_t3 _ (List.mem_of_getElem? (i := 129) rfl)
set_option maxRecDepth 100000 in
theorem px12_338 : Cond.lays "TongueHouse$Finder" "TongueHouse$Finder" "collected" "I" ∈ lw_tbl := pk_t3 _ (List.mem_of_getElem? (i := 131) rfl)
set_option maxRecDepth 100000 in
theorem px12_339 : Cond.laysFinal "TongueHouse$Finder" "TongueHouse$Finder" "sentence" "[[B" ∈ lw_tbl := pk_t3 _ (List.mem_of_getElem? (i := 133) rfl)
set_option maxRecDepth 100000 in
theorem px12_340 : Cond.laysFinal "TongueHouse$Finder" "TongueHouse$Finder" "sentenceTongue" "[I" ∈ lw_tbl := pk_t3 _ (List.mem_of_getElem? (i := 135) rfl)
set_option maxRecDepth 100000 in
theorem px12_341 : Cond.laysFinal "TongueHouse$Finder" "TongueHouse$Finder" "words" "LTongueHouse$Text;" ∈ lw_tbl := pk_t3 _ (List.mem_of_getElem? (i := 137) rfl)
set_option maxRecDepth 100000 in
theorem px12_342 : Cond.laysFinal "TongueHouse$Finder" "TongueHouse$Finder" "wordKinds" "[I" ∈ lw_tbl := pk_t3 _ (List.mem_of_getElem? (i := 139) rfl)
set_option maxRecDepth 100000 in
theorem px12_343 : Cond.lays "TongueHouse$Finder" "TongueHouse$Finder" "hits" "I" ∈ lw_tbl := pk_t3 _ (List.mem_of_getElem? (i := 141) rfl)
set_option maxRecDepth 100000 in
theorem px12_344 : Cond.laysFinal "TongueHouse$Finder" "TongueHouse$Finder" "hitSentence" "[I" ∈ lw_tbl := pk_t3 _ (List.mem_of_getElem? (i := 143) rfl)
set_option maxRecDepth 100000 in
theorem px12_345 : Cond.laysFinal "TongueHouse$Finder" "TongueHouse$Finder" "hitWord" "[I" ∈ lw_tbl := pk_t3 _ (List.mem_of_getElem? (i := 145) rfl)
set_option maxRecDepth 100000 in
theorem px12_346 : Cond.lays "TongueHouse$Finder" "TongueHouse$Finder" "asked" "I" ∈ lw_tbl := pk_t3 _ (List.mem_of_getElem? (i := 147) rfl)
set_option maxRecDepth 100000 in
theorem px12_347 : Cond.laysFinal "TongueHouse$Finder" "TongueHouse$Finder" "question" "[I" ∈ lw_tbl := pk_t3 _ (List.mem_of_getElem? (i := 149) rfl)
set_option maxRecDepth 100000 in
theorem px12_348 : Cond.laysFinal "TongueHouse$Names" "TongueHouse$Names" "name" "[J" ∈ lw_tbl := pk_t1 _ (List.mem_of_getElem? (i := 58) rfl)
set_option maxRecDepth 100000 in
theorem px12_349 : Cond.lays "TongueHouse$Names" "TongueHouse$Names" "size" "I" ∈ lw_tbl := pk_t1 _ (List.mem_of_getElem? (i := 60) rfl)
def pxb0 : List Cond := [Cond.code yX12_init cX12_init 1 none, Cond.methodLink RX12 3 objectInit, Cond.instanceMethod objectInit, Cond.code objectInit ⟨#[0xb1]⟩ 1 none, Cond.classLink RX12 9 RX8, Cond.instantiable RX8 21, Cond.initialized RX8, Cond.fieldLink RX12 12 "TongueHouse" "store" "LTongueHouse$Store;", Cond.classLink RX12 16 RX9, Cond.instantiable RX9 10, Cond.initialized RX9, Cond.fieldLink RX12 19 "TongueHouse" "tape" "LTongueHouse$Text;", Cond.fieldLink RX12 23 "TongueHouse" "out" "LTongueHouse$Text;", Cond.fieldLink RX12 26 "TongueHouse" "base" "LTongueHouse$Text;", Cond.fieldLink RX12 29 "TongueHouse" "draft" "LTongueHouse$Text;", Cond.classLink RX12 32 RX6, Cond.instantiable RX6 19, Cond.initialized RX6, Cond.fieldLink RX12 37 "TongueHouse" "reader" "LTongueHouse$Reader;", Cond.classLink RX12 41 RX0, Cond.instantiable RX0 22, Cond.initialized RX0, Cond.fieldLink RX12 46 "TongueHouse" "chart" "LTongueHouse$Chart;", Cond.classLink RX12 50 RX5, Cond.instantiable RX5 19, Cond.initialized RX5, Cond.fieldLink RX12 55 "TongueHouse" "ranking" "LTongueHouse$Ranking;", Cond.classLink RX12 59 RX7, Cond.instantiable RX7 14, Cond.initialized RX7]
set_option maxRecDepth 100000 in
theorem pxb0_in : ∀ w ∈ pxb0, w ∈ lw_tbl := List.forall_mem_cons.mpr ⟨px12_0, List.forall_mem_cons.mpr ⟨px12_1, List.forall_mem_cons.mpr ⟨px12_2, List.forall_mem_cons.mpr ⟨px12_3, List.forall_mem_cons.mpr ⟨px12_4, List.forall_mem_cons.mpr ⟨px12_5, List.forall_mem_cons.mpr ⟨px12_6, List.forall_mem_cons.mpr ⟨px12_7, List.forall_mem_cons.mpr ⟨px12_8, List.forall_mem_cons.mpr ⟨px12_9, List.forall_mem_cons.mpr ⟨px12_10, List.forall_mem_cons.mpr ⟨px12_11, List.forall_mem_cons.mpr ⟨px12_12, List.forall_mem_cons.mpr ⟨px12_13, List.forall_mem_cons.mpr ⟨px12_14, List.forall_mem_cons.mpr ⟨px12_15, List.forall_mem_cons.mpr ⟨px12_16, List.forall_mem_cons.mpr ⟨px12_17, List.forall_mem_cons.mpr ⟨px12_18, List.forall_mem_cons.mpr ⟨px12_19, List.forall_mem_cons.mpr ⟨px12_20, List.forall_mem_cons.mpr ⟨px12_21, List.forall_mem_cons.mpr ⟨px12_22, List.forall_mem_cons.mpr ⟨px12_23, List.forall_mem_cons.mpr ⟨px12_24, List.forall_mem_cons.mpr ⟨px12_25, List.forall_mem_cons.mpr ⟨px12_26, List.forall_mem_cons.mpr ⟨px12_27, List.forall_mem_cons.mpr ⟨px12_28, List.forall_mem_cons.mpr ⟨px12_29, fun _ h => absurd h List.not_mem_nil⟩⟩⟩⟩⟩⟩⟩⟩⟩⟩⟩⟩⟩⟩⟩⟩⟩⟩⟩⟩⟩⟩⟩⟩⟩⟩⟩⟩⟩⟩
def pxb1 : List Cond := [Cond.fieldLink RX12 62 "TongueHouse" "sayer" "LTongueHouse$Sayer;", Cond.classLink RX12 66 RX10, Cond.instantiable RX10 19, Cond.initialized RX10, Cond.fieldLink RX12 69 "TongueHouse" "thought" "LTongueHouse$Thought;", Cond.classLink RX12 73 RX1, Cond.instantiable RX1 19, Cond.initialized RX1, Cond.fieldLink RX12 76 "TongueHouse" "finder" "LTongueHouse$Finder;", Cond.classLink RX12 80 "[[I", Cond.arrayClass .int, Cond.fieldLink RX12 82 "TongueHouse" "planted" "[[I", Cond.fieldLink RX12 85 "TongueHouse" "plantedSize" "[I", Cond.classLink RX12 89 "[[B", Cond.arrayClass .byte, Cond.fieldLink RX12 91 "TongueHouse" "candidates" "[[B", Cond.fieldLink RX12 94 "TongueHouse" "candidateSize" "[I", Cond.fieldLink RX12 97 "TongueHouse" "changes" "[I", Cond.instanceMethod yX8_init, Cond.code yX8_init cX8_init 1 none, Cond.methodLink RX8 7 objectInit, Cond.classLink RX8 13 RX4, Cond.instantiable RX4 2, Cond.initialized RX4, Cond.fieldLink RX8 18 "TongueHouse$Store" "kinds" "LTongueHouse$Names;", Cond.fieldLink RX8 22 "TongueHouse$Store" "funs" "LTongueHouse$Names;", Cond.fieldLink RX8 25 "TongueHouse$Store" "things" "LTongueHouse$Names;", Cond.fieldLink RX8 28 "TongueHouse$Store" "tongueNames" "LTongueHouse$Names;", Cond.classLink RX8 3 RX11, Cond.fieldLink RX8 31 "TongueHouse$Store" "tongues" "[LTongueHouse$Tongue;"]
set_option maxRecDepth 100000 in
theorem pxb1_in : ∀ w ∈ pxb1, w ∈ lw_tbl := List.forall_mem_cons.mpr ⟨px12_30, List.forall_mem_cons.mpr ⟨px12_31, List.forall_mem_cons.mpr ⟨px12_32, List.forall_mem_cons.mpr ⟨px12_33, List.forall_mem_cons.mpr ⟨px12_34, List.forall_mem_cons.mpr ⟨px12_35, List.forall_mem_cons.mpr ⟨px12_36, List.forall_mem_cons.mpr ⟨px12_37, List.forall_mem_cons.mpr ⟨px12_38, List.forall_mem_cons.mpr ⟨px12_39, List.forall_mem_cons.mpr ⟨px12_40, List.forall_mem_cons.mpr ⟨px12_41, List.forall_mem_cons.mpr ⟨px12_42, List.forall_mem_cons.mpr ⟨px12_43, List.forall_mem_cons.mpr ⟨px12_44, List.forall_mem_cons.mpr ⟨px12_45, List.forall_mem_cons.mpr ⟨px12_46, List.forall_mem_cons.mpr ⟨px12_47, List.forall_mem_cons.mpr ⟨px12_48, List.forall_mem_cons.mpr ⟨px12_49, List.forall_mem_cons.mpr ⟨px12_50, List.forall_mem_cons.mpr ⟨px12_51, List.forall_mem_cons.mpr ⟨px12_52, List.forall_mem_cons.mpr ⟨px12_53, List.forall_mem_cons.mpr ⟨px12_54, List.forall_mem_cons.mpr ⟨px12_55, List.forall_mem_cons.mpr ⟨px12_56, List.forall_mem_cons.mpr ⟨px12_57, List.forall_mem_cons.mpr ⟨px12_58, List.forall_mem_cons.mpr ⟨px12_59, fun _ h => absurd h List.not_mem_nil⟩⟩⟩⟩⟩⟩⟩⟩⟩⟩⟩⟩⟩⟩⟩⟩⟩⟩⟩⟩⟩⟩⟩⟩⟩⟩⟩⟩⟩⟩
def pxb2 : List Cond := [Cond.fieldLink RX8 35 "TongueHouse$Store" "current" "I", Cond.fieldLink RX8 39 "TongueHouse$Store" "funKind" "[I", Cond.fieldLink RX8 43 "TongueHouse$Store" "funArity" "[I", Cond.fieldLink RX8 46 "TongueHouse$Store" "funArgs" "[I", Cond.fieldLink RX8 49 "TongueHouse$Store" "funCost" "[I", Cond.fieldLink RX8 52 "TongueHouse$Store" "meanSize" "[I", Cond.fieldLink RX8 55 "TongueHouse$Store" "meanOp" "[I", Cond.arrayClass .long, Cond.fieldLink RX8 58 "TongueHouse$Store" "meanName" "[J", Cond.fieldLink RX8 62 "TongueHouse$Store" "factName" "[J", Cond.fieldLink RX8 65 "TongueHouse$Store" "factThings" "[I", Cond.fieldLink RX8 68 "TongueHouse$Store" "pool" "[B", Cond.fieldLink RX8 72 "TongueHouse$Store" "marks" "[I", Cond.fieldLink RX8 75 "TongueHouse$Store" "stack" "[I", Cond.methodLink RX8 15 yX4_init, Cond.instanceMethod yX4_init, Cond.code yX4_init cX4_init 2 none, Cond.methodLink RX4 3 objectInit, Cond.fieldLink RX4 9 "TongueHouse$Names" "name" "[J", Cond.instanceMethod yX9_init, Cond.code yX9_init cX9_init 1 none, Cond.methodLink RX9 3 objectInit, Cond.fieldLink RX9 11 "TongueHouse$Text" "bytes" "[B", Cond.fieldLink RX9 15 "TongueHouse$Text" "start" "[I", Cond.fieldLink RX9 19 "TongueHouse$Text" "len" "[I", Cond.methodLink RX12 34 yX6_init, Cond.instanceMethod yX6_init, Cond.code yX6_init cX6_init 3 none, Cond.methodLink RX6 3 objectInit, Cond.fieldLink RX6 11 "TongueHouse$Reader" "cell" "[I"]
set_option maxRecDepth 100000 in
theorem pxb2_in : ∀ w ∈ pxb2, w ∈ lw_tbl := List.forall_mem_cons.mpr ⟨px12_60, List.forall_mem_cons.mpr ⟨px12_61, List.forall_mem_cons.mpr ⟨px12_62, List.forall_mem_cons.mpr ⟨px12_63, List.forall_mem_cons.mpr ⟨px12_64, List.forall_mem_cons.mpr ⟨px12_65, List.forall_mem_cons.mpr ⟨px12_66, List.forall_mem_cons.mpr ⟨px12_67, List.forall_mem_cons.mpr ⟨px12_68, List.forall_mem_cons.mpr ⟨px12_69, List.forall_mem_cons.mpr ⟨px12_70, List.forall_mem_cons.mpr ⟨px12_71, List.forall_mem_cons.mpr ⟨px12_72, List.forall_mem_cons.mpr ⟨px12_73, List.forall_mem_cons.mpr ⟨px12_74, List.forall_mem_cons.mpr ⟨px12_75, List.forall_mem_cons.mpr ⟨px12_76, List.forall_mem_cons.mpr ⟨px12_77, List.forall_mem_cons.mpr ⟨px12_78, List.forall_mem_cons.mpr ⟨px12_79, List.forall_mem_cons.mpr ⟨px12_80, List.forall_mem_cons.mpr ⟨px12_81, List.forall_mem_cons.mpr ⟨px12_82, List.forall_mem_cons.mpr ⟨px12_83, List.forall_mem_cons.mpr ⟨px12_84, List.forall_mem_cons.mpr ⟨px12_85, List.forall_mem_cons.mpr ⟨px12_86, List.forall_mem_cons.mpr ⟨px12_87, List.forall_mem_cons.mpr ⟨px12_88, List.forall_mem_cons.mpr ⟨px12_89, fun _ h => absurd h List.not_mem_nil⟩⟩⟩⟩⟩⟩⟩⟩⟩⟩⟩⟩⟩⟩⟩⟩⟩⟩⟩⟩⟩⟩⟩⟩⟩⟩⟩⟩⟩⟩
def pxb3 : List Cond := [Cond.fieldLink RX6 17 "TongueHouse$Reader" "row" "[I", Cond.fieldLink RX6 20 "TongueHouse$Reader" "names" "[J", Cond.fieldLink RX6 24 "TongueHouse$Reader" "termOp" "[I", Cond.fieldLink RX6 27 "TongueHouse$Reader" "termName" "[J", Cond.fieldLink RX6 30 "TongueHouse$Reader" "binder" "[J", Cond.fieldLink RX6 33 "TongueHouse$Reader" "opened" "[I", Cond.fieldLink RX6 36 "TongueHouse$Reader" "seen" "[I", Cond.fieldLink RX6 39 "TongueHouse$Reader" "store" "LTongueHouse$Store;", Cond.fieldLink RX6 43 "TongueHouse$Reader" "tape" "LTongueHouse$Text;", Cond.methodLink RX12 43 yX0_init, Cond.instanceMethod yX0_init, Cond.code yX0_init cX0_init 2 none, Cond.methodLink RX0 3 objectInit, Cond.fieldLink RX0 9 "TongueHouse$Chart" "firstNode" "[I", Cond.fieldLink RX0 15 "TongueHouse$Chart" "nodeCount" "[I", Cond.fieldLink RX0 18 "TongueHouse$Chart" "nodeEnd" "[I", Cond.fieldLink RX0 21 "TongueHouse$Chart" "nodeValues" "[I", Cond.fieldLink RX0 24 "TongueHouse$Chart" "wayNode" "[I", Cond.fieldLink RX0 27 "TongueHouse$Chart" "wayRule" "[I", Cond.constant RX0 30 ( 36000 ), Cond.fieldLink RX0 31 "TongueHouse$Chart" "wayArgs" "[I", Cond.fieldLink RX0 34 "TongueHouse$Chart" "kindLins" "[I", Cond.fieldLink RX0 37 "TongueHouse$Chart" "linOrder" "[I", Cond.fieldLink RX0 40 "TongueHouse$Chart" "chosen" "[I", Cond.fieldLink RX0 43 "TongueHouse$Chart" "chosenValues" "[I", Cond.fieldLink RX0 46 "TongueHouse$Chart" "work" "[I", Cond.fieldLink RX0 49 "TongueHouse$Chart" "store" "LTongueHouse$Store;", Cond.methodLink RX12 52 yX5_init, Cond.instanceMethod yX5_init, Cond.code yX5_init cX5_init 3 none]
set_option maxRecDepth 100000 in
theorem pxb3_in : ∀ w ∈ pxb3, w ∈ lw_tbl := List.forall_mem_cons.mpr ⟨px12_90, List.forall_mem_cons.mpr ⟨px12_91, List.forall_mem_cons.mpr ⟨px12_92, List.forall_mem_cons.mpr ⟨px12_93, List.forall_mem_cons.mpr ⟨px12_94, List.forall_mem_cons.mpr ⟨px12_95, List.forall_mem_cons.mpr ⟨px12_96, List.forall_mem_cons.mpr ⟨px12_97, List.forall_mem_cons.mpr ⟨px12_98, List.forall_mem_cons.mpr ⟨px12_99, List.forall_mem_cons.mpr ⟨px12_100, List.forall_mem_cons.mpr ⟨px12_101, List.forall_mem_cons.mpr ⟨px12_102, List.forall_mem_cons.mpr ⟨px12_103, List.forall_mem_cons.mpr ⟨px12_104, List.forall_mem_cons.mpr ⟨px12_105, List.forall_mem_cons.mpr ⟨px12_106, List.forall_mem_cons.mpr ⟨px12_107, List.forall_mem_cons.mpr ⟨px12_108, List.forall_mem_cons.mpr ⟨px12_109, List.forall_mem_cons.mpr ⟨px12_110, List.forall_mem_cons.mpr ⟨px12_111, List.forall_mem_cons.mpr ⟨px12_112, List.forall_mem_cons.mpr ⟨px12_113, List.forall_mem_cons.mpr ⟨px12_114, List.forall_mem_cons.mpr ⟨px12_115, List.forall_mem_cons.mpr ⟨px12_116, List.forall_mem_cons.mpr ⟨px12_117, List.forall_mem_cons.mpr ⟨px12_118, List.forall_mem_cons.mpr ⟨px12_119, fun _ h => absurd h List.not_mem_nil⟩⟩⟩⟩⟩⟩⟩⟩⟩⟩⟩⟩⟩⟩⟩⟩⟩⟩⟩⟩⟩⟩⟩⟩⟩⟩⟩⟩⟩⟩
def pxb4 : List Cond := [Cond.methodLink RX5 3 objectInit, Cond.arrayClass .boolean, Cond.fieldLink RX5 9 "TongueHouse$Ranking" "barred" "[Z", Cond.fieldLink RX5 17 "TongueHouse$Ranking" "treeCount" "[J", Cond.fieldLink RX5 21 "TongueHouse$Ranking" "reached" "[Z", Cond.fieldLink RX5 24 "TongueHouse$Ranking" "order" "[I", Cond.fieldLink RX5 28 "TongueHouse$Ranking" "spare" "[I", Cond.fieldLink RX5 31 "TongueHouse$Ranking" "listSize" "[I", Cond.constant RX5 34 ( 48000 ), Cond.fieldLink RX5 35 "TongueHouse$Ranking" "listPrice" "[I", Cond.fieldLink RX5 38 "TongueHouse$Ranking" "listWay" "[I", Cond.fieldLink RX5 41 "TongueHouse$Ranking" "listRanks" "[I", Cond.fieldLink RX5 44 "TongueHouse$Ranking" "topPrice" "[I", Cond.fieldLink RX5 47 "TongueHouse$Ranking" "topEntry" "[I", Cond.fieldLink RX5 50 "TongueHouse$Ranking" "stack" "[I", Cond.fieldLink RX5 53 "TongueHouse$Ranking" "store" "LTongueHouse$Store;", Cond.fieldLink RX5 57 "TongueHouse$Ranking" "chart" "LTongueHouse$Chart;", Cond.methodLink RX12 61 yX7_init, Cond.instanceMethod yX7_init, Cond.code yX7_init cX7_init 2 none, Cond.methodLink RX7 3 objectInit, Cond.fieldLink RX7 9 "TongueHouse$Sayer" "child" "[I", Cond.fieldLink RX7 15 "TongueHouse$Sayer" "options" "[I", Cond.fieldLink RX7 18 "TongueHouse$Sayer" "cost" "[I", Cond.fieldLink RX7 21 "TongueHouse$Sayer" "values" "[I", Cond.fieldLink RX7 24 "TongueHouse$Sayer" "length" "[I", Cond.fieldLink RX7 27 "TongueHouse$Sayer" "rule" "[I", Cond.fieldLink RX7 30 "TongueHouse$Sayer" "picks" "[I", Cond.fieldLink RX7 33 "TongueHouse$Sayer" "picked" "[I", Cond.fieldLink RX7 36 "TongueHouse$Sayer" "work" "[I"]
set_option maxRecDepth 100000 in
theorem pxb4_in : ∀ w ∈ pxb4, w ∈ lw_tbl := List.forall_mem_cons.mpr ⟨px12_120, List.forall_mem_cons.mpr ⟨px12_121, List.forall_mem_cons.mpr ⟨px12_122, List.forall_mem_cons.mpr ⟨px12_123, List.forall_mem_cons.mpr ⟨px12_124, List.forall_mem_cons.mpr ⟨px12_125, List.forall_mem_cons.mpr ⟨px12_126, List.forall_mem_cons.mpr ⟨px12_127, List.forall_mem_cons.mpr ⟨px12_128, List.forall_mem_cons.mpr ⟨px12_129, List.forall_mem_cons.mpr ⟨px12_130, List.forall_mem_cons.mpr ⟨px12_131, List.forall_mem_cons.mpr ⟨px12_132, List.forall_mem_cons.mpr ⟨px12_133, List.forall_mem_cons.mpr ⟨px12_134, List.forall_mem_cons.mpr ⟨px12_135, List.forall_mem_cons.mpr ⟨px12_136, List.forall_mem_cons.mpr ⟨px12_137, List.forall_mem_cons.mpr ⟨px12_138, List.forall_mem_cons.mpr ⟨px12_139, List.forall_mem_cons.mpr ⟨px12_140, List.forall_mem_cons.mpr ⟨px12_141, List.forall_mem_cons.mpr ⟨px12_142, List.forall_mem_cons.mpr ⟨px12_143, List.forall_mem_cons.mpr ⟨px12_144, List.forall_mem_cons.mpr ⟨px12_145, List.forall_mem_cons.mpr ⟨px12_146, List.forall_mem_cons.mpr ⟨px12_147, List.forall_mem_cons.mpr ⟨px12_148, List.forall_mem_cons.mpr ⟨px12_149, fun _ h => absurd h List.not_mem_nil⟩⟩⟩⟩⟩⟩⟩⟩⟩⟩⟩⟩⟩⟩⟩⟩⟩⟩⟩⟩⟩⟩⟩⟩⟩⟩⟩⟩⟩⟩
def pxb5 : List Cond := [Cond.fieldLink RX7 39 "TongueHouse$Sayer" "openEntry" "[I", Cond.fieldLink RX7 42 "TongueHouse$Sayer" "openItem" "[I", Cond.fieldLink RX7 45 "TongueHouse$Sayer" "store" "LTongueHouse$Store;", Cond.methodLink RX12 68 yX10_init, Cond.instanceMethod yX10_init, Cond.code yX10_init cX10_init 2 none, Cond.methodLink RX10 3 objectInit, Cond.fieldLink RX10 11 "TongueHouse$Thought" "op" "[I", Cond.fieldLink RX10 15 "TongueHouse$Thought" "name" "[J", Cond.fieldLink RX10 19 "TongueHouse$Thought" "nextOp" "[I", Cond.fieldLink RX10 22 "TongueHouse$Thought" "nextName" "[J", Cond.fieldLink RX10 25 "TongueHouse$Thought" "child" "[I", Cond.fieldLink RX10 28 "TongueHouse$Thought" "stack" "[I", Cond.fieldLink RX10 31 "TongueHouse$Thought" "inner" "[I", Cond.fieldLink RX10 34 "TongueHouse$Thought" "openName" "[J", Cond.fieldLink RX10 37 "TongueHouse$Thought" "openPart" "[I", Cond.fieldLink RX10 40 "TongueHouse$Thought" "openSeen" "[I", Cond.fieldLink RX10 43 "TongueHouse$Thought" "openValue" "[I", Cond.fieldLink RX10 46 "TongueHouse$Thought" "openLevel" "[I", Cond.fieldLink RX10 49 "TongueHouse$Thought" "thing" "[I", Cond.fieldLink RX10 52 "TongueHouse$Thought" "store" "LTongueHouse$Store;", Cond.methodLink RX12 75 yX1_init, Cond.instanceMethod yX1_init, Cond.code yX1_init cX1_init 2 none, Cond.methodLink RX1 3 objectInit, Cond.fieldLink RX1 9 "TongueHouse$Finder" "analysed" "[I", Cond.fieldLink RX1 15 "TongueHouse$Finder" "guessPattern" "[I", Cond.fieldLink RX1 18 "TongueHouse$Finder" "guessForms" "[I", Cond.classLink RX1 21 "[B", Cond.fieldLink RX1 23 "TongueHouse$Finder" "sentence" "[[B"]
set_option maxRecDepth 100000 in
theorem pxb5_in : ∀ w ∈ pxb5, w ∈ lw_tbl := List.forall_mem_cons.mpr ⟨px12_150, List.forall_mem_cons.mpr ⟨px12_151, List.forall_mem_cons.mpr ⟨px12_152, List.forall_mem_cons.mpr ⟨px12_153, List.forall_mem_cons.mpr ⟨px12_154, List.forall_mem_cons.mpr ⟨px12_155, List.forall_mem_cons.mpr ⟨px12_156, List.forall_mem_cons.mpr ⟨px12_157, List.forall_mem_cons.mpr ⟨px12_158, List.forall_mem_cons.mpr ⟨px12_159, List.forall_mem_cons.mpr ⟨px12_160, List.forall_mem_cons.mpr ⟨px12_161, List.forall_mem_cons.mpr ⟨px12_162, List.forall_mem_cons.mpr ⟨px12_163, List.forall_mem_cons.mpr ⟨px12_164, List.forall_mem_cons.mpr ⟨px12_165, List.forall_mem_cons.mpr ⟨px12_166, List.forall_mem_cons.mpr ⟨px12_167, List.forall_mem_cons.mpr ⟨px12_168, List.forall_mem_cons.mpr ⟨px12_169, List.forall_mem_cons.mpr ⟨px12_170, List.forall_mem_cons.mpr ⟨px12_171, List.forall_mem_cons.mpr ⟨px12_172, List.forall_mem_cons.mpr ⟨px12_173, List.forall_mem_cons.mpr ⟨px12_174, List.forall_mem_cons.mpr ⟨px12_175, List.forall_mem_cons.mpr ⟨px12_176, List.forall_mem_cons.mpr ⟨px12_177, List.forall_mem_cons.mpr ⟨px12_178, List.forall_mem_cons.mpr ⟨px12_179, fun _ h => absurd h List.not_mem_nil⟩⟩⟩⟩⟩⟩⟩⟩⟩⟩⟩⟩⟩⟩⟩⟩⟩⟩⟩⟩⟩⟩⟩⟩⟩⟩⟩⟩⟩⟩
def pxb6 : List Cond := [Cond.fieldLink RX1 27 "TongueHouse$Finder" "sentenceTongue" "[I", Cond.classLink RX1 30 RX9, Cond.fieldLink RX1 33 "TongueHouse$Finder" "words" "LTongueHouse$Text;", Cond.fieldLink RX1 37 "TongueHouse$Finder" "wordKinds" "[I", Cond.fieldLink RX1 40 "TongueHouse$Finder" "hitSentence" "[I", Cond.fieldLink RX1 43 "TongueHouse$Finder" "hitWord" "[I", Cond.fieldLink RX1 46 "TongueHouse$Finder" "question" "[I", Cond.fieldLink RX1 49 "TongueHouse$Finder" "store" "LTongueHouse$Store;", Cond.laysFinal "TongueHouse$Store" "TongueHouse$Store" "kinds" "LTongueHouse$Names;", Cond.laysFinal "TongueHouse$Store" "TongueHouse$Store" "funs" "LTongueHouse$Names;", Cond.laysFinal "TongueHouse$Store" "TongueHouse$Store" "things" "LTongueHouse$Names;", Cond.laysFinal "TongueHouse$Store" "TongueHouse$Store" "tongueNames" "LTongueHouse$Names;", Cond.laysFinal "TongueHouse$Store" "TongueHouse$Store" "tongues" "[LTongueHouse$Tongue;", Cond.lays "TongueHouse$Store" "TongueHouse$Store" "current" "I", Cond.laysFinal "TongueHouse$Store" "TongueHouse$Store" "funKind" "[I", Cond.laysFinal "TongueHouse$Store" "TongueHouse$Store" "funArity" "[I", Cond.laysFinal "TongueHouse$Store" "TongueHouse$Store" "funArgs" "[I", Cond.laysFinal "TongueHouse$Store" "TongueHouse$Store" "funCost" "[I", Cond.laysFinal "TongueHouse$Store" "TongueHouse$Store" "meanSize" "[I", Cond.laysFinal "TongueHouse$Store" "TongueHouse$Store" "meanOp" "[I", Cond.laysFinal "TongueHouse$Store" "TongueHouse$Store" "meanName" "[J", Cond.lays "TongueHouse$Store" "TongueHouse$Store" "factCount" "I", Cond.laysFinal "TongueHouse$Store" "TongueHouse$Store" "factName" "[J", Cond.laysFinal "TongueHouse$Store" "TongueHouse$Store" "factThings" "[I", Cond.laysFinal "TongueHouse$Store" "TongueHouse$Store" "pool" "[B", Cond.lays "TongueHouse$Store" "TongueHouse$Store" "poolSize" "I", Cond.lays "TongueHouse$Store" "TongueHouse$Store" "isFull" "Z", Cond.laysFinal "TongueHouse$Store" "TongueHouse$Store" "marks" "[I", Cond.laysFinal "TongueHouse$Store" "TongueHouse$Store" "stack" "[I", Cond.laysFinal "TongueHouse" "TongueHouse" "store" "LTongueHouse$Store;"]
set_option maxRecDepth 100000 in
theorem pxb6_in : ∀ w ∈ pxb6, w ∈ lw_tbl := List.forall_mem_cons.mpr ⟨px12_180, List.forall_mem_cons.mpr ⟨px12_181, List.forall_mem_cons.mpr ⟨px12_182, List.forall_mem_cons.mpr ⟨px12_183, List.forall_mem_cons.mpr ⟨px12_184, List.forall_mem_cons.mpr ⟨px12_185, List.forall_mem_cons.mpr ⟨px12_186, List.forall_mem_cons.mpr ⟨px12_187, List.forall_mem_cons.mpr ⟨px12_188, List.forall_mem_cons.mpr ⟨px12_189, List.forall_mem_cons.mpr ⟨px12_190, List.forall_mem_cons.mpr ⟨px12_191, List.forall_mem_cons.mpr ⟨px12_192, List.forall_mem_cons.mpr ⟨px12_193, List.forall_mem_cons.mpr ⟨px12_194, List.forall_mem_cons.mpr ⟨px12_195, List.forall_mem_cons.mpr ⟨px12_196, List.forall_mem_cons.mpr ⟨px12_197, List.forall_mem_cons.mpr ⟨px12_198, List.forall_mem_cons.mpr ⟨px12_199, List.forall_mem_cons.mpr ⟨px12_200, List.forall_mem_cons.mpr ⟨px12_201, List.forall_mem_cons.mpr ⟨px12_202, List.forall_mem_cons.mpr ⟨px12_203, List.forall_mem_cons.mpr ⟨px12_204, List.forall_mem_cons.mpr ⟨px12_205, List.forall_mem_cons.mpr ⟨px12_206, List.forall_mem_cons.mpr ⟨px12_207, List.forall_mem_cons.mpr ⟨px12_208, List.forall_mem_cons.mpr ⟨px12_209, fun _ h => absurd h List.not_mem_nil⟩⟩⟩⟩⟩⟩⟩⟩⟩⟩⟩⟩⟩⟩⟩⟩⟩⟩⟩⟩⟩⟩⟩⟩⟩⟩⟩⟩⟩⟩
def pxb7 : List Cond := [Cond.laysFinal "TongueHouse" "TongueHouse" "tape" "LTongueHouse$Text;", Cond.laysFinal "TongueHouse" "TongueHouse" "out" "LTongueHouse$Text;", Cond.laysFinal "TongueHouse" "TongueHouse" "base" "LTongueHouse$Text;", Cond.laysFinal "TongueHouse" "TongueHouse" "draft" "LTongueHouse$Text;", Cond.laysFinal "TongueHouse" "TongueHouse" "reader" "LTongueHouse$Reader;", Cond.laysFinal "TongueHouse" "TongueHouse" "chart" "LTongueHouse$Chart;", Cond.laysFinal "TongueHouse" "TongueHouse" "ranking" "LTongueHouse$Ranking;", Cond.laysFinal "TongueHouse" "TongueHouse" "sayer" "LTongueHouse$Sayer;", Cond.laysFinal "TongueHouse" "TongueHouse" "thought" "LTongueHouse$Thought;", Cond.laysFinal "TongueHouse" "TongueHouse" "finder" "LTongueHouse$Finder;", Cond.laysFinal "TongueHouse" "TongueHouse" "planted" "[[I", Cond.laysFinal "TongueHouse" "TongueHouse" "plantedSize" "[I", Cond.laysFinal "TongueHouse" "TongueHouse" "candidates" "[[B", Cond.laysFinal "TongueHouse" "TongueHouse" "candidateSize" "[I", Cond.lays "TongueHouse" "TongueHouse" "candidateCount" "I", Cond.laysFinal "TongueHouse" "TongueHouse" "changes" "[I", Cond.laysFinal "TongueHouse$Text" "TongueHouse$Text" "bytes" "[B", Cond.lays "TongueHouse$Text" "TongueHouse$Text" "size" "I", Cond.laysFinal "TongueHouse$Text" "TongueHouse$Text" "start" "[I", Cond.laysFinal "TongueHouse$Text" "TongueHouse$Text" "len" "[I", Cond.lays "TongueHouse$Text" "TongueHouse$Text" "words" "I", Cond.lays "TongueHouse$Text" "TongueHouse$Text" "at" "I", Cond.lays "TongueHouse$Text" "TongueHouse$Text" "next" "I", Cond.lays "TongueHouse$Text" "TongueHouse$Text" "type" "I", Cond.lays "TongueHouse$Text" "TongueHouse$Text" "value" "I", Cond.lays "TongueHouse$Text" "TongueHouse$Text" "name" "J", Cond.laysFinal "TongueHouse$Reader" "TongueHouse$Reader" "store" "LTongueHouse$Store;", Cond.laysFinal "TongueHouse$Reader" "TongueHouse$Reader" "tape" "LTongueHouse$Text;", Cond.lays "TongueHouse$Reader" "TongueHouse$Reader" "tongue" "LTongueHouse$Tongue;", Cond.lays "TongueHouse$Reader" "TongueHouse$Reader" "rule" "I"]
set_option maxRecDepth 100000 in
theorem pxb7_in : ∀ w ∈ pxb7, w ∈ lw_tbl := List.forall_mem_cons.mpr ⟨px12_210, List.forall_mem_cons.mpr ⟨px12_211, List.forall_mem_cons.mpr ⟨px12_212, List.forall_mem_cons.mpr ⟨px12_213, List.forall_mem_cons.mpr ⟨px12_214, List.forall_mem_cons.mpr ⟨px12_215, List.forall_mem_cons.mpr ⟨px12_216, List.forall_mem_cons.mpr ⟨px12_217, List.forall_mem_cons.mpr ⟨px12_218, List.forall_mem_cons.mpr ⟨px12_219, List.forall_mem_cons.mpr ⟨px12_220, List.forall_mem_cons.mpr ⟨px12_221, List.forall_mem_cons.mpr ⟨px12_222, List.forall_mem_cons.mpr ⟨px12_223, List.forall_mem_cons.mpr ⟨px12_224, List.forall_mem_cons.mpr ⟨px12_225, List.forall_mem_cons.mpr ⟨px12_226, List.forall_mem_cons.mpr ⟨px12_227, List.forall_mem_cons.mpr ⟨px12_228, List.forall_mem_cons.mpr ⟨px12_229, List.forall_mem_cons.mpr ⟨px12_230, List.forall_mem_cons.mpr ⟨px12_231, List.forall_mem_cons.mpr ⟨px12_232, List.forall_mem_cons.mpr ⟨px12_233, List.forall_mem_cons.mpr ⟨px12_234, List.forall_mem_cons.mpr ⟨px12_235, List.forall_mem_cons.mpr ⟨px12_236, List.forall_mem_cons.mpr ⟨px12_237, List.forall_mem_cons.mpr ⟨px12_238, List.forall_mem_cons.mpr ⟨px12_239, fun _ h => absurd h List.not_mem_nil⟩⟩⟩⟩⟩⟩⟩⟩⟩⟩⟩⟩⟩⟩⟩⟩⟩⟩⟩⟩⟩⟩⟩⟩⟩⟩⟩⟩⟩⟩
def pxb8 : List Cond := [Cond.lays "TongueHouse$Reader" "TongueHouse$Reader" "where" "I", Cond.lays "TongueHouse$Reader" "TongueHouse$Reader" "first" "I", Cond.lays "TongueHouse$Reader" "TongueHouse$Reader" "values" "I", Cond.lays "TongueHouse$Reader" "TongueHouse$Reader" "cost" "I", Cond.lays "TongueHouse$Reader" "TongueHouse$Reader" "cells" "I", Cond.laysFinal "TongueHouse$Reader" "TongueHouse$Reader" "cell" "[I", Cond.laysFinal "TongueHouse$Reader" "TongueHouse$Reader" "row" "[I", Cond.laysFinal "TongueHouse$Reader" "TongueHouse$Reader" "names" "[J", Cond.lays "TongueHouse$Reader" "TongueHouse$Reader" "termSize" "I", Cond.laysFinal "TongueHouse$Reader" "TongueHouse$Reader" "termOp" "[I", Cond.laysFinal "TongueHouse$Reader" "TongueHouse$Reader" "termName" "[J", Cond.lays "TongueHouse$Reader" "TongueHouse$Reader" "binders" "I", Cond.laysFinal "TongueHouse$Reader" "TongueHouse$Reader" "binder" "[J", Cond.laysFinal "TongueHouse$Reader" "TongueHouse$Reader" "opened" "[I", Cond.laysFinal "TongueHouse$Reader" "TongueHouse$Reader" "seen" "[I", Cond.laysFinal "TongueHouse$Chart" "TongueHouse$Chart" "store" "LTongueHouse$Store;", Cond.laysFinal "TongueHouse$Chart" "TongueHouse$Chart" "firstNode" "[I", Cond.laysFinal "TongueHouse$Chart" "TongueHouse$Chart" "nodeCount" "[I", Cond.lays "TongueHouse$Chart" "TongueHouse$Chart" "nodes" "I", Cond.laysFinal "TongueHouse$Chart" "TongueHouse$Chart" "nodeEnd" "[I", Cond.laysFinal "TongueHouse$Chart" "TongueHouse$Chart" "nodeValues" "[I", Cond.lays "TongueHouse$Chart" "TongueHouse$Chart" "ways" "I", Cond.laysFinal "TongueHouse$Chart" "TongueHouse$Chart" "wayNode" "[I", Cond.laysFinal "TongueHouse$Chart" "TongueHouse$Chart" "wayRule" "[I", Cond.laysFinal "TongueHouse$Chart" "TongueHouse$Chart" "wayArgs" "[I", Cond.lays "TongueHouse$Chart" "TongueHouse$Chart" "root" "I", Cond.lays "TongueHouse$Chart" "TongueHouse$Chart" "tries" "I", Cond.lays "TongueHouse$Chart" "TongueHouse$Chart" "over" "Z", Cond.lays "TongueHouse$Chart" "TongueHouse$Chart" "tongue" "LTongueHouse$Tongue;", Cond.lays "TongueHouse$Chart" "TongueHouse$Chart" "text" "LTongueHouse$Text;"]
set_option maxRecDepth 100000 in
theorem pxb8_in : ∀ w ∈ pxb8, w ∈ lw_tbl := List.forall_mem_cons.mpr ⟨px12_240, List.forall_mem_cons.mpr ⟨px12_241, List.forall_mem_cons.mpr ⟨px12_242, List.forall_mem_cons.mpr ⟨px12_243, List.forall_mem_cons.mpr ⟨px12_244, List.forall_mem_cons.mpr ⟨px12_245, List.forall_mem_cons.mpr ⟨px12_246, List.forall_mem_cons.mpr ⟨px12_247, List.forall_mem_cons.mpr ⟨px12_248, List.forall_mem_cons.mpr ⟨px12_249, List.forall_mem_cons.mpr ⟨px12_250, List.forall_mem_cons.mpr ⟨px12_251, List.forall_mem_cons.mpr ⟨px12_252, List.forall_mem_cons.mpr ⟨px12_253, List.forall_mem_cons.mpr ⟨px12_254, List.forall_mem_cons.mpr ⟨px12_255, List.forall_mem_cons.mpr ⟨px12_256, List.forall_mem_cons.mpr ⟨px12_257, List.forall_mem_cons.mpr ⟨px12_258, List.forall_mem_cons.mpr ⟨px12_259, List.forall_mem_cons.mpr ⟨px12_260, List.forall_mem_cons.mpr ⟨px12_261, List.forall_mem_cons.mpr ⟨px12_262, List.forall_mem_cons.mpr ⟨px12_263, List.forall_mem_cons.mpr ⟨px12_264, List.forall_mem_cons.mpr ⟨px12_265, List.forall_mem_cons.mpr ⟨px12_266, List.forall_mem_cons.mpr ⟨px12_267, List.forall_mem_cons.mpr ⟨px12_268, List.forall_mem_cons.mpr ⟨px12_269, fun _ h => absurd h List.not_mem_nil⟩⟩⟩⟩⟩⟩⟩⟩⟩⟩⟩⟩⟩⟩⟩⟩⟩⟩⟩⟩⟩⟩⟩⟩⟩⟩⟩⟩⟩⟩
def pxb9 : List Cond := [Cond.laysFinal "TongueHouse$Chart" "TongueHouse$Chart" "kindLins" "[I", Cond.laysFinal "TongueHouse$Chart" "TongueHouse$Chart" "linOrder" "[I", Cond.lays "TongueHouse$Chart" "TongueHouse$Chart" "spanFirst" "I", Cond.lays "TongueHouse$Chart" "TongueHouse$Chart" "spanEnd" "I", Cond.laysFinal "TongueHouse$Chart" "TongueHouse$Chart" "chosen" "[I", Cond.laysFinal "TongueHouse$Chart" "TongueHouse$Chart" "chosenValues" "[I", Cond.laysFinal "TongueHouse$Chart" "TongueHouse$Chart" "work" "[I", Cond.laysFinal "TongueHouse$Ranking" "TongueHouse$Ranking" "store" "LTongueHouse$Store;", Cond.laysFinal "TongueHouse$Ranking" "TongueHouse$Ranking" "chart" "LTongueHouse$Chart;", Cond.lays "TongueHouse$Ranking" "TongueHouse$Ranking" "tongue" "LTongueHouse$Tongue;", Cond.lays "TongueHouse$Ranking" "TongueHouse$Ranking" "isOpen" "Z", Cond.lays "TongueHouse$Ranking" "TongueHouse$Ranking" "ranked" "Z", Cond.laysFinal "TongueHouse$Ranking" "TongueHouse$Ranking" "barred" "[Z", Cond.laysFinal "TongueHouse$Ranking" "TongueHouse$Ranking" "treeCount" "[J", Cond.laysFinal "TongueHouse$Ranking" "TongueHouse$Ranking" "reached" "[Z", Cond.lays "TongueHouse$Ranking" "TongueHouse$Ranking" "orderSize" "I", Cond.lays "TongueHouse$Ranking" "TongueHouse$Ranking" "order" "[I", Cond.lays "TongueHouse$Ranking" "TongueHouse$Ranking" "spare" "[I", Cond.laysFinal "TongueHouse$Ranking" "TongueHouse$Ranking" "listSize" "[I", Cond.laysFinal "TongueHouse$Ranking" "TongueHouse$Ranking" "listPrice" "[I", Cond.laysFinal "TongueHouse$Ranking" "TongueHouse$Ranking" "listWay" "[I", Cond.laysFinal "TongueHouse$Ranking" "TongueHouse$Ranking" "listRanks" "[I", Cond.lays "TongueHouse$Ranking" "TongueHouse$Ranking" "topSize" "I", Cond.laysFinal "TongueHouse$Ranking" "TongueHouse$Ranking" "topPrice" "[I", Cond.laysFinal "TongueHouse$Ranking" "TongueHouse$Ranking" "topEntry" "[I", Cond.laysFinal "TongueHouse$Ranking" "TongueHouse$Ranking" "stack" "[I", Cond.laysFinal "TongueHouse$Sayer" "TongueHouse$Sayer" "store" "LTongueHouse$Store;", Cond.lays "TongueHouse$Sayer" "TongueHouse$Sayer" "tongue" "LTongueHouse$Tongue;", Cond.laysFinal "TongueHouse$Sayer" "TongueHouse$Sayer" "child" "[I", Cond.laysFinal "TongueHouse$Sayer" "TongueHouse$Sayer" "options" "[I"]
set_option maxRecDepth 100000 in
theorem pxb9_in : ∀ w ∈ pxb9, w ∈ lw_tbl := List.forall_mem_cons.mpr ⟨px12_270, List.forall_mem_cons.mpr ⟨px12_271, List.forall_mem_cons.mpr ⟨px12_272, List.forall_mem_cons.mpr ⟨px12_273, List.forall_mem_cons.mpr ⟨px12_274, List.forall_mem_cons.mpr ⟨px12_275, List.forall_mem_cons.mpr ⟨px12_276, List.forall_mem_cons.mpr ⟨px12_277, List.forall_mem_cons.mpr ⟨px12_278, List.forall_mem_cons.mpr ⟨px12_279, List.forall_mem_cons.mpr ⟨px12_280, List.forall_mem_cons.mpr ⟨px12_281, List.forall_mem_cons.mpr ⟨px12_282, List.forall_mem_cons.mpr ⟨px12_283, List.forall_mem_cons.mpr ⟨px12_284, List.forall_mem_cons.mpr ⟨px12_285, List.forall_mem_cons.mpr ⟨px12_286, List.forall_mem_cons.mpr ⟨px12_287, List.forall_mem_cons.mpr ⟨px12_288, List.forall_mem_cons.mpr ⟨px12_289, List.forall_mem_cons.mpr ⟨px12_290, List.forall_mem_cons.mpr ⟨px12_291, List.forall_mem_cons.mpr ⟨px12_292, List.forall_mem_cons.mpr ⟨px12_293, List.forall_mem_cons.mpr ⟨px12_294, List.forall_mem_cons.mpr ⟨px12_295, List.forall_mem_cons.mpr ⟨px12_296, List.forall_mem_cons.mpr ⟨px12_297, List.forall_mem_cons.mpr ⟨px12_298, List.forall_mem_cons.mpr ⟨px12_299, fun _ h => absurd h List.not_mem_nil⟩⟩⟩⟩⟩⟩⟩⟩⟩⟩⟩⟩⟩⟩⟩⟩⟩⟩⟩⟩⟩⟩⟩⟩⟩⟩⟩⟩⟩⟩
def pxb10 : List Cond := [Cond.laysFinal "TongueHouse$Sayer" "TongueHouse$Sayer" "cost" "[I", Cond.laysFinal "TongueHouse$Sayer" "TongueHouse$Sayer" "values" "[I", Cond.laysFinal "TongueHouse$Sayer" "TongueHouse$Sayer" "length" "[I", Cond.laysFinal "TongueHouse$Sayer" "TongueHouse$Sayer" "rule" "[I", Cond.laysFinal "TongueHouse$Sayer" "TongueHouse$Sayer" "picks" "[I", Cond.lays "TongueHouse$Sayer" "TongueHouse$Sayer" "at" "I", Cond.laysFinal "TongueHouse$Sayer" "TongueHouse$Sayer" "picked" "[I", Cond.laysFinal "TongueHouse$Sayer" "TongueHouse$Sayer" "work" "[I", Cond.laysFinal "TongueHouse$Sayer" "TongueHouse$Sayer" "openEntry" "[I", Cond.laysFinal "TongueHouse$Sayer" "TongueHouse$Sayer" "openItem" "[I", Cond.laysFinal "TongueHouse$Thought" "TongueHouse$Thought" "store" "LTongueHouse$Store;", Cond.lays "TongueHouse$Thought" "TongueHouse$Thought" "size" "I", Cond.lays "TongueHouse$Thought" "TongueHouse$Thought" "op" "[I", Cond.lays "TongueHouse$Thought" "TongueHouse$Thought" "name" "[J", Cond.lays "TongueHouse$Thought" "TongueHouse$Thought" "nextOp" "[I", Cond.lays "TongueHouse$Thought" "TongueHouse$Thought" "nextName" "[J", Cond.laysFinal "TongueHouse$Thought" "TongueHouse$Thought" "child" "[I", Cond.laysFinal "TongueHouse$Thought" "TongueHouse$Thought" "stack" "[I", Cond.laysFinal "TongueHouse$Thought" "TongueHouse$Thought" "inner" "[I", Cond.lays "TongueHouse$Thought" "TongueHouse$Thought" "open" "I", Cond.laysFinal "TongueHouse$Thought" "TongueHouse$Thought" "openName" "[J", Cond.laysFinal "TongueHouse$Thought" "TongueHouse$Thought" "openPart" "[I", Cond.laysFinal "TongueHouse$Thought" "TongueHouse$Thought" "openSeen" "[I", Cond.laysFinal "TongueHouse$Thought" "TongueHouse$Thought" "openValue" "[I", Cond.laysFinal "TongueHouse$Thought" "TongueHouse$Thought" "openLevel" "[I", Cond.laysFinal "TongueHouse$Thought" "TongueHouse$Thought" "thing" "[I", Cond.lays "TongueHouse$Thought" "TongueHouse$Thought" "at" "I", Cond.lays "TongueHouse$Thought" "TongueHouse$Thought" "level" "I", Cond.lays "TongueHouse$Thought" "TongueHouse$Thought" "astray" "Z", Cond.laysFinal "TongueHouse$Finder" "TongueHouse$Finder" "store" "LTongueHouse$Store;"]
set_option maxRecDepth 100000 in
theorem pxb10_in : ∀ w ∈ pxb10, w ∈ lw_tbl := List.forall_mem_cons.mpr ⟨px12_300, List.forall_mem_cons.mpr ⟨px12_301, List.forall_mem_cons.mpr ⟨px12_302, List.forall_mem_cons.mpr ⟨px12_303, List.forall_mem_cons.mpr ⟨px12_304, List.forall_mem_cons.mpr ⟨px12_305, List.forall_mem_cons.mpr ⟨px12_306, List.forall_mem_cons.mpr ⟨px12_307, List.forall_mem_cons.mpr ⟨px12_308, List.forall_mem_cons.mpr ⟨px12_309, List.forall_mem_cons.mpr ⟨px12_310, List.forall_mem_cons.mpr ⟨px12_311, List.forall_mem_cons.mpr ⟨px12_312, List.forall_mem_cons.mpr ⟨px12_313, List.forall_mem_cons.mpr ⟨px12_314, List.forall_mem_cons.mpr ⟨px12_315, List.forall_mem_cons.mpr ⟨px12_316, List.forall_mem_cons.mpr ⟨px12_317, List.forall_mem_cons.mpr ⟨px12_318, List.forall_mem_cons.mpr ⟨px12_319, List.forall_mem_cons.mpr ⟨px12_320, List.forall_mem_cons.mpr ⟨px12_321, List.forall_mem_cons.mpr ⟨px12_322, List.forall_mem_cons.mpr ⟨px12_323, List.forall_mem_cons.mpr ⟨px12_324, List.forall_mem_cons.mpr ⟨px12_325, List.forall_mem_cons.mpr ⟨px12_326, List.forall_mem_cons.mpr ⟨px12_327, List.forall_mem_cons.mpr ⟨px12_328, List.forall_mem_cons.mpr ⟨px12_329, fun _ h => absurd h List.not_mem_nil⟩⟩⟩⟩⟩⟩⟩⟩⟩⟩⟩⟩⟩⟩⟩⟩⟩⟩⟩⟩⟩⟩⟩⟩⟩⟩⟩⟩⟩⟩
def pxb11 : List Cond := [Cond.lays "TongueHouse$Finder" "TongueHouse$Finder" "analysisTongue" "I", Cond.lays "TongueHouse$Finder" "TongueHouse$Finder" "analyses" "I", Cond.laysFinal "TongueHouse$Finder" "TongueHouse$Finder" "analysed" "[I", Cond.lays "TongueHouse$Finder" "TongueHouse$Finder" "guesses" "I", Cond.laysFinal "TongueHouse$Finder" "TongueHouse$Finder" "guessPattern" "[I", Cond.laysFinal "TongueHouse$Finder" "TongueHouse$Finder" "guessForms" "[I", Cond.lays "TongueHouse$Finder" "TongueHouse$Finder" "guessTotal" "I", Cond.lays "TongueHouse$Finder" "TongueHouse$Finder" "guessEnding" "I", Cond.lays "TongueHouse$Finder" "TongueHouse$Finder" "collected" "I", Cond.laysFinal "TongueHouse$Finder" "TongueHouse$Finder" "sentence" "[[B", Cond.laysFinal "TongueHouse$Finder" "TongueHouse$Finder" "sentenceTongue" "[I", Cond.laysFinal "TongueHouse$Finder" "TongueHouse$Finder" "words" "LTongueHouse$Text;", Cond.laysFinal "TongueHouse$Finder" "TongueHouse$Finder" "wordKinds" "[I", Cond.lays "TongueHouse$Finder" "TongueHouse$Finder" "hits" "I", Cond.laysFinal "TongueHouse$Finder" "TongueHouse$Finder" "hitSentence" "[I", Cond.laysFinal "TongueHouse$Finder" "TongueHouse$Finder" "hitWord" "[I", Cond.lays "TongueHouse$Finder" "TongueHouse$Finder" "asked" "I", Cond.laysFinal "TongueHouse$Finder" "TongueHouse$Finder" "question" "[I", Cond.laysFinal "TongueHouse$Names" "TongueHouse$Names" "name" "[J", Cond.lays "TongueHouse$Names" "TongueHouse$Names" "size" "I"]
set_option maxRecDepth 100000 in
theorem pxb11_in : ∀ w ∈ pxb11, w ∈ lw_tbl := List.forall_mem_cons.mpr ⟨px12_330, List.forall_mem_cons.mpr ⟨px12_331, List.forall_mem_cons.mpr ⟨px12_332, List.forall_mem_cons.mpr ⟨px12_333, List.forall_mem_cons.mpr ⟨px12_334, List.forall_mem_cons.mpr ⟨px12_335, List.forall_mem_cons.mpr ⟨px12_336, List.forall_mem_cons.mpr ⟨px12_337, List.forall_mem_cons.mpr ⟨px12_338, List.forall_mem_cons.mpr ⟨px12_339, List.forall_mem_cons.mpr ⟨px12_340, List.forall_mem_cons.mpr ⟨px12_341, List.forall_mem_cons.mpr ⟨px12_342, List.forall_mem_cons.mpr ⟨px12_343, List.forall_mem_cons.mpr ⟨px12_344, List.forall_mem_cons.mpr ⟨px12_345, List.forall_mem_cons.mpr ⟨px12_346, List.forall_mem_cons.mpr ⟨px12_347, List.forall_mem_cons.mpr ⟨px12_348, List.forall_mem_cons.mpr ⟨px12_349, fun _ h => absurd h List.not_mem_nil⟩⟩⟩⟩⟩⟩⟩⟩⟩⟩⟩⟩⟩⟩⟩⟩⟩⟩⟩⟩
set_option maxRecDepth 100000 in
theorem pxb_split : wsX12_init = pxb0 ++ (pxb1 ++ (pxb2 ++ (pxb3 ++ (pxb4 ++ (pxb5 ++ (pxb6 ++ (pxb7 ++ (pxb8 ++ (pxb9 ++ (pxb10 ++ (pxb11))))))))))) := rfl
theorem pxb_all : ∀ w ∈ wsX12_init, w ∈ lw_tbl := by
  rw [pxb_split]
  exact List.forall_mem_append.mpr ⟨pxb0_in, List.forall_mem_append.mpr ⟨pxb1_in, List.forall_mem_append.mpr ⟨pxb2_in, List.forall_mem_append.mpr ⟨pxb3_in, List.forall_mem_append.mpr ⟨pxb4_in, List.forall_mem_append.mpr ⟨pxb5_in, List.forall_mem_append.mpr ⟨pxb6_in, List.forall_mem_append.mpr ⟨pxb7_in, List.forall_mem_append.mpr ⟨pxb8_in, List.forall_mem_append.mpr ⟨pxb9_in, List.forall_mem_append.mpr ⟨pxb10_in, pxb11_in⟩⟩⟩⟩⟩⟩⟩⟩⟩⟩⟩
theorem pl_X12 : GoodIn lw_tbl wsX12_init := goodIn_sub pxb_all (by decide +kernel)
set_option maxRecDepth 100000 in
theorem pl_u2 : GoodIn lw_tbl (u_ws RX2 TX2 10) := goodIn_r _ [1011, 1013, 1015, 1017, 1019, 1021, 1023, 1025, 1027, 1029] (by decide +kernel) (by decide +kernel)
set_option maxRecDepth 100000 in
theorem pl_u3 : GoodIn lw_tbl (u_ws RX3 TX3 16) := goodIn_r _ [1327, 1329, 1331, 1333, 1335, 1337, 1339, 1341, 1343, 1345, 1347, 1349, 1351, 1353, 1355, 1357] (by decide +kernel) (by decide +kernel)
set_option maxRecDepth 100000 in
theorem pl_u7 : GoodIn lw_tbl (u_ws RX7 TX7 14) := goodIn_r _ [674, 676, 678, 680, 682, 684, 686, 688, 690, 692, 694, 696, 698, 700] (by decide +kernel) (by decide +kernel)
set_option maxRecDepth 100000 in
theorem pl_u10 : GoodIn lw_tbl (u_ws RX10 TX10 19) := goodIn_r _ [728, 730, 732, 734, 736, 738, 740, 742, 744, 746, 748, 750, 752, 754, 756, 758, 760, 762, 764] (by decide +kernel) (by decide +kernel)
set_option maxRecDepth 100000 in
theorem pl_u11 : GoodIn lw_tbl (u_ws RX11 TX11 16) := goodIn_r _ [1082, 1084, 1086, 1088, 1090, 1092, 1094, 1096, 1098, 1100, 1102, 1104, 1106, 1108, 1110, 1112] (by decide +kernel) (by decide +kernel)
theorem pt1 : Cond.instantiable RX0 22 ∈ lw_tbl := pk_t2 _ (List.mem_of_getElem? (i := 59) rfl)
theorem pt2 : Cond.instantiable RX1 19 ∈ lw_tbl := pk_t3 _ (List.mem_of_getElem? (i := 84) rfl)
theorem pt3 : Cond.instantiable RX2 10 ∈ lw_tbl := pk_t4 _ (List.mem_of_getElem? (i := 60) rfl)
theorem pt4 : Cond.instantiable RX3 16 ∈ lw_tbl := pk_t5 _ (List.mem_of_getElem? (i := 107) rfl)
theorem pt5 : Cond.instantiable RX4 2 ∈ lw_tbl := pk_t1 _ (List.mem_of_getElem? (i := 43) rfl)
theorem pt6 : Cond.instantiable RX5 19 ∈ lw_tbl := pk_t2 _ (List.mem_of_getElem? (i := 145) rfl)
theorem pt7 : Cond.instantiable RX6 19 ∈ lw_tbl := pk_t1 _ (List.mem_of_getElem? (i := 233) rfl)
theorem pt8 : Cond.instantiable RX7 14 ∈ lw_tbl := pk_t2 _ (List.mem_of_getElem? (i := 211) rfl)
theorem pt9 : Cond.instantiable RX8 21 ∈ lw_tbl := pk_t1 _ (List.mem_of_getElem? (i := 37) rfl)
theorem pt10 : Cond.instantiable RX9 10 ∈ lw_tbl := pk_t1 _ (List.mem_of_getElem? (i := 171) rfl)
theorem pt11 : Cond.instantiable RX10 19 ∈ lw_tbl := pk_t3 _ (List.mem_of_getElem? (i := 20) rfl)
theorem pt12 : Cond.instantiable RX11 16 ∈ lw_tbl := pk_t4 _ (List.mem_of_getElem? (i := 50) rfl)
theorem pt13 : Cond.instantiable RX12 17 ∈ lw_tbl := pk_t1 _ (List.mem_of_getElem? (i := 29) rfl)
theorem pt14 : Cond.instantiable RX13 229 ∈ lw_tbl := pk_t9 _ (List.mem_of_getElem? (i := 84) rfl)
theorem pt15 : Cond.arrayClass .byte ∈ lw_tbl := pk_t1 _ (List.mem_of_getElem? (i := 169) rfl)
theorem pt16 : Cond.arrayClass .int ∈ lw_tbl := pk_t1 _ (List.mem_of_getElem? (i := 168) rfl)
theorem pt17 : Cond.arrayClass .long ∈ lw_tbl := pk_t1 _ (List.mem_of_getElem? (i := 63) rfl)
theorem pt18 : Cond.arrayClass .boolean ∈ lw_tbl := pk_t2 _ (List.mem_of_getElem? (i := 209) rfl)
theorem pt19 : Cond.arrayOver (.object RX3) ∈ lw_tbl := pk_t4 _ (List.mem_of_getElem? (i := 58) rfl)
theorem pt20 : Cond.arrayOver (.object RX11) ∈ lw_tbl := pk_t1 _ (List.mem_of_getElem? (i := 65) rfl)
theorem pt21 : Cond.arrayOver (.array .byte) ∈ lw_tbl := pk_t3 _ (List.mem_of_getElem? (i := 90) rfl)
theorem pt22 : Cond.arrayOver (.array .int) ∈ lw_tbl := pk_t3 _ (List.mem_of_getElem? (i := 153) rfl)
theorem pt23 : Cond.methodLinkNest RX12 11 yX8_init RX12 ∈ lw_tbl := pk_t1 _ (List.mem_of_getElem? (i := 38) rfl)
theorem pt24 : Cond.methodLinkNest RX12 18 yX9_init RX12 ∈ lw_tbl := pk_t1 _ (List.mem_of_getElem? (i := 172) rfl)
theorem pt25 : Cond.methodLinkNest RX1 32 yX9_init RX12 ∈ lw_tbl := pk_t3 _ (List.mem_of_getElem? (i := 92) rfl)
theorem pt26 : Cond.methodLinkNest RX6 361 yX3_init RX12 ∈ lw_tbl := pk_t5 _ (List.mem_of_getElem? (i := 108) rfl)
set_option maxHeartbeats 4000000 in
theorem lc_G {s : State} {args : Array Value} (hts : ∀ w ∈ lw_tbl, w.before args s = true) : ∃ (D : va_G) (cy : Nat → ClassId), pw_G D cy s := by
  obtain ⟨c0, i0, k0⟩ := u_known (C := RX0) (T := TX0) (N := 22) (n := 22) hts (fun w h => (pl_u0 w h).1) (hts _ pt1)
  obtain ⟨c1, i1, k1⟩ := u_known (C := RX1) (T := TX1) (N := 19) (n := 19) hts (fun w h => (pl_u1 w h).1) (hts _ pt2)
  obtain ⟨c2, i2, k2⟩ := u_known (C := RX2) (T := TX2) (N := 10) (n := 10) hts (fun w h => (pl_u2 w h).1) (hts _ pt3)
  obtain ⟨c3, i3, k3⟩ := u_known (C := RX3) (T := TX3) (N := 16) (n := 16) hts (fun w h => (pl_u3 w h).1) (hts _ pt4)
  obtain ⟨c4, i4, k4⟩ := u_known (C := RX4) (T := TX4) (N := 2) (n := 2) hts (fun w h => (pl_u4 w h).1) (hts _ pt5)
  obtain ⟨c5, i5, k5⟩ := u_known (C := RX5) (T := TX5) (N := 19) (n := 19) hts (fun w h => (pl_u5 w h).1) (hts _ pt6)
  obtain ⟨c6, i6, k6⟩ := u_known (C := RX6) (T := TX6) (N := 19) (n := 19) hts (fun w h => (pl_u6 w h).1) (hts _ pt7)
  obtain ⟨c7, i7, k7⟩ := u_known (C := RX7) (T := TX7) (N := 14) (n := 14) hts (fun w h => (pl_u7 w h).1) (hts _ pt8)
  obtain ⟨c8, i8, k8⟩ := u_known (C := RX8) (T := TX8) (N := 21) (n := 21) hts (fun w h => (pl_u8 w h).1) (hts _ pt9)
  obtain ⟨c9, i9, k9⟩ := u_known (C := RX9) (T := TX9) (N := 10) (n := 10) hts (fun w h => (pl_u9 w h).1) (hts _ pt10)
  obtain ⟨c10, i10, k10⟩ := u_known (C := RX10) (T := TX10) (N := 19) (n := 19) hts (fun w h => (pl_u10 w h).1) (hts _ pt11)
  obtain ⟨c11, i11, k11⟩ := u_known (C := RX11) (T := TX11) (N := 16) (n := 16) hts (fun w h => (pl_u11 w h).1) (hts _ pt12)
  obtain ⟨c12, i12, k12⟩ := u_known (C := RX12) (T := TX12) (N := 17) (n := 17) hts (fun w h => (pl_u12 w h).1) (hts _ pt13)
  obtain ⟨c13, i13, k13⟩ := u_known (C := RX13) (T := TX13) (N := 229) (n := 229) hts (fun w h => (pl_u13 w h).1) (hts _ pt14)
  obtain ⟨a0, ka0, co0, fa0, ga0, ha0⟩ := Cond.arrayClass_spec (hts _ pt15)
  obtain ⟨a1, ka1, co1, fa1, ga1, ha1⟩ := Cond.arrayClass_spec (hts _ pt16)
  obtain ⟨a2, ka2, co2, fa2, ga2, ha2⟩ := Cond.arrayClass_spec (hts _ pt17)
  obtain ⟨a3, ka3, co3, fa3, ga3, ha3⟩ := Cond.arrayClass_spec (hts _ pt18)
  obtain ⟨co4, a4, ka4, fc4, -, ga4, ha4, fa4⟩ := Cond.arrayOver_spec (hts _ pt19)
  obtain ⟨co5, a5, ka5, fc5, -, ga5, ha5, fa5⟩ := Cond.arrayOver_spec (hts _ pt20)
  obtain ⟨co6, a6, ka6, fc6, -, ga6, ha6, fa6⟩ := arrayOverA_spec (hts _ pt21)
  obtain ⟨co7, a7, ka7, fc7, -, ga7, ha7, fa7⟩ := arrayOverA_spec (hts _ pt22)
  refine ⟨(fun k => [c0, c1, c2, c3, c4, c5, c6, c7, c8, c9, c10, c11, c12, c13].getD k 0, fun k => [i0, i1, i2, i3, i4, i5, i6, i7, i8, i9, i10, i11, i12, i13].getD k (fun _ => 0)), fun k => [a0, a1, a2, a3, a4, a5, a6, a7].getD k 0, ⟨?_, ?_⟩, ⟨va_Nw.of rfl (hts _ pt23), va_Nw.of rfl (hts _ pt24), va_Nw.of rfl (hts _ pt25), va_Nw.of rfl (hts _ pt26)⟩, va_AO.of (hts _ pt19), va_AO.of (hts _ pt20), hts _ pt21, hts _ pt22⟩
  · intro k q hq
    match k, hq with
    | 0, hq => cases hq; exact k0
    | 1, hq => cases hq; exact k1
    | 2, hq => cases hq; exact k2
    | 3, hq => cases hq; exact k3
    | 4, hq => cases hq; exact k4
    | 5, hq => cases hq; exact k5
    | 6, hq => cases hq; exact k6
    | 7, hq => cases hq; exact k7
    | 8, hq => cases hq; exact k8
    | 9, hq => cases hq; exact k9
    | 10, hq => cases hq; exact k10
    | 11, hq => cases hq; exact k11
    | 12, hq => cases hq; exact k12
    | 13, hq => cases hq; exact k13
    | k + 14, hq => simp [vwCl] at hq
  · intro k q hq
    match k, hq with
    | 0, hq => cases hq; exact ⟨fun n z => ⟨fun k h => (by cases h), ka0, ga0, co0, ha0⟩, fa0⟩
    | 1, hq => cases hq; exact ⟨fun n z => ⟨fun k h => (by cases h), ka1, ga1, co1, ha1⟩, fa1⟩
    | 2, hq => cases hq; exact ⟨fun n z => ⟨fun k h => (by cases h), ka2, ga2, co2, ha2⟩, fa2⟩
    | 3, hq => cases hq; exact ⟨fun n z => ⟨fun k h => (by cases h), ka3, ga3, co3, ha3⟩, fa3⟩
    | 4, hq => cases hq; exact ⟨fun n z => ⟨fun k h => (by cases h), ka4, ga4, co4, ha4⟩, ⟨ka4, co4, ga4, ha4, fc4, fa4⟩⟩
    | 5, hq => cases hq; exact ⟨fun n z => ⟨fun k h => (by cases h), ka5, ga5, co5, ha5⟩, ⟨ka5, co5, ga5, ha5, fc5, fa5⟩⟩
    | 6, hq => cases hq; exact ⟨fun n z => ⟨fun k h => (by cases h), ka6, ga6, co6, ha6⟩, fa6⟩
    | 7, hq => cases hq; exact ⟨fun n z => ⟨fun k h => (by cases h), ka7, ga7, co7, ha7⟩, fa7⟩
    | k + 8, hq => simp [pw_T] at hq
def ps_byt (k : Nat) : List Int32 := match k with
  | 197 => [116, 111, 110, 103, 117, 101]
  | 207 => [107, 105, 110, 100]
  | 212 => [102, 117, 110]
  | 217 => [102, 101, 97, 116, 117, 114, 101]
  | 222 => [108, 101, 116, 116, 101, 114, 115]
  | 227 => [115, 111, 117, 110, 100]
  | 232 => [112, 97, 116, 116, 101, 114, 110]
  | 237 => [119, 111, 114, 100]
  | 241 => [108, 105, 110]
  | 246 => [109, 101, 97, 110]
  | 251 => [116, 104, 105, 110, 103]
  | 256 => [102, 97, 99, 116]
  | 261 => [99, 111, 115, 116]
  | 266 => [104, 97, 115]
  | 271 => [111, 102]
  | 276 => [97, 103, 114, 101, 101]
  | 281 => [103, 105, 118, 101]
  | 541 => [97, 110, 100]
  | 546 => [111, 114]
  | 551 => [105, 102]
  | 556 => [110, 111, 116]
  | 561 => [97, 108, 108]
  | 566 => [115, 111, 109, 101]
  | 571 => [105, 115]
  | _ => []
def lc_flat : List Cond := flatC (Jvm.Cond.and given_1 narrow_1)
set_option maxRecDepth 100000 in
theorem ps1 : ∀ x ∈ ps_strs, Cond.exactly (.string RX13 x.1) "java/lang/String" ∈ lc_flat := by decide +kernel
set_option maxRecDepth 100000 in
theorem ps2 : ∀ x ∈ ps_strs, Cond.eq (.field (.string RX13 x.1) "java/lang/String" "coder" "B") (.int 0) ∈ lc_flat := by decide +kernel
set_option maxRecDepth 100000 in
theorem ps3 : ∀ x ∈ ps_strs, Cond.arrayOf (.field (.string RX13 x.1) "java/lang/String" "value" "[B") .byte ∈ lc_flat := by decide +kernel
set_option maxRecDepth 100000 in
theorem ps4 : ∀ x ∈ ps_strs, Cond.eq (.length (.field (.string RX13 x.1) "java/lang/String" "value" "[B")) (.int (Int32.ofNat x.2.2)) ∈ lc_flat := by decide +kernel
set_option maxRecDepth 100000 in
theorem ps5 : ∀ x ∈ ps_strs, ∀ j, j < x.2.2 → Cond.eq (.elem (.field (.string RX13 x.1) "java/lang/String" "value" "[B") (.int (Int32.ofNat j))) (.int ((ps_byt x.1).getD j 0)) ∈ lc_flat := by decide +kernel
set_option maxRecDepth 100000 in
theorem ps6 : ∀ x ∈ ps_strs, Cond.stringRef RX13 x.1 x.2.1 ∈ lw_tbl := by decide +kernel
set_option maxRecDepth 100000 in
theorem ps7 : ∀ x ∈ ps_strs, x.2.2 < 2 ^ 31 := by decide +kernel
theorem ps8 : ∀ x ∈ ps_strs, ∀ y ∈ ps_strs, x.1 = y.1 → x = y := by decide +kernel
set_option maxRecDepth 100000 in
theorem px1 : ∀ x ∈ px_strs, Cond.exactly (.string RX12 x.1) "java/lang/String" ∈ lc_flat := by decide +kernel
set_option maxRecDepth 100000 in
theorem px2 : ∀ x ∈ px_strs, Cond.stringRef RX12 x.1 x.2 ∈ lw_tbl := by decide +kernel
theorem px8 : ∀ x ∈ px_strs, ∀ y ∈ px_strs, x.1 = y.1 → x = y := by decide +kernel
theorem pt27 : Cond.laysStatic "java/lang/Throwable" "UNASSIGNED_STACK" "[Ljava/lang/StackTraceElement;" ∈ lw_tbl := pk_t6 _ (List.mem_of_getElem? (i := 135) rfl)
theorem pt28 : Cond.laysStatic "java/lang/Throwable" "SUPPRESSED_SENTINEL" "Ljava/util/List;" ∈ lw_tbl := pk_t6 _ (List.mem_of_getElem? (i := 137) rfl)
theorem pt29 : Cond.laysStatic "java/lang/String" "COMPACT_STRINGS" "Z" ∈ lw_tbl := pk_t9 _ (List.mem_of_getElem? (i := 104) rfl)
theorem pt30 : Cond.laysStatic "jdk/internal/util/Preconditions" "SIOOBE_FORMATTER" "Ljava/util/function/BiFunction;" ∈ lw_tbl := pk_t9 _ (List.mem_of_getElem? (i := 120) rfl)
theorem pt31 : Cond.initialized "java/lang/Throwable" ∈ lw_tbl := pk_t1 _ (List.mem_of_getElem? (i := 16) rfl)
theorem pt32 : Cond.initialized "java/lang/String" ∈ lw_tbl := pk_t1 _ (List.mem_of_getElem? (i := 12) rfl)
theorem pt33 : Cond.initialized "jdk/internal/util/Preconditions" ∈ lw_tbl := pk_t1 _ (List.mem_of_getElem? (i := 14) rfl)
set_option maxRecDepth 100000 in
theorem pf0 : Cond.isRef (.static "java/lang/Throwable" "UNASSIGNED_STACK" "[Ljava/lang/StackTraceElement;") ∈ lc_flat := by decide +kernel
set_option maxRecDepth 100000 in
theorem pf1 : Cond.isRef (.static "java/lang/Throwable" "SUPPRESSED_SENTINEL" "Ljava/util/List;") ∈ lc_flat := by decide +kernel
set_option maxRecDepth 100000 in
theorem pf2 : Cond.eq (.static "java/lang/String" "COMPACT_STRINGS" "Z") (.int 1) ∈ lc_flat := by decide +kernel
set_option maxRecDepth 100000 in
theorem pf3 : Cond.isRef (.static "jdk/internal/util/Preconditions" "SIOOBE_FORMATTER" "Ljava/util/function/BiFunction;") ∈ lc_flat := by decide +kernel
theorem pt34 : Cond.castable "java/lang/IllegalArgumentException" "java/lang/IllegalArgumentException" ∈ lw_tbl := pk_t6 _ (List.mem_of_getElem? (i := 188) rfl)
theorem pt35 : Cond.castable "java/lang/IllegalStateException" "java/lang/IllegalStateException" ∈ lw_tbl := pk_t6 _ (List.mem_of_getElem? (i := 110) rfl)
theorem pt36 : Cond.declares ⟨"java/lang/RuntimeException", "<init>", "(Ljava/lang/String;)V"⟩ ∈ lw_tbl := pk_t6 _ (List.mem_of_getElem? (i := 112) rfl)
theorem pt37 : Cond.declares ⟨"java/lang/Exception", "<init>", "(Ljava/lang/String;)V"⟩ ∈ lw_tbl := pk_t6 _ (List.mem_of_getElem? (i := 114) rfl)
theorem pt38 : Cond.declares ⟨"java/lang/Throwable", "<init>", "(Ljava/lang/String;)V"⟩ ∈ lw_tbl := pk_t6 _ (List.mem_of_getElem? (i := 116) rfl)
theorem lc_pick {α : Type} {P : α → Nat → Prop} {key : α → Nat} (xs : List α) (hu : ∀ x ∈ xs, ∀ y ∈ xs, key x = key y → x = y) (h : ∀ x ∈ xs, ∃ q, P x q) : ∃ sa : Nat → Nat, ∀ x ∈ xs, P x (sa (key x)) := by
  have h0 : ∀ i : Nat, ∃ q : Nat, ∀ x ∈ xs, key x = i → P x q := fun i => by
    by_cases hi : ∃ x ∈ xs, key x = i
    · obtain ⟨x, hx, hxi⟩ := hi
      obtain ⟨q, hq⟩ := h x hx
      exact ⟨q, fun y hy hyi => by rw [hu y hy x hx (hyi.trans hxi.symm)]; exact hq⟩
    · exact ⟨0, fun x hx hxi => absurd ⟨x, hx, hxi⟩ hi⟩
  obtain ⟨sa, hsa⟩ := Classical.axiomOfChoice h0
  exact ⟨sa, fun x hx => hsa (key x) x hx rfl⟩
theorem lc_Xs {s : State} {args : Array Value} (hts : ∀ w ∈ lw_tbl, w.before args s = true) (hfl : ∀ w ∈ lc_flat, w.before args s = true) : ∃ sa : Nat → Nat, px_X sa (fun q : Nat => s.heap.size ≤ q) s s.heap := by
  have hA : ∀ a : Nat, a < s.heap.size → ¬ (fun q : Nat => s.heap.size ≤ q) a := fun a h => Nat.not_le.mpr h
  obtain ⟨sa, hsa⟩ := lc_pick (P := fun (x : Nat × String) q => vk_R RX12 x.1 x.2 q s) (key := fun x => x.1) px_strs px8 (fun x hx => by
    obtain ⟨a, c, cA, kA, q1, -⟩ := Cond.exactly_spec (args := args) (first := s) (o := none) (s := s) (idx := []) (t := .string RX12 x.1) (cls := "java/lang/String") (hfl _ (px1 x hx))
    exact ⟨a, vk_R.of (hts _ (px2 x hx)) q1⟩)
  exact ⟨sa, hsa, ⟨va_Nw.of rfl (hts _ pt34), va_Nw.of rfl (hts _ pt35), va_Nw.of rfl (hts _ pt36), va_Nw.of rfl (hts _ pt37), va_Nw.of rfl (hts _ pt38)⟩, vx_Zqof (hts _ pt27) (hts _ pt31) (hfl _ pf0) hA, vx_Zqof (hts _ pt28) (hts _ pt31) (hfl _ pf1) hA⟩
theorem lc_Zs {s : State} {args : Array Value} (hts : ∀ w ∈ lw_tbl, w.before args s = true) (hfl : ∀ w ∈ lc_flat, w.before args s = true) : ∃ qa va : Nat → Nat, ps_X qa va (fun q : Nat => s.heap.size ≤ q) s s.heap := by
  have hA : ∀ a : Nat, a < s.heap.size → ¬ (fun q : Nat => s.heap.size ≤ q) a := fun a h => Nat.not_le.mpr h
  have hZ1 : va_Z "java/lang/String" "COMPACT_STRINGS" "Z" (.int 1) (fun q : Nat => s.heap.size ≤ q) s s.heap := va_Zof (hts _ pt29) (hts _ pt32) (va_eqi (hfl _ pf2)) hA
  have hZ2 : va_Zq "jdk/internal/util/Preconditions" "SIOOBE_FORMATTER" "Ljava/util/function/BiFunction;" (fun q : Nat => s.heap.size ≤ q) s s.heap := va_Zqof (hts _ pt30) (hts _ pt33) (hfl _ pf3) hA
  obtain ⟨qa, hqa⟩ := lc_pick (P := fun (x : Nat × String × Nat) q => vk_R RX13 x.1 x.2.1 q s ∧ ∃ v b, py_S q v x.2.2 b (fun q : Nat => s.heap.size ≤ q) s s.heap) (key := fun x => x.1) ps_strs ps8 (fun x hx => by
    obtain ⟨a, c, cA, kA, q1, q2, q3, q4, q5, q6, -⟩ := Cond.exactly_spec (args := args) (first := s) (o := none) (s := s) (idx := []) (t := .string RX13 x.1) (cls := "java/lang/String") (hfl _ (ps1 x hx))
    obtain ⟨t, ht, hT⟩ := va_Tof (f := fun j => .int ((ps_byt x.1).getD j 0)) (A := fun q : Nat => s.heap.size ≤ q) (ps7 x hx) (hfl _ (ps3 x hx)) (va_eqt (hfl _ (ps4 x hx))) (fun j hj => va_eqt (hfl _ (ps5 x hx j hj))) hA
    exact ⟨a, vk_R.of (hts _ (ps6 x hx)) q1, t, fun j => (ps_byt x.1).getD j 0, ⟨cA, q3, q5, by rw [q6]; exact q2, hA a (Array.getElem?_eq_some_iff.mp q3).1⟩, vk_OFof q1 (va_eqt (hfl _ (ps2 x hx))) hA, vk_OFof q1 ht hA, hT, hZ1, hZ2⟩)
  obtain ⟨va, hva⟩ := lc_pick (P := fun (x : Nat × String × Nat) v => ∃ b, py_S (qa x.1) v x.2.2 b (fun q : Nat => s.heap.size ≤ q) s s.heap) (key := fun x => x.1) ps_strs ps8 (fun x hx => (hqa x hx).2)
  exact ⟨qa, va, fun x hx => ⟨(hqa x hx).1, hva x hx⟩⟩
theorem pq_C.grow {L : List Nat} {f : Nat → va_E} {cs : List (Nat × va_E)} {q : Nat} {e : va_E} (h : pq_C L f cs) (hq : q ∉ L) : pq_C (L ++ [q]) (va_up f q e) (cs ++ [(q, e)]) := by
  refine ⟨?_, fun x hx => ?_⟩
  · rw [List.map_append]
    refine List.nodup_append.mpr ⟨h.1, List.nodup_cons.mpr ⟨List.not_mem_nil, List.nodup_nil⟩, fun a h1 b h2 => ?_⟩
    obtain ⟨y, hy, rfl⟩ := List.mem_map.mp h1
    have h3 : b = q := List.mem_singleton.mp h2
    intro e9
    exact hq (by rw [← h3, ← e9]; exact (h.2 y hy).1)
  · rcases List.mem_append.mp hx with h1 | h1
    · refine ⟨List.mem_append_left _ (h.2 x h1).1, ?_⟩
      rw [va_up_ne _ _ (fun e9 => hq (by rw [← e9]; exact (h.2 x h1).1))]
      exact (h.2 x h1).2
    · rw [List.mem_singleton.mp h1]
      exact ⟨List.mem_append_right _ (List.mem_singleton.mpr rfl), va_up_self _ _ _⟩
theorem pq_C.of12 {h0 ci : Nat} {L0 L : List Nat} {f0 f : Nat → va_E} {fs : List Value} {news : List (Nat × va_E)} (h : pw_N h0 ci L0 f0 L f fs news) (hd : L.Nodup) : pq_C L f ((h0, .inr (ci, fs)) :: news) := by
  have h1 := h.1
  refine ⟨?_, fun x hx => ?_⟩
  · rw [List.map_cons]
    refine List.nodup_cons.mpr ⟨fun hm => ?_, ?_⟩
    · obtain ⟨y, hy, hyh⟩ := List.mem_map.mp hm
      exact (h.apart hd hy).1 (by rw [hyh]; exact h.2.2.2.2)
    · rw [h1] at hd
      exact (List.nodup_append.mp hd).2.1
  · rcases List.mem_cons.mp hx with rfl | hx
    · exact ⟨h.mem, h.2.1⟩
    · exact ⟨(h.apart hd hx).2, h.2.2.1 x hx⟩
theorem pq_C.ctor {m0 : Nat} {L2 L3 : List Nat} {f2 f3 : Nat → va_E} {F : List Value} {cs cm : List (Nat × va_E)} {e : va_E} (hC : pq_C L2 f2 (cs ++ [(m0, e)])) (hN : pn_N m0 L2 f2 L3 f3 F cm) (hd : L3.Nodup) : pq_C L3 f3 (cs ++ [(m0, .inr (13, F))] ++ cm) := by
  have hap := fun (x : Nat × va_E) (hx : x ∈ cm) => (hN.apart hd hx)
  obtain ⟨⟨M, hL, hM⟩, hnd, hf, hc, hF, h0m⟩ := hN
  have hn1 : ((cs ++ [(m0, e)]).map Prod.fst).Nodup := hC.1
  have e1 : (cs ++ [(m0, .inr (13, F))] : List (Nat × va_E)).map Prod.fst = (cs ++ [(m0, e)]).map Prod.fst := by simp
  have hin : ∀ a ∈ (cs ++ [(m0, e)]).map Prod.fst, a ∈ L2 := fun a ha => by
    obtain ⟨y, hy, rfl⟩ := List.mem_map.mp ha
    exact (hC.2 y hy).1
  refine ⟨?_, fun x hx => ?_⟩
  · rw [List.map_append, e1]
    refine List.nodup_append.mpr ⟨hn1, hnd, fun a h1 b h2 e9 => ?_⟩
    obtain ⟨y, hy, rfl⟩ := List.mem_map.mp h2
    exact (hap y hy).1 (by rw [← e9]; exact hin a h1)
  · rcases List.mem_append.mp hx with hx | hx
    · rcases List.mem_append.mp hx with hx | hx
      · have h2 := hC.2 x (List.mem_append_left _ hx)
        have hne : x.1 ≠ m0 := fun e9 => by
          have hn2 := hn1
          rw [List.map_append] at hn2
          exact (List.nodup_append.mp hn2).2.2 x.1 (List.mem_map.mpr ⟨x, hx, rfl⟩) m0 (by simp) e9
        refine ⟨by rw [hL]; exact List.mem_append_left _ h2.1, ?_⟩
        rw [hF x.1 h2.1 hne]; exact h2.2
      · rw [List.mem_singleton.mp hx]
        exact ⟨by rw [hL]; exact List.mem_append_left _ h0m, hf⟩
    · exact ⟨(hap x hx).2, hc x hx⟩
theorem ps_pre {D : va_G} {cy : Nat → ClassId} {qa va : Nat → Nat} {s : State} {A : Nat → Prop} {L : List Nat} {f : Nat → va_E} {H : Heap} {locs : List Loc} {av : List Value} (hG : pw_G D cy s) (hZ : ps_X qa va A s s.heap) (hw : pw_W D A s.heap L f H locs) : PreS s H (ps_Pc D cy qa va av H.size L f) av :=
  ⟨ps_blind, fun U hU hW => ⟨rfl, by rw [hU], hG.warm hW, hZ.to hW (fun a h1 h2 => by rw [hU]; exact hw.2.2.1.2.1 a h1 h2) (pq_sub hw), by rw [hU]; exact hw.1, hw.2.1.weaken (fun _ _ _ _ => trivial)⟩⟩
set_option maxHeartbeats 8000000 in
set_option maxRecDepth 100000 in
theorem whole_start {p : Program} {e : Env} {s : State} {m : MethodId} {below : List Frame} {meth : Method} {c : Code} (l : Launch) (hst : l.stackTraces = false) {b L : Nat} {xs : Nat → Int32} (hL : L ≤ 6) (C0 : lw_At p s m meth c b L xs) : W p l e room_1 s m #[Value.ref b] below meth c s.heap [] 0 0 (lw_Z below #[Value.ref b] s) (entryFrame m ([Value.ref b] : List Value).toArray 8) := by
  obtain ⟨hx, hb, hr, hml, hown0, hts, hScr, hbl, hlocks, hgv⟩ := id C0
  have hown : s.vm.findClass RL = some m.cls := hown0
  have hfl : ∀ w ∈ lc_flat, w.before #[Value.ref b] s = true := flat_of_before _ hgv
  have hpp := fun (w : Cond) (h : w ∈ pp_ws) => hts w (pl_in w h)
  obtain ⟨D, cy, hG⟩ := lc_G hts
  obtain ⟨sa, hX⟩ := lc_Xs hts hfl
  obtain ⟨qa, va, hZ⟩ := lc_Zs hts hfl
  have hbA : ¬ (fun q : Nat => s.heap.size ≤ q) b := Nat.not_le.mpr hbl
  have hw : pw_W D (fun q : Nat => s.heap.size ≤ q) s.heap [] (fun _ => .inr (0, [])) s.heap [] := ⟨fun k q h => by simp [va_pl] at h, ⟨fun i j p q h => by simp [va_pl] at h, fun k q h => by simp [va_pl] at h⟩, va_S.rf, fun _ h => h⟩
  have hl := lv_entry ([.ref b]) (n := 8) (Nat.le_of_ble_eq_true rfl)
  rw [lg_entry_eq]
  generalize (lg_sl ([.ref b]) ++ List.replicate (8 - (lg_sl ([.ref b])).length) Slot.unset).toArray = ls at hl ⊢
  have hl : lv_has ls 8 [(0, .ref b)] := hl
  refine pw_new (ci := 12) (C := RX12) (T := TX12) (N := 17) (fs := [.null, .null, .null, .null, .null, .null, .null, .null, .null, .null, .null, .null, .null, .null, .null, .int 0, .null]) hx hb hpp pi12 tyX12 tyX12_ok hown (hpp _ pp514) (hpp _ pp515) (hpp _ pp123) hG hw rfl bl_X12 (Nat.le_of_ble_eq_true rfl) (Nat.le_of_ble_eq_true rfl) dL_law_0 (fun h0 H hq hw => ?_)
  have ha : h0 ∈ [] ++ [h0] := List.mem_append_right _ (List.mem_singleton.mpr rfl)
  refine W.widen (k := 1) (n := 17) (Nat.le_of_ble_eq_true rfl) (Nat.le_of_ble_eq_true rfl) ?_
  refine lv_dup hx hb dL_law_3 rfl ?_
  refine pw_callv hw (va_runI (As := []) (rest := [.ref h0]) ⟨hx, hb, hml, hown, hts⟩ (c_X12_init l D cy h0 H.size _ _ ha (va_up_self _ _ _)) (cwI 0 hts pl_X12 rfl rfl rfl (hpp _ pp123) (hts _ pt_i12) (hts _ pt_m12) rfl (by decide +kernel) ⟨Nat.le_of_ble_eq_true rfl, Nat.le_of_ble_eq_true rfl⟩) (pw_pre hG hw) rfl rfl hl.1 rfl (lv_room (Nat.le_of_ble_eq_true rfl)) dL_law_4 ⟨Nat.le_of_ble_eq_true rfl, Nat.le_of_ble_eq_true rfl⟩) (fun L1 f1 H locs hw hS => ?_)
  obtain ⟨q1, q2, q3, q4, q5, q6, q7, q8, q9, q10, q11, q12, q13, q14, q15, q16, q17, q18, q19, q20, q21, q22, q23, q24, q25, q26, q27, q28, q29, q30, q31, q32, q33, q34, q35, q36, q37, q38, q39, q40, q41, q42, q43, q44, q45, q46, q47, q48, q49, q50, q51, q52, q53, q54, q55, q56, q57, q58, q59, q60, q61, q62, q63, q64, q65, q66, q67, q68, q69, q70, q71, q72, q73, q74, q75, q76, q77, q78, q79, q80, q81, q82, q83, q84, q85, q86, q87, q88, q89, q90, q91, q92, q93, q94, q95, q96, q97, q98, q99, q100, q101, q102, q103, q104, q105, q106, q107, q108, q109, q110, q111, q112, q113, q114, q115, q116, q117, q118, hN⟩ := hS
  have hC := (pq_C.of12 hN (pw_nd hw)).pick [0, 1, 2, 4, 6, 8, 15, 21, 23, 24, 27, 39, 48, 61, 100, 114, 124] (by decide)
  clear hN
  have hC : pq_C L1 f1 [(h0, .inr (12, [.ref q1, .ref q23, .ref q27, .ref q31, .ref q35, .ref q39, .ref q48, .ref q61, .ref q74, .ref q86, .ref q100, .ref q114, .ref q115, .ref q116, .ref q117, .int 0, .ref q118])), (q1, .inr (8, [.ref q2, .ref q4, .ref q6, .ref q8, .ref q10, .int (-1), .ref q11, .ref q12, .ref q13, .ref q14, .ref q15, .ref q16, .ref q17, .int 0, .ref q18, .ref q19, .ref q20, .int 0, .int 0, .ref q21, .ref q22])), (q2, .inr (4, [.ref q3, .int 0])), (q4, .inr (4, [.ref q5, .int 0])), (q6, .inr (4, [.ref q7, .int 0])), (q8, .inr (4, [.ref q9, .int 0])), (q15, .inl (cy 1, 96, .inl (fun _ => 0))), (q21, .inl (cy 1, 159, .inl (fun _ => 0))), (q23, .inr (9, [.ref q24, .int 0, .ref q25, .ref q26, .int 0, .int 0, .int 0, .int 0, .int 0, .long 0])), (q24, .inl (cy 0, 1000, .inl (fun _ => 0))), (q27, .inr (9, [.ref q28, .int 0, .ref q29, .ref q30, .int 0, .int 0, .int 0, .int 0, .int 0, .long 0])), (q39, .inr (6, [.ref q1, .ref q23, .null, .int 0, .int 0, .int 0, .int 0, .int 0, .int 0, .ref q40, .ref q41, .ref q42, .int 0, .ref q43, .ref q44, .int 0, .ref q45, .ref q46, .ref q47])), (q48, .inr (0, [.ref q1, .ref q49, .ref q50, .int 0, .ref q51, .ref q52, .int 0, .ref q53, .ref q54, .ref q55, .int 0, .int 0, .int 0, .null, .null, .ref q56, .ref q57, .int 0, .int 0, .ref q58, .ref q59, .ref q60])), (q61, .inr (5, [.ref q1, .ref q48, .null, .int 0, .int 0, .ref q62, .ref q63, .ref q64, .int 0, .ref q65, .ref q66, .ref q67, .ref q68, .ref q69, .ref q70, .int 0, .ref q71, .ref q72, .ref q73])), (q100, .inr (1, [.ref q1, .int 0, .int 0, .ref q101, .int 0, .ref q102, .ref q103, .int 0, .int 0, .int 0, .ref q104, .ref q105, .ref q106, .ref q110, .int 0, .ref q111, .ref q112, .int 0, .ref q113])), (q114, .inl (cy 7, 9, .inr (.inr (.inr (.inr (fun j => if j < 9 then some (q114 + 1 + j) else none)))))), (q115, .inl (cy 1, 9, .inl (fun _ => 0)))] := hC
  refine W.widen (k := 144) (n := 318359) (Nat.le_of_ble_eq_true rfl) (Nat.le_of_ble_eq_true rfl) ?_
  refine lv_astore_n (lv' := [(1, .ref h0), (0, .ref b)]) hx hb dL_law_7 rfl hl (by decide) rfl (fun ls hl => ?_)
  refine pw_new (ci := 13) (C := RX13) (T := TX13) (N := 229) (fs := px_blank13) hx hb hpp pi13 tyX13 tyX13_ok hown (hpp _ pp516) (hpp _ pp517) (hpp _ pp20) hG hw rfl px_blank13_ok (Nat.le_of_ble_eq_true rfl) (Nat.le_of_ble_eq_true rfl) dL_law_8 (fun m0 H hq2 hw => ?_)
  have ha2 : m0 ∈ L1 ++ [m0] := List.mem_append_right _ (List.mem_singleton.mpr rfl)
  have hC := hC.grow (e := .inr (13, px_blank13)) hq2
  refine W.widen (k := 145) (n := 318588) (Nat.le_of_ble_eq_true rfl) (Nat.le_of_ble_eq_true rfl) ?_
  refine lv_dup hx hb dL_law_11 rfl ?_
  refine pw_callv hw (va_runI (As := []) (rest := [.ref m0]) ⟨hx, hb, hml, hown, hts⟩ (c_X13_init l D cy qa va m0 H.size _ _ ha2 (va_up_self _ _ _)) (cwI 0 hts (pl_gI pp520) rfl rfl rfl (hpp _ pp20) (hpp _ pp518) (hpp _ pp519) rfl (by decide +kernel) ⟨Nat.le_of_ble_eq_true rfl, Nat.le_of_ble_eq_true rfl⟩) (ps_pre hG hZ hw) rfl rfl hl.1 rfl (lv_room (Nat.le_of_ble_eq_true rfl)) dL_law_12 ⟨Nat.le_of_ble_eq_true rfl, Nat.le_of_ble_eq_true rfl⟩) (fun L3 f3 H locs hw hS => ?_)
  obtain ⟨w13, w14, w15, w16, w17, w18, w19, w56, w59, w115, w10, F_m0, E_m0, hN⟩ := hS
  have hC := pq_C.ctor hC hN (pw_nd hw)
  clear hN
  refine W.widen (k := 283) (n := 1296536) (Nat.le_of_ble_eq_true rfl) (Nat.le_of_ble_eq_true rfl) ?_
  refine lv_astore_n (lv' := [(2, .ref m0), (1, .ref h0), (0, .ref b)]) hx hb dL_law_15 rfl hl (by decide) rfl (fun ls hl => ?_)
  refine lv_iconst (v := 1) hx hb dL_law_16 (by decide) ?_
  refine pw_newa (atype := .long) (t0 := 2) (cA := cy 2) (ty := .long) (N' := 1) (a0 := (1, .inr (.inl (fun _ => 0)))) hx hb (hpp _ pp348) rfl hG rfl (fun _ h => h) hw (fun _ => rfl) (by decide) (by decide) (Nat.le_of_ble_eq_true rfl) (Nat.le_of_ble_eq_true rfl) (Nat.le_of_ble_eq_true rfl) dL_law_17 (fun ou H hq3 hw => ?_)
  have hC := hC.grow (e := .inl (cy 2, 1, .inr (.inl (fun _ => 0)))) hq3
  refine W.widen (k := 284) (n := 1296537) (Nat.le_of_ble_eq_true rfl) (Nat.le_of_ble_eq_true rfl) ?_
  refine lv_astore_n (lv' := [(3, .ref ou), (2, .ref m0), (1, .ref h0), (0, .ref b)]) hx hb dL_law_19 rfl hl (by decide) rfl (fun ls hl => ?_)
  refine lv_iconst (v := 0) hx hb dL_law_20 (by decide) ?_
  refine lv_istore (lv' := [(4, .int 0), (3, .ref ou), (2, .ref m0), (1, .ref h0), (0, .ref b)]) hx hb dL_law_21 hl (by decide) rfl (fun ls hl => ?_)
  have hW := (pq_start hw hC rfl).pick (cs2 := [(h0, .inr (12, [.ref q1, .ref q23, .ref q27, .ref q31, .ref q35, .ref q39, .ref q48, .ref q61, .ref q74, .ref q86, .ref q100, .ref q114, .ref q115, .ref q116, .ref q117, .int 0, .ref q118])), (q1, .inr (8, [.ref q2, .ref q4, .ref q6, .ref q8, .ref q10, .int (-1), .ref q11, .ref q12, .ref q13, .ref q14, .ref q15, .ref q16, .ref q17, .int 0, .ref q18, .ref q19, .ref q20, .int 0, .int 0, .ref q21, .ref q22])), (q2, .inr (4, [.ref q3, .int 0])), (q4, .inr (4, [.ref q5, .int 0])), (q6, .inr (4, [.ref q7, .int 0])), (q8, .inr (4, [.ref q9, .int 0])), (q15, .inl (cy 1, 96, .inl (fun _ => 0))), (q21, .inl (cy 1, 159, .inl (fun _ => 0))), (q23, .inr (9, [.ref q24, .int 0, .ref q25, .ref q26, .int 0, .int 0, .int 0, .int 0, .int 0, .long 0])), (q24, .inl (cy 0, 1000, .inl (fun _ => 0))), (q27, .inr (9, [.ref q28, .int 0, .ref q29, .ref q30, .int 0, .int 0, .int 0, .int 0, .int 0, .long 0])), (q39, .inr (6, [.ref q1, .ref q23, .null, .int 0, .int 0, .int 0, .int 0, .int 0, .int 0, .ref q40, .ref q41, .ref q42, .int 0, .ref q43, .ref q44, .int 0, .ref q45, .ref q46, .ref q47])), (q48, .inr (0, [.ref q1, .ref q49, .ref q50, .int 0, .ref q51, .ref q52, .int 0, .ref q53, .ref q54, .ref q55, .int 0, .int 0, .int 0, .null, .null, .ref q56, .ref q57, .int 0, .int 0, .ref q58, .ref q59, .ref q60])), (q61, .inr (5, [.ref q1, .ref q48, .null, .int 0, .int 0, .ref q62, .ref q63, .ref q64, .int 0, .ref q65, .ref q66, .ref q67, .ref q68, .ref q69, .ref q70, .int 0, .ref q71, .ref q72, .ref q73])), (q100, .inr (1, [.ref q1, .int 0, .int 0, .ref q101, .int 0, .ref q102, .ref q103, .int 0, .int 0, .int 0, .ref q104, .ref q105, .ref q106, .ref q110, .int 0, .ref q111, .ref q112, .int 0, .ref q113])), (q114, .inl (cy 7, 9, .inr (.inr (.inr (.inr (fun j => if j < 9 then some (q114 + 1 + j) else none)))))), (q115, .inl (cy 1, 9, .inl (fun _ => 0))), (m0, .inr (13, F_m0)), (w13, .inl (cy 1, 8, .inl (fun _ => 0))), (w14, .inl (cy 1, 8, .inl (fun _ => 0))), (w15, .inl (cy 1, 8, .inl (fun _ => 0))), (w16, .inl (cy 1, 8, .inl (fun _ => 0))), (w17, .inl (cy 1, 8, .inl (fun _ => 0))), (w18, .inl (cy 1, 8, .inl (fun _ => 0))), (w19, .inl (cy 1, 8, .inl (fun _ => 0))), (w56, .inl (cy 0, 1000, .inl (fun _ => 0))), (w59, .inl (cy 1, 80, .inl (fun _ => 0))), (w115, .inl (cy 1, 8, .inl (fun _ => 0))), (ou, .inl (cy 2, 1, .inr (.inl (fun _ => 0))))]) [0, 1, 2, 3, 4, 5, 6, 7, 8, 9, 10, 11, 12, 13, 14, 15, 16, 17, 18, 19, 20, 21, 22, 23, 24, 25, 26, 27, 28] (by decide) rfl
  refine lv_iload hx hb dL_law_23 (lv_at hl 0 rfl) ?_
  refine lv_aload_n hx hb dL_law_25 rfl (lv_at hl 4 rfl) ?_
  refine va_slen hx hb hScr hbl hbA hW.S dL_law_26 ?_
  refine lv_bipush (v := 6) hx hb dL_law_27 (by decide) ?_
  refine lv_isub hx hb dL_law_29 ?_
  rcases Nat.lt_or_ge L 6 with hlt | hge
  · have hneg : (Int32.ofNat L - 6 : Int32) < 0 := (by decide : ∀ n, n < 6 → (Int32.ofNat n - 6 : Int32) < 0) L hlt
    refine lv_icmp_gt (tgt := 1903) hx hb dL_law_30 (by decide) (fun _ => ?_) (fun c9 => absurd hneg c9)
    refine lv_iconst (v := 1) hx hb dL_law_1903 (by decide) ?_
    refine va_forget (fun q hq => hW.S.2.2 q hq) ?_
    refine W.widen (k := 600002) (n := 7302232) (Nat.le_of_ble_eq_true rfl) (Nat.le_of_ble_eq_true rfl) ?_
    exact lw_ret hx hb hr hlocks dL_law_1904
  · have hL6 : L = 6 := by omega
    subst hL6
    have K : lc_K p l s m meth c b xs D cy sa := ⟨hx, hb, hr, hml, hown, hts, hScr, hbl, hlocks, hst, hG, hX⟩
    refine lv_icmp_gt (tgt := 1903) hx hb dL_law_30 (by decide) (fun c9 => absurd c9 (by decide)) (fun _ => ?_)
    refine lv_aload_n hx hb dL_law_33 rfl (lv_at hl 4 rfl) ?_
    refine lv_iload hx hb dL_law_34 (lv_at hl 0 rfl) ?_
    refine va_sld hx hb hScr hbl hbA hW.S (vp_in_iff.mpr ⟨by decide, by decide⟩) dL_law_36 ?_
    refine lv_bipush (v := 31) hx hb dL_law_37 (by decide) ?_
    refine lv_iand hx hb dL_law_39 ?_
    obtain ⟨j, hj, hxj⟩ := pk_andE (xs (0 : Int32).toNatClampNeg) (m := 31) 5 (by decide)
    refine pq_topi hxj ?_
    have sw : ∀ j, j < 32 → W p l e room_1 s m #[Value.ref b] below meth c H _ 284 1296537 (lw_Z below #[Value.ref b] s) (F0 m 40 ls [.int (nI j)]) := fun j hj => by
      match j, hj with
      | 0, _ =>
        refine lv_tableIn (tgt := 176) hx hb dL_law_40 (by decide) (by decide) rfl (by decide) ?_
        exact law_case_0 K hW (⟨rfl, List.forall_mem_cons.mpr ⟨rfl, List.forall_mem_cons.mpr ⟨rfl, List.forall_mem_cons.mpr ⟨rfl, List.forall_mem_cons.mpr ⟨rfl, List.forall_mem_cons.mpr ⟨rfl, List.forall_mem_cons.mpr ⟨rfl, List.forall_mem_cons.mpr ⟨rfl, List.forall_mem_cons.mpr ⟨rfl, List.forall_mem_cons.mpr ⟨rfl, List.forall_mem_cons.mpr ⟨rfl, fun _ h => absurd h List.not_mem_nil⟩⟩⟩⟩⟩⟩⟩⟩⟩⟩⟩) (⟨rfl, List.forall_mem_cons.mpr ⟨rfl, List.forall_mem_cons.mpr ⟨rfl, List.forall_mem_cons.mpr ⟨rfl, List.forall_mem_cons.mpr ⟨rfl, List.forall_mem_cons.mpr ⟨rfl, List.forall_mem_cons.mpr ⟨rfl, List.forall_mem_cons.mpr ⟨rfl, List.forall_mem_cons.mpr ⟨rfl, List.forall_mem_cons.mpr ⟨rfl, List.forall_mem_cons.mpr ⟨rfl, fun _ h => absurd h List.not_mem_nil⟩⟩⟩⟩⟩⟩⟩⟩⟩⟩⟩) (⟨rfl, List.forall_mem_cons.mpr ⟨rfl, fun _ h => absurd h List.not_mem_nil⟩⟩) (⟨rfl, List.forall_mem_cons.mpr ⟨rfl, fun _ h => absurd h List.not_mem_nil⟩⟩) (⟨rfl, List.forall_mem_cons.mpr ⟨rfl, fun _ h => absurd h List.not_mem_nil⟩⟩) (⟨rfl, List.forall_mem_cons.mpr ⟨rfl, fun _ h => absurd h List.not_mem_nil⟩⟩) (⟨rfl, List.forall_mem_cons.mpr ⟨rfl, List.forall_mem_cons.mpr ⟨rfl, List.forall_mem_cons.mpr ⟨rfl, List.forall_mem_cons.mpr ⟨rfl, List.forall_mem_cons.mpr ⟨rfl, fun _ h => absurd h List.not_mem_nil⟩⟩⟩⟩⟩⟩) (⟨rfl, List.forall_mem_cons.mpr ⟨rfl, List.forall_mem_cons.mpr ⟨rfl, List.forall_mem_cons.mpr ⟨rfl, List.forall_mem_cons.mpr ⟨rfl, List.forall_mem_cons.mpr ⟨rfl, fun _ h => absurd h List.not_mem_nil⟩⟩⟩⟩⟩⟩) (⟨rfl, List.forall_mem_cons.mpr ⟨rfl, List.forall_mem_cons.mpr ⟨rfl, List.forall_mem_cons.mpr ⟨rfl, fun _ h => absurd h List.not_mem_nil⟩⟩⟩⟩) (⟨rfl, List.forall_mem_cons.mpr ⟨rfl, List.forall_mem_cons.mpr ⟨rfl, fun _ h => absurd h List.not_mem_nil⟩⟩⟩) (⟨rfl, List.forall_mem_cons.mpr ⟨rfl, List.forall_mem_cons.mpr ⟨rfl, fun _ h => absurd h List.not_mem_nil⟩⟩⟩) (⟨rfl, List.forall_mem_cons.mpr ⟨rfl, List.forall_mem_cons.mpr ⟨rfl, List.forall_mem_cons.mpr ⟨rfl, List.forall_mem_cons.mpr ⟨rfl, fun _ h => absurd h List.not_mem_nil⟩⟩⟩⟩⟩) (E_m0) hl
      | 1, _ =>
        refine lv_tableIn (tgt := 280) hx hb dL_law_40 (by decide) (by decide) rfl (by decide) ?_
        exact law_case_1 K hW (⟨rfl, List.forall_mem_cons.mpr ⟨rfl, List.forall_mem_cons.mpr ⟨rfl, List.forall_mem_cons.mpr ⟨rfl, List.forall_mem_cons.mpr ⟨rfl, List.forall_mem_cons.mpr ⟨rfl, List.forall_mem_cons.mpr ⟨rfl, List.forall_mem_cons.mpr ⟨rfl, List.forall_mem_cons.mpr ⟨rfl, List.forall_mem_cons.mpr ⟨rfl, List.forall_mem_cons.mpr ⟨rfl, fun _ h => absurd h List.not_mem_nil⟩⟩⟩⟩⟩⟩⟩⟩⟩⟩⟩) (⟨rfl, List.forall_mem_cons.mpr ⟨rfl, List.forall_mem_cons.mpr ⟨rfl, List.forall_mem_cons.mpr ⟨rfl, List.forall_mem_cons.mpr ⟨rfl, List.forall_mem_cons.mpr ⟨rfl, List.forall_mem_cons.mpr ⟨rfl, List.forall_mem_cons.mpr ⟨rfl, List.forall_mem_cons.mpr ⟨rfl, List.forall_mem_cons.mpr ⟨rfl, List.forall_mem_cons.mpr ⟨rfl, fun _ h => absurd h List.not_mem_nil⟩⟩⟩⟩⟩⟩⟩⟩⟩⟩⟩) (⟨rfl, List.forall_mem_cons.mpr ⟨rfl, fun _ h => absurd h List.not_mem_nil⟩⟩) (⟨rfl, List.forall_mem_cons.mpr ⟨rfl, fun _ h => absurd h List.not_mem_nil⟩⟩) (⟨rfl, List.forall_mem_cons.mpr ⟨rfl, fun _ h => absurd h List.not_mem_nil⟩⟩) (⟨rfl, List.forall_mem_cons.mpr ⟨rfl, fun _ h => absurd h List.not_mem_nil⟩⟩) (⟨rfl, List.forall_mem_cons.mpr ⟨rfl, List.forall_mem_cons.mpr ⟨rfl, List.forall_mem_cons.mpr ⟨rfl, List.forall_mem_cons.mpr ⟨rfl, List.forall_mem_cons.mpr ⟨rfl, fun _ h => absurd h List.not_mem_nil⟩⟩⟩⟩⟩⟩) (⟨rfl, List.forall_mem_cons.mpr ⟨rfl, List.forall_mem_cons.mpr ⟨rfl, List.forall_mem_cons.mpr ⟨rfl, List.forall_mem_cons.mpr ⟨rfl, List.forall_mem_cons.mpr ⟨rfl, fun _ h => absurd h List.not_mem_nil⟩⟩⟩⟩⟩⟩) (⟨rfl, List.forall_mem_cons.mpr ⟨rfl, List.forall_mem_cons.mpr ⟨rfl, List.forall_mem_cons.mpr ⟨rfl, fun _ h => absurd h List.not_mem_nil⟩⟩⟩⟩) (⟨rfl, List.forall_mem_cons.mpr ⟨rfl, List.forall_mem_cons.mpr ⟨rfl, fun _ h => absurd h List.not_mem_nil⟩⟩⟩) (⟨rfl, List.forall_mem_cons.mpr ⟨rfl, List.forall_mem_cons.mpr ⟨rfl, fun _ h => absurd h List.not_mem_nil⟩⟩⟩) (⟨rfl, List.forall_mem_cons.mpr ⟨rfl, List.forall_mem_cons.mpr ⟨rfl, List.forall_mem_cons.mpr ⟨rfl, List.forall_mem_cons.mpr ⟨rfl, fun _ h => absurd h List.not_mem_nil⟩⟩⟩⟩⟩) (E_m0) hl
      | 2, _ =>
        refine lv_tableIn (tgt := 336) hx hb dL_law_40 (by decide) (by decide) rfl (by decide) ?_
        exact law_case_2 K hW (⟨rfl, List.forall_mem_cons.mpr ⟨rfl, List.forall_mem_cons.mpr ⟨rfl, List.forall_mem_cons.mpr ⟨rfl, List.forall_mem_cons.mpr ⟨rfl, List.forall_mem_cons.mpr ⟨rfl, List.forall_mem_cons.mpr ⟨rfl, List.forall_mem_cons.mpr ⟨rfl, List.forall_mem_cons.mpr ⟨rfl, List.forall_mem_cons.mpr ⟨rfl, List.forall_mem_cons.mpr ⟨rfl, fun _ h => absurd h List.not_mem_nil⟩⟩⟩⟩⟩⟩⟩⟩⟩⟩⟩) (⟨rfl, List.forall_mem_cons.mpr ⟨rfl, List.forall_mem_cons.mpr ⟨rfl, List.forall_mem_cons.mpr ⟨rfl, List.forall_mem_cons.mpr ⟨rfl, List.forall_mem_cons.mpr ⟨rfl, List.forall_mem_cons.mpr ⟨rfl, List.forall_mem_cons.mpr ⟨rfl, List.forall_mem_cons.mpr ⟨rfl, List.forall_mem_cons.mpr ⟨rfl, List.forall_mem_cons.mpr ⟨rfl, fun _ h => absurd h List.not_mem_nil⟩⟩⟩⟩⟩⟩⟩⟩⟩⟩⟩) (⟨rfl, List.forall_mem_cons.mpr ⟨rfl, fun _ h => absurd h List.not_mem_nil⟩⟩) (⟨rfl, List.forall_mem_cons.mpr ⟨rfl, fun _ h => absurd h List.not_mem_nil⟩⟩) (⟨rfl, List.forall_mem_cons.mpr ⟨rfl, fun _ h => absurd h List.not_mem_nil⟩⟩) (⟨rfl, List.forall_mem_cons.mpr ⟨rfl, fun _ h => absurd h List.not_mem_nil⟩⟩) (⟨rfl, List.forall_mem_cons.mpr ⟨rfl, List.forall_mem_cons.mpr ⟨rfl, List.forall_mem_cons.mpr ⟨rfl, List.forall_mem_cons.mpr ⟨rfl, List.forall_mem_cons.mpr ⟨rfl, fun _ h => absurd h List.not_mem_nil⟩⟩⟩⟩⟩⟩) (⟨rfl, List.forall_mem_cons.mpr ⟨rfl, List.forall_mem_cons.mpr ⟨rfl, List.forall_mem_cons.mpr ⟨rfl, List.forall_mem_cons.mpr ⟨rfl, List.forall_mem_cons.mpr ⟨rfl, fun _ h => absurd h List.not_mem_nil⟩⟩⟩⟩⟩⟩) (⟨rfl, List.forall_mem_cons.mpr ⟨rfl, List.forall_mem_cons.mpr ⟨rfl, List.forall_mem_cons.mpr ⟨rfl, fun _ h => absurd h List.not_mem_nil⟩⟩⟩⟩) (⟨rfl, List.forall_mem_cons.mpr ⟨rfl, List.forall_mem_cons.mpr ⟨rfl, fun _ h => absurd h List.not_mem_nil⟩⟩⟩) (⟨rfl, List.forall_mem_cons.mpr ⟨rfl, List.forall_mem_cons.mpr ⟨rfl, fun _ h => absurd h List.not_mem_nil⟩⟩⟩) (⟨rfl, List.forall_mem_cons.mpr ⟨rfl, List.forall_mem_cons.mpr ⟨rfl, List.forall_mem_cons.mpr ⟨rfl, List.forall_mem_cons.mpr ⟨rfl, fun _ h => absurd h List.not_mem_nil⟩⟩⟩⟩⟩) (E_m0) hl
      | 3, _ =>
        refine lv_tableIn (tgt := 349) hx hb dL_law_40 (by decide) (by decide) rfl (by decide) ?_
        exact law_case_3 K hW (⟨rfl, List.forall_mem_cons.mpr ⟨rfl, List.forall_mem_cons.mpr ⟨rfl, List.forall_mem_cons.mpr ⟨rfl, List.forall_mem_cons.mpr ⟨rfl, List.forall_mem_cons.mpr ⟨rfl, List.forall_mem_cons.mpr ⟨rfl, List.forall_mem_cons.mpr ⟨rfl, List.forall_mem_cons.mpr ⟨rfl, List.forall_mem_cons.mpr ⟨rfl, List.forall_mem_cons.mpr ⟨rfl, fun _ h => absurd h List.not_mem_nil⟩⟩⟩⟩⟩⟩⟩⟩⟩⟩⟩) (⟨rfl, List.forall_mem_cons.mpr ⟨rfl, List.forall_mem_cons.mpr ⟨rfl, List.forall_mem_cons.mpr ⟨rfl, List.forall_mem_cons.mpr ⟨rfl, List.forall_mem_cons.mpr ⟨rfl, List.forall_mem_cons.mpr ⟨rfl, List.forall_mem_cons.mpr ⟨rfl, List.forall_mem_cons.mpr ⟨rfl, List.forall_mem_cons.mpr ⟨rfl, List.forall_mem_cons.mpr ⟨rfl, fun _ h => absurd h List.not_mem_nil⟩⟩⟩⟩⟩⟩⟩⟩⟩⟩⟩) (⟨rfl, List.forall_mem_cons.mpr ⟨rfl, fun _ h => absurd h List.not_mem_nil⟩⟩) (⟨rfl, List.forall_mem_cons.mpr ⟨rfl, fun _ h => absurd h List.not_mem_nil⟩⟩) (⟨rfl, List.forall_mem_cons.mpr ⟨rfl, fun _ h => absurd h List.not_mem_nil⟩⟩) (⟨rfl, List.forall_mem_cons.mpr ⟨rfl, fun _ h => absurd h List.not_mem_nil⟩⟩) (⟨rfl, List.forall_mem_cons.mpr ⟨rfl, List.forall_mem_cons.mpr ⟨rfl, List.forall_mem_cons.mpr ⟨rfl, List.forall_mem_cons.mpr ⟨rfl, List.forall_mem_cons.mpr ⟨rfl, fun _ h => absurd h List.not_mem_nil⟩⟩⟩⟩⟩⟩) (⟨rfl, List.forall_mem_cons.mpr ⟨rfl, List.forall_mem_cons.mpr ⟨rfl, List.forall_mem_cons.mpr ⟨rfl, List.forall_mem_cons.mpr ⟨rfl, List.forall_mem_cons.mpr ⟨rfl, fun _ h => absurd h List.not_mem_nil⟩⟩⟩⟩⟩⟩) (⟨rfl, List.forall_mem_cons.mpr ⟨rfl, List.forall_mem_cons.mpr ⟨rfl, List.forall_mem_cons.mpr ⟨rfl, fun _ h => absurd h List.not_mem_nil⟩⟩⟩⟩) (⟨rfl, List.forall_mem_cons.mpr ⟨rfl, List.forall_mem_cons.mpr ⟨rfl, fun _ h => absurd h List.not_mem_nil⟩⟩⟩) (⟨rfl, List.forall_mem_cons.mpr ⟨rfl, List.forall_mem_cons.mpr ⟨rfl, fun _ h => absurd h List.not_mem_nil⟩⟩⟩) (⟨rfl, List.forall_mem_cons.mpr ⟨rfl, List.forall_mem_cons.mpr ⟨rfl, List.forall_mem_cons.mpr ⟨rfl, List.forall_mem_cons.mpr ⟨rfl, fun _ h => absurd h List.not_mem_nil⟩⟩⟩⟩⟩) (E_m0) hl
      | 4, _ =>
        refine lv_tableIn (tgt := 362) hx hb dL_law_40 (by decide) (by decide) rfl (by decide) ?_
        exact law_case_4 K hW (⟨rfl, List.forall_mem_cons.mpr ⟨rfl, List.forall_mem_cons.mpr ⟨rfl, List.forall_mem_cons.mpr ⟨rfl, List.forall_mem_cons.mpr ⟨rfl, List.forall_mem_cons.mpr ⟨rfl, List.forall_mem_cons.mpr ⟨rfl, List.forall_mem_cons.mpr ⟨rfl, List.forall_mem_cons.mpr ⟨rfl, List.forall_mem_cons.mpr ⟨rfl, List.forall_mem_cons.mpr ⟨rfl, fun _ h => absurd h List.not_mem_nil⟩⟩⟩⟩⟩⟩⟩⟩⟩⟩⟩) (⟨rfl, List.forall_mem_cons.mpr ⟨rfl, List.forall_mem_cons.mpr ⟨rfl, List.forall_mem_cons.mpr ⟨rfl, List.forall_mem_cons.mpr ⟨rfl, List.forall_mem_cons.mpr ⟨rfl, List.forall_mem_cons.mpr ⟨rfl, List.forall_mem_cons.mpr ⟨rfl, List.forall_mem_cons.mpr ⟨rfl, List.forall_mem_cons.mpr ⟨rfl, List.forall_mem_cons.mpr ⟨rfl, fun _ h => absurd h List.not_mem_nil⟩⟩⟩⟩⟩⟩⟩⟩⟩⟩⟩) (⟨rfl, List.forall_mem_cons.mpr ⟨rfl, fun _ h => absurd h List.not_mem_nil⟩⟩) (⟨rfl, List.forall_mem_cons.mpr ⟨rfl, fun _ h => absurd h List.not_mem_nil⟩⟩) (⟨rfl, List.forall_mem_cons.mpr ⟨rfl, fun _ h => absurd h List.not_mem_nil⟩⟩) (⟨rfl, List.forall_mem_cons.mpr ⟨rfl, fun _ h => absurd h List.not_mem_nil⟩⟩) (⟨rfl, List.forall_mem_cons.mpr ⟨rfl, List.forall_mem_cons.mpr ⟨rfl, List.forall_mem_cons.mpr ⟨rfl, List.forall_mem_cons.mpr ⟨rfl, List.forall_mem_cons.mpr ⟨rfl, fun _ h => absurd h List.not_mem_nil⟩⟩⟩⟩⟩⟩) (⟨rfl, List.forall_mem_cons.mpr ⟨rfl, List.forall_mem_cons.mpr ⟨rfl, List.forall_mem_cons.mpr ⟨rfl, List.forall_mem_cons.mpr ⟨rfl, List.forall_mem_cons.mpr ⟨rfl, fun _ h => absurd h List.not_mem_nil⟩⟩⟩⟩⟩⟩) (⟨rfl, List.forall_mem_cons.mpr ⟨rfl, List.forall_mem_cons.mpr ⟨rfl, List.forall_mem_cons.mpr ⟨rfl, fun _ h => absurd h List.not_mem_nil⟩⟩⟩⟩) (⟨rfl, List.forall_mem_cons.mpr ⟨rfl, List.forall_mem_cons.mpr ⟨rfl, fun _ h => absurd h List.not_mem_nil⟩⟩⟩) (⟨rfl, List.forall_mem_cons.mpr ⟨rfl, List.forall_mem_cons.mpr ⟨rfl, fun _ h => absurd h List.not_mem_nil⟩⟩⟩) (⟨rfl, List.forall_mem_cons.mpr ⟨rfl, List.forall_mem_cons.mpr ⟨rfl, List.forall_mem_cons.mpr ⟨rfl, List.forall_mem_cons.mpr ⟨rfl, fun _ h => absurd h List.not_mem_nil⟩⟩⟩⟩⟩) (E_m0) hl
      | 5, _ =>
        refine lv_tableIn (tgt := 387) hx hb dL_law_40 (by decide) (by decide) rfl (by decide) ?_
        exact law_case_5 K hW (⟨rfl, List.forall_mem_cons.mpr ⟨rfl, List.forall_mem_cons.mpr ⟨rfl, List.forall_mem_cons.mpr ⟨rfl, List.forall_mem_cons.mpr ⟨rfl, List.forall_mem_cons.mpr ⟨rfl, List.forall_mem_cons.mpr ⟨rfl, List.forall_mem_cons.mpr ⟨rfl, List.forall_mem_cons.mpr ⟨rfl, List.forall_mem_cons.mpr ⟨rfl, List.forall_mem_cons.mpr ⟨rfl, fun _ h => absurd h List.not_mem_nil⟩⟩⟩⟩⟩⟩⟩⟩⟩⟩⟩) (⟨rfl, List.forall_mem_cons.mpr ⟨rfl, List.forall_mem_cons.mpr ⟨rfl, List.forall_mem_cons.mpr ⟨rfl, List.forall_mem_cons.mpr ⟨rfl, List.forall_mem_cons.mpr ⟨rfl, List.forall_mem_cons.mpr ⟨rfl, List.forall_mem_cons.mpr ⟨rfl, List.forall_mem_cons.mpr ⟨rfl, List.forall_mem_cons.mpr ⟨rfl, List.forall_mem_cons.mpr ⟨rfl, fun _ h => absurd h List.not_mem_nil⟩⟩⟩⟩⟩⟩⟩⟩⟩⟩⟩) (⟨rfl, List.forall_mem_cons.mpr ⟨rfl, fun _ h => absurd h List.not_mem_nil⟩⟩) (⟨rfl, List.forall_mem_cons.mpr ⟨rfl, fun _ h => absurd h List.not_mem_nil⟩⟩) (⟨rfl, List.forall_mem_cons.mpr ⟨rfl, fun _ h => absurd h List.not_mem_nil⟩⟩) (⟨rfl, List.forall_mem_cons.mpr ⟨rfl, fun _ h => absurd h List.not_mem_nil⟩⟩) (⟨rfl, List.forall_mem_cons.mpr ⟨rfl, List.forall_mem_cons.mpr ⟨rfl, List.forall_mem_cons.mpr ⟨rfl, List.forall_mem_cons.mpr ⟨rfl, List.forall_mem_cons.mpr ⟨rfl, fun _ h => absurd h List.not_mem_nil⟩⟩⟩⟩⟩⟩) (⟨rfl, List.forall_mem_cons.mpr ⟨rfl, List.forall_mem_cons.mpr ⟨rfl, List.forall_mem_cons.mpr ⟨rfl, List.forall_mem_cons.mpr ⟨rfl, List.forall_mem_cons.mpr ⟨rfl, fun _ h => absurd h List.not_mem_nil⟩⟩⟩⟩⟩⟩) (⟨rfl, List.forall_mem_cons.mpr ⟨rfl, List.forall_mem_cons.mpr ⟨rfl, List.forall_mem_cons.mpr ⟨rfl, fun _ h => absurd h List.not_mem_nil⟩⟩⟩⟩) (⟨rfl, List.forall_mem_cons.mpr ⟨rfl, List.forall_mem_cons.mpr ⟨rfl, fun _ h => absurd h List.not_mem_nil⟩⟩⟩) (⟨rfl, List.forall_mem_cons.mpr ⟨rfl, List.forall_mem_cons.mpr ⟨rfl, fun _ h => absurd h List.not_mem_nil⟩⟩⟩) (⟨rfl, List.forall_mem_cons.mpr ⟨rfl, List.forall_mem_cons.mpr ⟨rfl, List.forall_mem_cons.mpr ⟨rfl, List.forall_mem_cons.mpr ⟨rfl, fun _ h => absurd h List.not_mem_nil⟩⟩⟩⟩⟩) (E_m0) hl
      | 6, _ =>
        refine lv_tableIn (tgt := 455) hx hb dL_law_40 (by decide) (by decide) rfl (by decide) ?_
        exact law_case_6 K hW (⟨rfl, List.forall_mem_cons.mpr ⟨rfl, List.forall_mem_cons.mpr ⟨rfl, List.forall_mem_cons.mpr ⟨rfl, List.forall_mem_cons.mpr ⟨rfl, List.forall_mem_cons.mpr ⟨rfl, List.forall_mem_cons.mpr ⟨rfl, List.forall_mem_cons.mpr ⟨rfl, List.forall_mem_cons.mpr ⟨rfl, List.forall_mem_cons.mpr ⟨rfl, List.forall_mem_cons.mpr ⟨rfl, fun _ h => absurd h List.not_mem_nil⟩⟩⟩⟩⟩⟩⟩⟩⟩⟩⟩) (⟨rfl, List.forall_mem_cons.mpr ⟨rfl, List.forall_mem_cons.mpr ⟨rfl, List.forall_mem_cons.mpr ⟨rfl, List.forall_mem_cons.mpr ⟨rfl, List.forall_mem_cons.mpr ⟨rfl, List.forall_mem_cons.mpr ⟨rfl, List.forall_mem_cons.mpr ⟨rfl, List.forall_mem_cons.mpr ⟨rfl, List.forall_mem_cons.mpr ⟨rfl, List.forall_mem_cons.mpr ⟨rfl, fun _ h => absurd h List.not_mem_nil⟩⟩⟩⟩⟩⟩⟩⟩⟩⟩⟩) (⟨rfl, List.forall_mem_cons.mpr ⟨rfl, fun _ h => absurd h List.not_mem_nil⟩⟩) (⟨rfl, List.forall_mem_cons.mpr ⟨rfl, fun _ h => absurd h List.not_mem_nil⟩⟩) (⟨rfl, List.forall_mem_cons.mpr ⟨rfl, fun _ h => absurd h List.not_mem_nil⟩⟩) (⟨rfl, List.forall_mem_cons.mpr ⟨rfl, fun _ h => absurd h List.not_mem_nil⟩⟩) (⟨rfl, List.forall_mem_cons.mpr ⟨rfl, List.forall_mem_cons.mpr ⟨rfl, List.forall_mem_cons.mpr ⟨rfl, List.forall_mem_cons.mpr ⟨rfl, List.forall_mem_cons.mpr ⟨rfl, fun _ h => absurd h List.not_mem_nil⟩⟩⟩⟩⟩⟩) (⟨rfl, List.forall_mem_cons.mpr ⟨rfl, List.forall_mem_cons.mpr ⟨rfl, List.forall_mem_cons.mpr ⟨rfl, List.forall_mem_cons.mpr ⟨rfl, List.forall_mem_cons.mpr ⟨rfl, fun _ h => absurd h List.not_mem_nil⟩⟩⟩⟩⟩⟩) (⟨rfl, List.forall_mem_cons.mpr ⟨rfl, List.forall_mem_cons.mpr ⟨rfl, List.forall_mem_cons.mpr ⟨rfl, fun _ h => absurd h List.not_mem_nil⟩⟩⟩⟩) (⟨rfl, List.forall_mem_cons.mpr ⟨rfl, List.forall_mem_cons.mpr ⟨rfl, fun _ h => absurd h List.not_mem_nil⟩⟩⟩) (⟨rfl, List.forall_mem_cons.mpr ⟨rfl, List.forall_mem_cons.mpr ⟨rfl, fun _ h => absurd h List.not_mem_nil⟩⟩⟩) (⟨rfl, List.forall_mem_cons.mpr ⟨rfl, List.forall_mem_cons.mpr ⟨rfl, List.forall_mem_cons.mpr ⟨rfl, List.forall_mem_cons.mpr ⟨rfl, fun _ h => absurd h List.not_mem_nil⟩⟩⟩⟩⟩) (E_m0) hl
      | 7, _ =>
        refine lv_tableIn (tgt := 511) hx hb dL_law_40 (by decide) (by decide) rfl (by decide) ?_
        exact law_case_7 K hW (⟨rfl, List.forall_mem_cons.mpr ⟨rfl, List.forall_mem_cons.mpr ⟨rfl, List.forall_mem_cons.mpr ⟨rfl, List.forall_mem_cons.mpr ⟨rfl, List.forall_mem_cons.mpr ⟨rfl, List.forall_mem_cons.mpr ⟨rfl, List.forall_mem_cons.mpr ⟨rfl, List.forall_mem_cons.mpr ⟨rfl, List.forall_mem_cons.mpr ⟨rfl, List.forall_mem_cons.mpr ⟨rfl, fun _ h => absurd h List.not_mem_nil⟩⟩⟩⟩⟩⟩⟩⟩⟩⟩⟩) (⟨rfl, List.forall_mem_cons.mpr ⟨rfl, List.forall_mem_cons.mpr ⟨rfl, List.forall_mem_cons.mpr ⟨rfl, List.forall_mem_cons.mpr ⟨rfl, List.forall_mem_cons.mpr ⟨rfl, List.forall_mem_cons.mpr ⟨rfl, List.forall_mem_cons.mpr ⟨rfl, List.forall_mem_cons.mpr ⟨rfl, List.forall_mem_cons.mpr ⟨rfl, List.forall_mem_cons.mpr ⟨rfl, fun _ h => absurd h List.not_mem_nil⟩⟩⟩⟩⟩⟩⟩⟩⟩⟩⟩) (⟨rfl, List.forall_mem_cons.mpr ⟨rfl, fun _ h => absurd h List.not_mem_nil⟩⟩) (⟨rfl, List.forall_mem_cons.mpr ⟨rfl, fun _ h => absurd h List.not_mem_nil⟩⟩) (⟨rfl, List.forall_mem_cons.mpr ⟨rfl, fun _ h => absurd h List.not_mem_nil⟩⟩) (⟨rfl, List.forall_mem_cons.mpr ⟨rfl, fun _ h => absurd h List.not_mem_nil⟩⟩) (⟨rfl, List.forall_mem_cons.mpr ⟨rfl, List.forall_mem_cons.mpr ⟨rfl, List.forall_mem_cons.mpr ⟨rfl, List.forall_mem_cons.mpr ⟨rfl, List.forall_mem_cons.mpr ⟨rfl, fun _ h => absurd h List.not_mem_nil⟩⟩⟩⟩⟩⟩) (⟨rfl, List.forall_mem_cons.mpr ⟨rfl, List.forall_mem_cons.mpr ⟨rfl, List.forall_mem_cons.mpr ⟨rfl, List.forall_mem_cons.mpr ⟨rfl, List.forall_mem_cons.mpr ⟨rfl, fun _ h => absurd h List.not_mem_nil⟩⟩⟩⟩⟩⟩) (⟨rfl, List.forall_mem_cons.mpr ⟨rfl, List.forall_mem_cons.mpr ⟨rfl, List.forall_mem_cons.mpr ⟨rfl, fun _ h => absurd h List.not_mem_nil⟩⟩⟩⟩) (⟨rfl, List.forall_mem_cons.mpr ⟨rfl, List.forall_mem_cons.mpr ⟨rfl, fun _ h => absurd h List.not_mem_nil⟩⟩⟩) (⟨rfl, List.forall_mem_cons.mpr ⟨rfl, List.forall_mem_cons.mpr ⟨rfl, fun _ h => absurd h List.not_mem_nil⟩⟩⟩) (⟨rfl, List.forall_mem_cons.mpr ⟨rfl, List.forall_mem_cons.mpr ⟨rfl, List.forall_mem_cons.mpr ⟨rfl, List.forall_mem_cons.mpr ⟨rfl, fun _ h => absurd h List.not_mem_nil⟩⟩⟩⟩⟩) (E_m0) hl
      | 8, _ =>
        refine lv_tableIn (tgt := 567) hx hb dL_law_40 (by decide) (by decide) rfl (by decide) ?_
        exact law_case_8 K hW (⟨rfl, List.forall_mem_cons.mpr ⟨rfl, List.forall_mem_cons.mpr ⟨rfl, List.forall_mem_cons.mpr ⟨rfl, List.forall_mem_cons.mpr ⟨rfl, List.forall_mem_cons.mpr ⟨rfl, List.forall_mem_cons.mpr ⟨rfl, List.forall_mem_cons.mpr ⟨rfl, List.forall_mem_cons.mpr ⟨rfl, List.forall_mem_cons.mpr ⟨rfl, List.forall_mem_cons.mpr ⟨rfl, fun _ h => absurd h List.not_mem_nil⟩⟩⟩⟩⟩⟩⟩⟩⟩⟩⟩) (⟨rfl, List.forall_mem_cons.mpr ⟨rfl, List.forall_mem_cons.mpr ⟨rfl, List.forall_mem_cons.mpr ⟨rfl, List.forall_mem_cons.mpr ⟨rfl, List.forall_mem_cons.mpr ⟨rfl, List.forall_mem_cons.mpr ⟨rfl, List.forall_mem_cons.mpr ⟨rfl, List.forall_mem_cons.mpr ⟨rfl, List.forall_mem_cons.mpr ⟨rfl, List.forall_mem_cons.mpr ⟨rfl, fun _ h => absurd h List.not_mem_nil⟩⟩⟩⟩⟩⟩⟩⟩⟩⟩⟩) (⟨rfl, List.forall_mem_cons.mpr ⟨rfl, fun _ h => absurd h List.not_mem_nil⟩⟩) (⟨rfl, List.forall_mem_cons.mpr ⟨rfl, fun _ h => absurd h List.not_mem_nil⟩⟩) (⟨rfl, List.forall_mem_cons.mpr ⟨rfl, fun _ h => absurd h List.not_mem_nil⟩⟩) (⟨rfl, List.forall_mem_cons.mpr ⟨rfl, fun _ h => absurd h List.not_mem_nil⟩⟩) (⟨rfl, List.forall_mem_cons.mpr ⟨rfl, List.forall_mem_cons.mpr ⟨rfl, List.forall_mem_cons.mpr ⟨rfl, List.forall_mem_cons.mpr ⟨rfl, List.forall_mem_cons.mpr ⟨rfl, fun _ h => absurd h List.not_mem_nil⟩⟩⟩⟩⟩⟩) (⟨rfl, List.forall_mem_cons.mpr ⟨rfl, List.forall_mem_cons.mpr ⟨rfl, List.forall_mem_cons.mpr ⟨rfl, List.forall_mem_cons.mpr ⟨rfl, List.forall_mem_cons.mpr ⟨rfl, fun _ h => absurd h List.not_mem_nil⟩⟩⟩⟩⟩⟩) (⟨rfl, List.forall_mem_cons.mpr ⟨rfl, List.forall_mem_cons.mpr ⟨rfl, List.forall_mem_cons.mpr ⟨rfl, fun _ h => absurd h List.not_mem_nil⟩⟩⟩⟩) (⟨rfl, List.forall_mem_cons.mpr ⟨rfl, List.forall_mem_cons.mpr ⟨rfl, fun _ h => absurd h List.not_mem_nil⟩⟩⟩) (⟨rfl, List.forall_mem_cons.mpr ⟨rfl, List.forall_mem_cons.mpr ⟨rfl, fun _ h => absurd h List.not_mem_nil⟩⟩⟩) (⟨rfl, List.forall_mem_cons.mpr ⟨rfl, List.forall_mem_cons.mpr ⟨rfl, List.forall_mem_cons.mpr ⟨rfl, List.forall_mem_cons.mpr ⟨rfl, fun _ h => absurd h List.not_mem_nil⟩⟩⟩⟩⟩) (E_m0) hl
      | 9, _ =>
        refine lv_tableIn (tgt := 635) hx hb dL_law_40 (by decide) (by decide) rfl (by decide) ?_
        exact law_case_9 K hW (⟨rfl, List.forall_mem_cons.mpr ⟨rfl, List.forall_mem_cons.mpr ⟨rfl, List.forall_mem_cons.mpr ⟨rfl, List.forall_mem_cons.mpr ⟨rfl, List.forall_mem_cons.mpr ⟨rfl, List.forall_mem_cons.mpr ⟨rfl, List.forall_mem_cons.mpr ⟨rfl, List.forall_mem_cons.mpr ⟨rfl, List.forall_mem_cons.mpr ⟨rfl, List.forall_mem_cons.mpr ⟨rfl, fun _ h => absurd h List.not_mem_nil⟩⟩⟩⟩⟩⟩⟩⟩⟩⟩⟩) (⟨rfl, List.forall_mem_cons.mpr ⟨rfl, List.forall_mem_cons.mpr ⟨rfl, List.forall_mem_cons.mpr ⟨rfl, List.forall_mem_cons.mpr ⟨rfl, List.forall_mem_cons.mpr ⟨rfl, List.forall_mem_cons.mpr ⟨rfl, List.forall_mem_cons.mpr ⟨rfl, List.forall_mem_cons.mpr ⟨rfl, List.forall_mem_cons.mpr ⟨rfl, List.forall_mem_cons.mpr ⟨rfl, fun _ h => absurd h List.not_mem_nil⟩⟩⟩⟩⟩⟩⟩⟩⟩⟩⟩) (⟨rfl, List.forall_mem_cons.mpr ⟨rfl, fun _ h => absurd h List.not_mem_nil⟩⟩) (⟨rfl, List.forall_mem_cons.mpr ⟨rfl, fun _ h => absurd h List.not_mem_nil⟩⟩) (⟨rfl, List.forall_mem_cons.mpr ⟨rfl, fun _ h => absurd h List.not_mem_nil⟩⟩) (⟨rfl, List.forall_mem_cons.mpr ⟨rfl, fun _ h => absurd h List.not_mem_nil⟩⟩) (⟨rfl, List.forall_mem_cons.mpr ⟨rfl, List.forall_mem_cons.mpr ⟨rfl, List.forall_mem_cons.mpr ⟨rfl, List.forall_mem_cons.mpr ⟨rfl, List.forall_mem_cons.mpr ⟨rfl, fun _ h => absurd h List.not_mem_nil⟩⟩⟩⟩⟩⟩) (⟨rfl, List.forall_mem_cons.mpr ⟨rfl, List.forall_mem_cons.mpr ⟨rfl, List.forall_mem_cons.mpr ⟨rfl, List.forall_mem_cons.mpr ⟨rfl, List.forall_mem_cons.mpr ⟨rfl, fun _ h => absurd h List.not_mem_nil⟩⟩⟩⟩⟩⟩) (⟨rfl, List.forall_mem_cons.mpr ⟨rfl, List.forall_mem_cons.mpr ⟨rfl, List.forall_mem_cons.mpr ⟨rfl, fun _ h => absurd h List.not_mem_nil⟩⟩⟩⟩) (⟨rfl, List.forall_mem_cons.mpr ⟨rfl, List.forall_mem_cons.mpr ⟨rfl, fun _ h => absurd h List.not_mem_nil⟩⟩⟩) (⟨rfl, List.forall_mem_cons.mpr ⟨rfl, List.forall_mem_cons.mpr ⟨rfl, fun _ h => absurd h List.not_mem_nil⟩⟩⟩) (⟨rfl, List.forall_mem_cons.mpr ⟨rfl, List.forall_mem_cons.mpr ⟨rfl, List.forall_mem_cons.mpr ⟨rfl, List.forall_mem_cons.mpr ⟨rfl, fun _ h => absurd h List.not_mem_nil⟩⟩⟩⟩⟩) (E_m0) hl
      | 10, _ =>
        refine lv_tableIn (tgt := 715) hx hb dL_law_40 (by decide) (by decide) rfl (by decide) ?_
        exact law_case_10 K hW (⟨rfl, List.forall_mem_cons.mpr ⟨rfl, List.forall_mem_cons.mpr ⟨rfl, List.forall_mem_cons.mpr ⟨rfl, List.forall_mem_cons.mpr ⟨rfl, List.forall_mem_cons.mpr ⟨rfl, List.forall_mem_cons.mpr ⟨rfl, List.forall_mem_cons.mpr ⟨rfl, List.forall_mem_cons.mpr ⟨rfl, List.forall_mem_cons.mpr ⟨rfl, List.forall_mem_cons.mpr ⟨rfl, fun _ h => absurd h List.not_mem_nil⟩⟩⟩⟩⟩⟩⟩⟩⟩⟩⟩) (⟨rfl, List.forall_mem_cons.mpr ⟨rfl, List.forall_mem_cons.mpr ⟨rfl, List.forall_mem_cons.mpr ⟨rfl, List.forall_mem_cons.mpr ⟨rfl, List.forall_mem_cons.mpr ⟨rfl, List.forall_mem_cons.mpr ⟨rfl, List.forall_mem_cons.mpr ⟨rfl, List.forall_mem_cons.mpr ⟨rfl, List.forall_mem_cons.mpr ⟨rfl, List.forall_mem_cons.mpr ⟨rfl, fun _ h => absurd h List.not_mem_nil⟩⟩⟩⟩⟩⟩⟩⟩⟩⟩⟩) (⟨rfl, List.forall_mem_cons.mpr ⟨rfl, fun _ h => absurd h List.not_mem_nil⟩⟩) (⟨rfl, List.forall_mem_cons.mpr ⟨rfl, fun _ h => absurd h List.not_mem_nil⟩⟩) (⟨rfl, List.forall_mem_cons.mpr ⟨rfl, fun _ h => absurd h List.not_mem_nil⟩⟩) (⟨rfl, List.forall_mem_cons.mpr ⟨rfl, fun _ h => absurd h List.not_mem_nil⟩⟩) (⟨rfl, List.forall_mem_cons.mpr ⟨rfl, List.forall_mem_cons.mpr ⟨rfl, List.forall_mem_cons.mpr ⟨rfl, List.forall_mem_cons.mpr ⟨rfl, List.forall_mem_cons.mpr ⟨rfl, fun _ h => absurd h List.not_mem_nil⟩⟩⟩⟩⟩⟩) (⟨rfl, List.forall_mem_cons.mpr ⟨rfl, List.forall_mem_cons.mpr ⟨rfl, List.forall_mem_cons.mpr ⟨rfl, List.forall_mem_cons.mpr ⟨rfl, List.forall_mem_cons.mpr ⟨rfl, fun _ h => absurd h List.not_mem_nil⟩⟩⟩⟩⟩⟩) (⟨rfl, List.forall_mem_cons.mpr ⟨rfl, List.forall_mem_cons.mpr ⟨rfl, List.forall_mem_cons.mpr ⟨rfl, fun _ h => absurd h List.not_mem_nil⟩⟩⟩⟩) (⟨rfl, List.forall_mem_cons.mpr ⟨rfl, List.forall_mem_cons.mpr ⟨rfl, fun _ h => absurd h List.not_mem_nil⟩⟩⟩) (⟨rfl, List.forall_mem_cons.mpr ⟨rfl, List.forall_mem_cons.mpr ⟨rfl, fun _ h => absurd h List.not_mem_nil⟩⟩⟩) (⟨rfl, List.forall_mem_cons.mpr ⟨rfl, List.forall_mem_cons.mpr ⟨rfl, List.forall_mem_cons.mpr ⟨rfl, List.forall_mem_cons.mpr ⟨rfl, fun _ h => absurd h List.not_mem_nil⟩⟩⟩⟩⟩) (E_m0) hl
      | 11, _ =>
        refine lv_tableIn (tgt := 771) hx hb dL_law_40 (by decide) (by decide) rfl (by decide) ?_
        exact law_case_11 K hW (⟨rfl, List.forall_mem_cons.mpr ⟨rfl, List.forall_mem_cons.mpr ⟨rfl, List.forall_mem_cons.mpr ⟨rfl, List.forall_mem_cons.mpr ⟨rfl, List.forall_mem_cons.mpr ⟨rfl, List.forall_mem_cons.mpr ⟨rfl, List.forall_mem_cons.mpr ⟨rfl, List.forall_mem_cons.mpr ⟨rfl, List.forall_mem_cons.mpr ⟨rfl, List.forall_mem_cons.mpr ⟨rfl, fun _ h => absurd h List.not_mem_nil⟩⟩⟩⟩⟩⟩⟩⟩⟩⟩⟩) (⟨rfl, List.forall_mem_cons.mpr ⟨rfl, List.forall_mem_cons.mpr ⟨rfl, List.forall_mem_cons.mpr ⟨rfl, List.forall_mem_cons.mpr ⟨rfl, List.forall_mem_cons.mpr ⟨rfl, List.forall_mem_cons.mpr ⟨rfl, List.forall_mem_cons.mpr ⟨rfl, List.forall_mem_cons.mpr ⟨rfl, List.forall_mem_cons.mpr ⟨rfl, List.forall_mem_cons.mpr ⟨rfl, fun _ h => absurd h List.not_mem_nil⟩⟩⟩⟩⟩⟩⟩⟩⟩⟩⟩) (⟨rfl, List.forall_mem_cons.mpr ⟨rfl, fun _ h => absurd h List.not_mem_nil⟩⟩) (⟨rfl, List.forall_mem_cons.mpr ⟨rfl, fun _ h => absurd h List.not_mem_nil⟩⟩) (⟨rfl, List.forall_mem_cons.mpr ⟨rfl, fun _ h => absurd h List.not_mem_nil⟩⟩) (⟨rfl, List.forall_mem_cons.mpr ⟨rfl, fun _ h => absurd h List.not_mem_nil⟩⟩) (⟨rfl, List.forall_mem_cons.mpr ⟨rfl, List.forall_mem_cons.mpr ⟨rfl, List.forall_mem_cons.mpr ⟨rfl, List.forall_mem_cons.mpr ⟨rfl, List.forall_mem_cons.mpr ⟨rfl, fun _ h => absurd h List.not_mem_nil⟩⟩⟩⟩⟩⟩) (⟨rfl, List.forall_mem_cons.mpr ⟨rfl, List.forall_mem_cons.mpr ⟨rfl, List.forall_mem_cons.mpr ⟨rfl, List.forall_mem_cons.mpr ⟨rfl, List.forall_mem_cons.mpr ⟨rfl, fun _ h => absurd h List.not_mem_nil⟩⟩⟩⟩⟩⟩) (⟨rfl, List.forall_mem_cons.mpr ⟨rfl, List.forall_mem_cons.mpr ⟨rfl, List.forall_mem_cons.mpr ⟨rfl, fun _ h => absurd h List.not_mem_nil⟩⟩⟩⟩) (⟨rfl, List.forall_mem_cons.mpr ⟨rfl, List.forall_mem_cons.mpr ⟨rfl, fun _ h => absurd h List.not_mem_nil⟩⟩⟩) (⟨rfl, List.forall_mem_cons.mpr ⟨rfl, List.forall_mem_cons.mpr ⟨rfl, fun _ h => absurd h List.not_mem_nil⟩⟩⟩) (⟨rfl, List.forall_mem_cons.mpr ⟨rfl, List.forall_mem_cons.mpr ⟨rfl, List.forall_mem_cons.mpr ⟨rfl, List.forall_mem_cons.mpr ⟨rfl, fun _ h => absurd h List.not_mem_nil⟩⟩⟩⟩⟩) (E_m0) hl
      | 12, _ =>
        refine lv_tableIn (tgt := 839) hx hb dL_law_40 (by decide) (by decide) rfl (by decide) ?_
        exact law_case_12 K hW (⟨rfl, List.forall_mem_cons.mpr ⟨rfl, List.forall_mem_cons.mpr ⟨rfl, List.forall_mem_cons.mpr ⟨rfl, List.forall_mem_cons.mpr ⟨rfl, List.forall_mem_cons.mpr ⟨rfl, List.forall_mem_cons.mpr ⟨rfl, List.forall_mem_cons.mpr ⟨rfl, List.forall_mem_cons.mpr ⟨rfl, List.forall_mem_cons.mpr ⟨rfl, List.forall_mem_cons.mpr ⟨rfl, fun _ h => absurd h List.not_mem_nil⟩⟩⟩⟩⟩⟩⟩⟩⟩⟩⟩) (⟨rfl, List.forall_mem_cons.mpr ⟨rfl, List.forall_mem_cons.mpr ⟨rfl, List.forall_mem_cons.mpr ⟨rfl, List.forall_mem_cons.mpr ⟨rfl, List.forall_mem_cons.mpr ⟨rfl, List.forall_mem_cons.mpr ⟨rfl, List.forall_mem_cons.mpr ⟨rfl, List.forall_mem_cons.mpr ⟨rfl, List.forall_mem_cons.mpr ⟨rfl, List.forall_mem_cons.mpr ⟨rfl, fun _ h => absurd h List.not_mem_nil⟩⟩⟩⟩⟩⟩⟩⟩⟩⟩⟩) (⟨rfl, List.forall_mem_cons.mpr ⟨rfl, fun _ h => absurd h List.not_mem_nil⟩⟩) (⟨rfl, List.forall_mem_cons.mpr ⟨rfl, fun _ h => absurd h List.not_mem_nil⟩⟩) (⟨rfl, List.forall_mem_cons.mpr ⟨rfl, fun _ h => absurd h List.not_mem_nil⟩⟩) (⟨rfl, List.forall_mem_cons.mpr ⟨rfl, fun _ h => absurd h List.not_mem_nil⟩⟩) (⟨rfl, List.forall_mem_cons.mpr ⟨rfl, List.forall_mem_cons.mpr ⟨rfl, List.forall_mem_cons.mpr ⟨rfl, List.forall_mem_cons.mpr ⟨rfl, List.forall_mem_cons.mpr ⟨rfl, fun _ h => absurd h List.not_mem_nil⟩⟩⟩⟩⟩⟩) (⟨rfl, List.forall_mem_cons.mpr ⟨rfl, List.forall_mem_cons.mpr ⟨rfl, List.forall_mem_cons.mpr ⟨rfl, List.forall_mem_cons.mpr ⟨rfl, List.forall_mem_cons.mpr ⟨rfl, fun _ h => absurd h List.not_mem_nil⟩⟩⟩⟩⟩⟩) (⟨rfl, List.forall_mem_cons.mpr ⟨rfl, List.forall_mem_cons.mpr ⟨rfl, List.forall_mem_cons.mpr ⟨rfl, fun _ h => absurd h List.not_mem_nil⟩⟩⟩⟩) (⟨rfl, List.forall_mem_cons.mpr ⟨rfl, List.forall_mem_cons.mpr ⟨rfl, fun _ h => absurd h List.not_mem_nil⟩⟩⟩) (⟨rfl, List.forall_mem_cons.mpr ⟨rfl, List.forall_mem_cons.mpr ⟨rfl, fun _ h => absurd h List.not_mem_nil⟩⟩⟩) (⟨rfl, List.forall_mem_cons.mpr ⟨rfl, List.forall_mem_cons.mpr ⟨rfl, List.forall_mem_cons.mpr ⟨rfl, List.forall_mem_cons.mpr ⟨rfl, fun _ h => absurd h List.not_mem_nil⟩⟩⟩⟩⟩) (E_m0) hl
      | 13, _ =>
        refine lv_tableIn (tgt := 907) hx hb dL_law_40 (by decide) (by decide) rfl (by decide) ?_
        exact law_case_13 K hW (⟨rfl, List.forall_mem_cons.mpr ⟨rfl, List.forall_mem_cons.mpr ⟨rfl, List.forall_mem_cons.mpr ⟨rfl, List.forall_mem_cons.mpr ⟨rfl, List.forall_mem_cons.mpr ⟨rfl, List.forall_mem_cons.mpr ⟨rfl, List.forall_mem_cons.mpr ⟨rfl, List.forall_mem_cons.mpr ⟨rfl, List.forall_mem_cons.mpr ⟨rfl, List.forall_mem_cons.mpr ⟨rfl, fun _ h => absurd h List.not_mem_nil⟩⟩⟩⟩⟩⟩⟩⟩⟩⟩⟩) (⟨rfl, List.forall_mem_cons.mpr ⟨rfl, List.forall_mem_cons.mpr ⟨rfl, List.forall_mem_cons.mpr ⟨rfl, List.forall_mem_cons.mpr ⟨rfl, List.forall_mem_cons.mpr ⟨rfl, List.forall_mem_cons.mpr ⟨rfl, List.forall_mem_cons.mpr ⟨rfl, List.forall_mem_cons.mpr ⟨rfl, List.forall_mem_cons.mpr ⟨rfl, List.forall_mem_cons.mpr ⟨rfl, fun _ h => absurd h List.not_mem_nil⟩⟩⟩⟩⟩⟩⟩⟩⟩⟩⟩) (⟨rfl, List.forall_mem_cons.mpr ⟨rfl, fun _ h => absurd h List.not_mem_nil⟩⟩) (⟨rfl, List.forall_mem_cons.mpr ⟨rfl, fun _ h => absurd h List.not_mem_nil⟩⟩) (⟨rfl, List.forall_mem_cons.mpr ⟨rfl, fun _ h => absurd h List.not_mem_nil⟩⟩) (⟨rfl, List.forall_mem_cons.mpr ⟨rfl, fun _ h => absurd h List.not_mem_nil⟩⟩) (⟨rfl, List.forall_mem_cons.mpr ⟨rfl, List.forall_mem_cons.mpr ⟨rfl, List.forall_mem_cons.mpr ⟨rfl, List.forall_mem_cons.mpr ⟨rfl, List.forall_mem_cons.mpr ⟨rfl, fun _ h => absurd h List.not_mem_nil⟩⟩⟩⟩⟩⟩) (⟨rfl, List.forall_mem_cons.mpr ⟨rfl, List.forall_mem_cons.mpr ⟨rfl, List.forall_mem_cons.mpr ⟨rfl, List.forall_mem_cons.mpr ⟨rfl, List.forall_mem_cons.mpr ⟨rfl, fun _ h => absurd h List.not_mem_nil⟩⟩⟩⟩⟩⟩) (⟨rfl, List.forall_mem_cons.mpr ⟨rfl, List.forall_mem_cons.mpr ⟨rfl, List.forall_mem_cons.mpr ⟨rfl, fun _ h => absurd h List.not_mem_nil⟩⟩⟩⟩) (⟨rfl, List.forall_mem_cons.mpr ⟨rfl, List.forall_mem_cons.mpr ⟨rfl, fun _ h => absurd h List.not_mem_nil⟩⟩⟩) (⟨rfl, List.forall_mem_cons.mpr ⟨rfl, List.forall_mem_cons.mpr ⟨rfl, fun _ h => absurd h List.not_mem_nil⟩⟩⟩) (⟨rfl, List.forall_mem_cons.mpr ⟨rfl, List.forall_mem_cons.mpr ⟨rfl, List.forall_mem_cons.mpr ⟨rfl, List.forall_mem_cons.mpr ⟨rfl, fun _ h => absurd h List.not_mem_nil⟩⟩⟩⟩⟩) (E_m0) hl
      | 14, _ =>
        refine lv_tableIn (tgt := 921) hx hb dL_law_40 (by decide) (by decide) rfl (by decide) ?_
        exact law_case_14 K hW (⟨rfl, List.forall_mem_cons.mpr ⟨rfl, List.forall_mem_cons.mpr ⟨rfl, List.forall_mem_cons.mpr ⟨rfl, List.forall_mem_cons.mpr ⟨rfl, List.forall_mem_cons.mpr ⟨rfl, List.forall_mem_cons.mpr ⟨rfl, List.forall_mem_cons.mpr ⟨rfl, List.forall_mem_cons.mpr ⟨rfl, List.forall_mem_cons.mpr ⟨rfl, List.forall_mem_cons.mpr ⟨rfl, fun _ h => absurd h List.not_mem_nil⟩⟩⟩⟩⟩⟩⟩⟩⟩⟩⟩) (⟨rfl, List.forall_mem_cons.mpr ⟨rfl, List.forall_mem_cons.mpr ⟨rfl, List.forall_mem_cons.mpr ⟨rfl, List.forall_mem_cons.mpr ⟨rfl, List.forall_mem_cons.mpr ⟨rfl, List.forall_mem_cons.mpr ⟨rfl, List.forall_mem_cons.mpr ⟨rfl, List.forall_mem_cons.mpr ⟨rfl, List.forall_mem_cons.mpr ⟨rfl, List.forall_mem_cons.mpr ⟨rfl, fun _ h => absurd h List.not_mem_nil⟩⟩⟩⟩⟩⟩⟩⟩⟩⟩⟩) (⟨rfl, List.forall_mem_cons.mpr ⟨rfl, fun _ h => absurd h List.not_mem_nil⟩⟩) (⟨rfl, List.forall_mem_cons.mpr ⟨rfl, fun _ h => absurd h List.not_mem_nil⟩⟩) (⟨rfl, List.forall_mem_cons.mpr ⟨rfl, fun _ h => absurd h List.not_mem_nil⟩⟩) (⟨rfl, List.forall_mem_cons.mpr ⟨rfl, fun _ h => absurd h List.not_mem_nil⟩⟩) (⟨rfl, List.forall_mem_cons.mpr ⟨rfl, List.forall_mem_cons.mpr ⟨rfl, List.forall_mem_cons.mpr ⟨rfl, List.forall_mem_cons.mpr ⟨rfl, List.forall_mem_cons.mpr ⟨rfl, fun _ h => absurd h List.not_mem_nil⟩⟩⟩⟩⟩⟩) (⟨rfl, List.forall_mem_cons.mpr ⟨rfl, List.forall_mem_cons.mpr ⟨rfl, List.forall_mem_cons.mpr ⟨rfl, List.forall_mem_cons.mpr ⟨rfl, List.forall_mem_cons.mpr ⟨rfl, fun _ h => absurd h List.not_mem_nil⟩⟩⟩⟩⟩⟩) (⟨rfl, List.forall_mem_cons.mpr ⟨rfl, List.forall_mem_cons.mpr ⟨rfl, List.forall_mem_cons.mpr ⟨rfl, fun _ h => absurd h List.not_mem_nil⟩⟩⟩⟩) (⟨rfl, List.forall_mem_cons.mpr ⟨rfl, List.forall_mem_cons.mpr ⟨rfl, fun _ h => absurd h List.not_mem_nil⟩⟩⟩) (⟨rfl, List.forall_mem_cons.mpr ⟨rfl, List.forall_mem_cons.mpr ⟨rfl, fun _ h => absurd h List.not_mem_nil⟩⟩⟩) (⟨rfl, List.forall_mem_cons.mpr ⟨rfl, List.forall_mem_cons.mpr ⟨rfl, List.forall_mem_cons.mpr ⟨rfl, List.forall_mem_cons.mpr ⟨rfl, fun _ h => absurd h List.not_mem_nil⟩⟩⟩⟩⟩) (E_m0) hl
      | 15, _ =>
        refine lv_tableIn (tgt := 1004) hx hb dL_law_40 (by decide) (by decide) rfl (by decide) ?_
        exact law_case_15 K hW (⟨rfl, List.forall_mem_cons.mpr ⟨rfl, List.forall_mem_cons.mpr ⟨rfl, List.forall_mem_cons.mpr ⟨rfl, List.forall_mem_cons.mpr ⟨rfl, List.forall_mem_cons.mpr ⟨rfl, List.forall_mem_cons.mpr ⟨rfl, List.forall_mem_cons.mpr ⟨rfl, List.forall_mem_cons.mpr ⟨rfl, List.forall_mem_cons.mpr ⟨rfl, List.forall_mem_cons.mpr ⟨rfl, fun _ h => absurd h List.not_mem_nil⟩⟩⟩⟩⟩⟩⟩⟩⟩⟩⟩) (⟨rfl, List.forall_mem_cons.mpr ⟨rfl, List.forall_mem_cons.mpr ⟨rfl, List.forall_mem_cons.mpr ⟨rfl, List.forall_mem_cons.mpr ⟨rfl, List.forall_mem_cons.mpr ⟨rfl, List.forall_mem_cons.mpr ⟨rfl, List.forall_mem_cons.mpr ⟨rfl, List.forall_mem_cons.mpr ⟨rfl, List.forall_mem_cons.mpr ⟨rfl, List.forall_mem_cons.mpr ⟨rfl, fun _ h => absurd h List.not_mem_nil⟩⟩⟩⟩⟩⟩⟩⟩⟩⟩⟩) (⟨rfl, List.forall_mem_cons.mpr ⟨rfl, fun _ h => absurd h List.not_mem_nil⟩⟩) (⟨rfl, List.forall_mem_cons.mpr ⟨rfl, fun _ h => absurd h List.not_mem_nil⟩⟩) (⟨rfl, List.forall_mem_cons.mpr ⟨rfl, fun _ h => absurd h List.not_mem_nil⟩⟩) (⟨rfl, List.forall_mem_cons.mpr ⟨rfl, fun _ h => absurd h List.not_mem_nil⟩⟩) (⟨rfl, List.forall_mem_cons.mpr ⟨rfl, List.forall_mem_cons.mpr ⟨rfl, List.forall_mem_cons.mpr ⟨rfl, List.forall_mem_cons.mpr ⟨rfl, List.forall_mem_cons.mpr ⟨rfl, fun _ h => absurd h List.not_mem_nil⟩⟩⟩⟩⟩⟩) (⟨rfl, List.forall_mem_cons.mpr ⟨rfl, List.forall_mem_cons.mpr ⟨rfl, List.forall_mem_cons.mpr ⟨rfl, List.forall_mem_cons.mpr ⟨rfl, List.forall_mem_cons.mpr ⟨rfl, fun _ h => absurd h List.not_mem_nil⟩⟩⟩⟩⟩⟩) (⟨rfl, List.forall_mem_cons.mpr ⟨rfl, List.forall_mem_cons.mpr ⟨rfl, List.forall_mem_cons.mpr ⟨rfl, fun _ h => absurd h List.not_mem_nil⟩⟩⟩⟩) (⟨rfl, List.forall_mem_cons.mpr ⟨rfl, List.forall_mem_cons.mpr ⟨rfl, fun _ h => absurd h List.not_mem_nil⟩⟩⟩) (⟨rfl, List.forall_mem_cons.mpr ⟨rfl, List.forall_mem_cons.mpr ⟨rfl, fun _ h => absurd h List.not_mem_nil⟩⟩⟩) (⟨rfl, List.forall_mem_cons.mpr ⟨rfl, List.forall_mem_cons.mpr ⟨rfl, List.forall_mem_cons.mpr ⟨rfl, List.forall_mem_cons.mpr ⟨rfl, fun _ h => absurd h List.not_mem_nil⟩⟩⟩⟩⟩) (E_m0) hl
      | 16, _ =>
        refine lv_tableIn (tgt := 1029) hx hb dL_law_40 (by decide) (by decide) rfl (by decide) ?_
        exact law_case_16 K hW (⟨rfl, List.forall_mem_cons.mpr ⟨rfl, List.forall_mem_cons.mpr ⟨rfl, List.forall_mem_cons.mpr ⟨rfl, List.forall_mem_cons.mpr ⟨rfl, List.forall_mem_cons.mpr ⟨rfl, List.forall_mem_cons.mpr ⟨rfl, List.forall_mem_cons.mpr ⟨rfl, List.forall_mem_cons.mpr ⟨rfl, List.forall_mem_cons.mpr ⟨rfl, List.forall_mem_cons.mpr ⟨rfl, fun _ h => absurd h List.not_mem_nil⟩⟩⟩⟩⟩⟩⟩⟩⟩⟩⟩) (⟨rfl, List.forall_mem_cons.mpr ⟨rfl, List.forall_mem_cons.mpr ⟨rfl, List.forall_mem_cons.mpr ⟨rfl, List.forall_mem_cons.mpr ⟨rfl, List.forall_mem_cons.mpr ⟨rfl, List.forall_mem_cons.mpr ⟨rfl, List.forall_mem_cons.mpr ⟨rfl, List.forall_mem_cons.mpr ⟨rfl, List.forall_mem_cons.mpr ⟨rfl, List.forall_mem_cons.mpr ⟨rfl, fun _ h => absurd h List.not_mem_nil⟩⟩⟩⟩⟩⟩⟩⟩⟩⟩⟩) (⟨rfl, List.forall_mem_cons.mpr ⟨rfl, fun _ h => absurd h List.not_mem_nil⟩⟩) (⟨rfl, List.forall_mem_cons.mpr ⟨rfl, fun _ h => absurd h List.not_mem_nil⟩⟩) (⟨rfl, List.forall_mem_cons.mpr ⟨rfl, fun _ h => absurd h List.not_mem_nil⟩⟩) (⟨rfl, List.forall_mem_cons.mpr ⟨rfl, fun _ h => absurd h List.not_mem_nil⟩⟩) (⟨rfl, List.forall_mem_cons.mpr ⟨rfl, List.forall_mem_cons.mpr ⟨rfl, List.forall_mem_cons.mpr ⟨rfl, List.forall_mem_cons.mpr ⟨rfl, List.forall_mem_cons.mpr ⟨rfl, fun _ h => absurd h List.not_mem_nil⟩⟩⟩⟩⟩⟩) (⟨rfl, List.forall_mem_cons.mpr ⟨rfl, List.forall_mem_cons.mpr ⟨rfl, List.forall_mem_cons.mpr ⟨rfl, List.forall_mem_cons.mpr ⟨rfl, List.forall_mem_cons.mpr ⟨rfl, fun _ h => absurd h List.not_mem_nil⟩⟩⟩⟩⟩⟩) (⟨rfl, List.forall_mem_cons.mpr ⟨rfl, List.forall_mem_cons.mpr ⟨rfl, List.forall_mem_cons.mpr ⟨rfl, fun _ h => absurd h List.not_mem_nil⟩⟩⟩⟩) (⟨rfl, List.forall_mem_cons.mpr ⟨rfl, List.forall_mem_cons.mpr ⟨rfl, fun _ h => absurd h List.not_mem_nil⟩⟩⟩) (⟨rfl, List.forall_mem_cons.mpr ⟨rfl, List.forall_mem_cons.mpr ⟨rfl, fun _ h => absurd h List.not_mem_nil⟩⟩⟩) (⟨rfl, List.forall_mem_cons.mpr ⟨rfl, List.forall_mem_cons.mpr ⟨rfl, List.forall_mem_cons.mpr ⟨rfl, List.forall_mem_cons.mpr ⟨rfl, fun _ h => absurd h List.not_mem_nil⟩⟩⟩⟩⟩) (E_m0) hl
      | 17, _ =>
        refine lv_tableIn (tgt := 1097) hx hb dL_law_40 (by decide) (by decide) rfl (by decide) ?_
        exact law_case_17 K hW (⟨rfl, List.forall_mem_cons.mpr ⟨rfl, List.forall_mem_cons.mpr ⟨rfl, List.forall_mem_cons.mpr ⟨rfl, List.forall_mem_cons.mpr ⟨rfl, List.forall_mem_cons.mpr ⟨rfl, List.forall_mem_cons.mpr ⟨rfl, List.forall_mem_cons.mpr ⟨rfl, List.forall_mem_cons.mpr ⟨rfl, List.forall_mem_cons.mpr ⟨rfl, List.forall_mem_cons.mpr ⟨rfl, fun _ h => absurd h List.not_mem_nil⟩⟩⟩⟩⟩⟩⟩⟩⟩⟩⟩) (⟨rfl, List.forall_mem_cons.mpr ⟨rfl, List.forall_mem_cons.mpr ⟨rfl, List.forall_mem_cons.mpr ⟨rfl, List.forall_mem_cons.mpr ⟨rfl, List.forall_mem_cons.mpr ⟨rfl, List.forall_mem_cons.mpr ⟨rfl, List.forall_mem_cons.mpr ⟨rfl, List.forall_mem_cons.mpr ⟨rfl, List.forall_mem_cons.mpr ⟨rfl, List.forall_mem_cons.mpr ⟨rfl, fun _ h => absurd h List.not_mem_nil⟩⟩⟩⟩⟩⟩⟩⟩⟩⟩⟩) (⟨rfl, List.forall_mem_cons.mpr ⟨rfl, fun _ h => absurd h List.not_mem_nil⟩⟩) (⟨rfl, List.forall_mem_cons.mpr ⟨rfl, fun _ h => absurd h List.not_mem_nil⟩⟩) (⟨rfl, List.forall_mem_cons.mpr ⟨rfl, fun _ h => absurd h List.not_mem_nil⟩⟩) (⟨rfl, List.forall_mem_cons.mpr ⟨rfl, fun _ h => absurd h List.not_mem_nil⟩⟩) (⟨rfl, List.forall_mem_cons.mpr ⟨rfl, List.forall_mem_cons.mpr ⟨rfl, List.forall_mem_cons.mpr ⟨rfl, List.forall_mem_cons.mpr ⟨rfl, List.forall_mem_cons.mpr ⟨rfl, fun _ h => absurd h List.not_mem_nil⟩⟩⟩⟩⟩⟩) (⟨rfl, List.forall_mem_cons.mpr ⟨rfl, List.forall_mem_cons.mpr ⟨rfl, List.forall_mem_cons.mpr ⟨rfl, List.forall_mem_cons.mpr ⟨rfl, List.forall_mem_cons.mpr ⟨rfl, fun _ h => absurd h List.not_mem_nil⟩⟩⟩⟩⟩⟩) (⟨rfl, List.forall_mem_cons.mpr ⟨rfl, List.forall_mem_cons.mpr ⟨rfl, List.forall_mem_cons.mpr ⟨rfl, fun _ h => absurd h List.not_mem_nil⟩⟩⟩⟩) (⟨rfl, List.forall_mem_cons.mpr ⟨rfl, List.forall_mem_cons.mpr ⟨rfl, fun _ h => absurd h List.not_mem_nil⟩⟩⟩) (⟨rfl, List.forall_mem_cons.mpr ⟨rfl, List.forall_mem_cons.mpr ⟨rfl, fun _ h => absurd h List.not_mem_nil⟩⟩⟩) (⟨rfl, List.forall_mem_cons.mpr ⟨rfl, List.forall_mem_cons.mpr ⟨rfl, List.forall_mem_cons.mpr ⟨rfl, List.forall_mem_cons.mpr ⟨rfl, fun _ h => absurd h List.not_mem_nil⟩⟩⟩⟩⟩) (E_m0) hl
      | 18, _ =>
        refine lv_tableIn (tgt := 1153) hx hb dL_law_40 (by decide) (by decide) rfl (by decide) ?_
        exact law_case_18 K hW (⟨rfl, List.forall_mem_cons.mpr ⟨rfl, List.forall_mem_cons.mpr ⟨rfl, List.forall_mem_cons.mpr ⟨rfl, List.forall_mem_cons.mpr ⟨rfl, List.forall_mem_cons.mpr ⟨rfl, List.forall_mem_cons.mpr ⟨rfl, List.forall_mem_cons.mpr ⟨rfl, List.forall_mem_cons.mpr ⟨rfl, List.forall_mem_cons.mpr ⟨rfl, List.forall_mem_cons.mpr ⟨rfl, fun _ h => absurd h List.not_mem_nil⟩⟩⟩⟩⟩⟩⟩⟩⟩⟩⟩) (⟨rfl, List.forall_mem_cons.mpr ⟨rfl, List.forall_mem_cons.mpr ⟨rfl, List.forall_mem_cons.mpr ⟨rfl, List.forall_mem_cons.mpr ⟨rfl, List.forall_mem_cons.mpr ⟨rfl, List.forall_mem_cons.mpr ⟨rfl, List.forall_mem_cons.mpr ⟨rfl, List.forall_mem_cons.mpr ⟨rfl, List.forall_mem_cons.mpr ⟨rfl, List.forall_mem_cons.mpr ⟨rfl, fun _ h => absurd h List.not_mem_nil⟩⟩⟩⟩⟩⟩⟩⟩⟩⟩⟩) (⟨rfl, List.forall_mem_cons.mpr ⟨rfl, fun _ h => absurd h List.not_mem_nil⟩⟩) (⟨rfl, List.forall_mem_cons.mpr ⟨rfl, fun _ h => absurd h List.not_mem_nil⟩⟩) (⟨rfl, List.forall_mem_cons.mpr ⟨rfl, fun _ h => absurd h List.not_mem_nil⟩⟩) (⟨rfl, List.forall_mem_cons.mpr ⟨rfl, fun _ h => absurd h List.not_mem_nil⟩⟩) (⟨rfl, List.forall_mem_cons.mpr ⟨rfl, List.forall_mem_cons.mpr ⟨rfl, List.forall_mem_cons.mpr ⟨rfl, List.forall_mem_cons.mpr ⟨rfl, List.forall_mem_cons.mpr ⟨rfl, fun _ h => absurd h List.not_mem_nil⟩⟩⟩⟩⟩⟩) (⟨rfl, List.forall_mem_cons.mpr ⟨rfl, List.forall_mem_cons.mpr ⟨rfl, List.forall_mem_cons.mpr ⟨rfl, List.forall_mem_cons.mpr ⟨rfl, List.forall_mem_cons.mpr ⟨rfl, fun _ h => absurd h List.not_mem_nil⟩⟩⟩⟩⟩⟩) (⟨rfl, List.forall_mem_cons.mpr ⟨rfl, List.forall_mem_cons.mpr ⟨rfl, List.forall_mem_cons.mpr ⟨rfl, fun _ h => absurd h List.not_mem_nil⟩⟩⟩⟩) (⟨rfl, List.forall_mem_cons.mpr ⟨rfl, List.forall_mem_cons.mpr ⟨rfl, fun _ h => absurd h List.not_mem_nil⟩⟩⟩) (⟨rfl, List.forall_mem_cons.mpr ⟨rfl, List.forall_mem_cons.mpr ⟨rfl, fun _ h => absurd h List.not_mem_nil⟩⟩⟩) (⟨rfl, List.forall_mem_cons.mpr ⟨rfl, List.forall_mem_cons.mpr ⟨rfl, List.forall_mem_cons.mpr ⟨rfl, List.forall_mem_cons.mpr ⟨rfl, fun _ h => absurd h List.not_mem_nil⟩⟩⟩⟩⟩) (E_m0) hl
      | 19, _ =>
        refine lv_tableIn (tgt := 1209) hx hb dL_law_40 (by decide) (by decide) rfl (by decide) ?_
        exact law_case_19 K hW (⟨rfl, List.forall_mem_cons.mpr ⟨rfl, List.forall_mem_cons.mpr ⟨rfl, List.forall_mem_cons.mpr ⟨rfl, List.forall_mem_cons.mpr ⟨rfl, List.forall_mem_cons.mpr ⟨rfl, List.forall_mem_cons.mpr ⟨rfl, List.forall_mem_cons.mpr ⟨rfl, List.forall_mem_cons.mpr ⟨rfl, List.forall_mem_cons.mpr ⟨rfl, List.forall_mem_cons.mpr ⟨rfl, fun _ h => absurd h List.not_mem_nil⟩⟩⟩⟩⟩⟩⟩⟩⟩⟩⟩) (⟨rfl, List.forall_mem_cons.mpr ⟨rfl, List.forall_mem_cons.mpr ⟨rfl, List.forall_mem_cons.mpr ⟨rfl, List.forall_mem_cons.mpr ⟨rfl, List.forall_mem_cons.mpr ⟨rfl, List.forall_mem_cons.mpr ⟨rfl, List.forall_mem_cons.mpr ⟨rfl, List.forall_mem_cons.mpr ⟨rfl, List.forall_mem_cons.mpr ⟨rfl, List.forall_mem_cons.mpr ⟨rfl, fun _ h => absurd h List.not_mem_nil⟩⟩⟩⟩⟩⟩⟩⟩⟩⟩⟩) (⟨rfl, List.forall_mem_cons.mpr ⟨rfl, fun _ h => absurd h List.not_mem_nil⟩⟩) (⟨rfl, List.forall_mem_cons.mpr ⟨rfl, fun _ h => absurd h List.not_mem_nil⟩⟩) (⟨rfl, List.forall_mem_cons.mpr ⟨rfl, fun _ h => absurd h List.not_mem_nil⟩⟩) (⟨rfl, List.forall_mem_cons.mpr ⟨rfl, fun _ h => absurd h List.not_mem_nil⟩⟩) (⟨rfl, List.forall_mem_cons.mpr ⟨rfl, List.forall_mem_cons.mpr ⟨rfl, List.forall_mem_cons.mpr ⟨rfl, List.forall_mem_cons.mpr ⟨rfl, List.forall_mem_cons.mpr ⟨rfl, fun _ h => absurd h List.not_mem_nil⟩⟩⟩⟩⟩⟩) (⟨rfl, List.forall_mem_cons.mpr ⟨rfl, List.forall_mem_cons.mpr ⟨rfl, List.forall_mem_cons.mpr ⟨rfl, List.forall_mem_cons.mpr ⟨rfl, List.forall_mem_cons.mpr ⟨rfl, fun _ h => absurd h List.not_mem_nil⟩⟩⟩⟩⟩⟩) (⟨rfl, List.forall_mem_cons.mpr ⟨rfl, List.forall_mem_cons.mpr ⟨rfl, List.forall_mem_cons.mpr ⟨rfl, fun _ h => absurd h List.not_mem_nil⟩⟩⟩⟩) (⟨rfl, List.forall_mem_cons.mpr ⟨rfl, List.forall_mem_cons.mpr ⟨rfl, fun _ h => absurd h List.not_mem_nil⟩⟩⟩) (⟨rfl, List.forall_mem_cons.mpr ⟨rfl, List.forall_mem_cons.mpr ⟨rfl, fun _ h => absurd h List.not_mem_nil⟩⟩⟩) (⟨rfl, List.forall_mem_cons.mpr ⟨rfl, List.forall_mem_cons.mpr ⟨rfl, List.forall_mem_cons.mpr ⟨rfl, List.forall_mem_cons.mpr ⟨rfl, fun _ h => absurd h List.not_mem_nil⟩⟩⟩⟩⟩) (E_m0) hl
      | 20, _ =>
        refine lv_tableIn (tgt := 1284) hx hb dL_law_40 (by decide) (by decide) rfl (by decide) ?_
        exact law_case_20 K hW (⟨rfl, List.forall_mem_cons.mpr ⟨rfl, List.forall_mem_cons.mpr ⟨rfl, List.forall_mem_cons.mpr ⟨rfl, List.forall_mem_cons.mpr ⟨rfl, List.forall_mem_cons.mpr ⟨rfl, List.forall_mem_cons.mpr ⟨rfl, List.forall_mem_cons.mpr ⟨rfl, List.forall_mem_cons.mpr ⟨rfl, List.forall_mem_cons.mpr ⟨rfl, List.forall_mem_cons.mpr ⟨rfl, fun _ h => absurd h List.not_mem_nil⟩⟩⟩⟩⟩⟩⟩⟩⟩⟩⟩) (⟨rfl, List.forall_mem_cons.mpr ⟨rfl, List.forall_mem_cons.mpr ⟨rfl, List.forall_mem_cons.mpr ⟨rfl, List.forall_mem_cons.mpr ⟨rfl, List.forall_mem_cons.mpr ⟨rfl, List.forall_mem_cons.mpr ⟨rfl, List.forall_mem_cons.mpr ⟨rfl, List.forall_mem_cons.mpr ⟨rfl, List.forall_mem_cons.mpr ⟨rfl, List.forall_mem_cons.mpr ⟨rfl, fun _ h => absurd h List.not_mem_nil⟩⟩⟩⟩⟩⟩⟩⟩⟩⟩⟩) (⟨rfl, List.forall_mem_cons.mpr ⟨rfl, fun _ h => absurd h List.not_mem_nil⟩⟩) (⟨rfl, List.forall_mem_cons.mpr ⟨rfl, fun _ h => absurd h List.not_mem_nil⟩⟩) (⟨rfl, List.forall_mem_cons.mpr ⟨rfl, fun _ h => absurd h List.not_mem_nil⟩⟩) (⟨rfl, List.forall_mem_cons.mpr ⟨rfl, fun _ h => absurd h List.not_mem_nil⟩⟩) (⟨rfl, List.forall_mem_cons.mpr ⟨rfl, List.forall_mem_cons.mpr ⟨rfl, List.forall_mem_cons.mpr ⟨rfl, List.forall_mem_cons.mpr ⟨rfl, List.forall_mem_cons.mpr ⟨rfl, fun _ h => absurd h List.not_mem_nil⟩⟩⟩⟩⟩⟩) (⟨rfl, List.forall_mem_cons.mpr ⟨rfl, List.forall_mem_cons.mpr ⟨rfl, List.forall_mem_cons.mpr ⟨rfl, List.forall_mem_cons.mpr ⟨rfl, List.forall_mem_cons.mpr ⟨rfl, fun _ h => absurd h List.not_mem_nil⟩⟩⟩⟩⟩⟩) (⟨rfl, List.forall_mem_cons.mpr ⟨rfl, List.forall_mem_cons.mpr ⟨rfl, List.forall_mem_cons.mpr ⟨rfl, fun _ h => absurd h List.not_mem_nil⟩⟩⟩⟩) (⟨rfl, List.forall_mem_cons.mpr ⟨rfl, List.forall_mem_cons.mpr ⟨rfl, fun _ h => absurd h List.not_mem_nil⟩⟩⟩) (⟨rfl, List.forall_mem_cons.mpr ⟨rfl, List.forall_mem_cons.mpr ⟨rfl, fun _ h => absurd h List.not_mem_nil⟩⟩⟩) (⟨rfl, List.forall_mem_cons.mpr ⟨rfl, List.forall_mem_cons.mpr ⟨rfl, List.forall_mem_cons.mpr ⟨rfl, List.forall_mem_cons.mpr ⟨rfl, fun _ h => absurd h List.not_mem_nil⟩⟩⟩⟩⟩) (E_m0) hl
      | 21, _ =>
        refine lv_tableIn (tgt := 1364) hx hb dL_law_40 (by decide) (by decide) rfl (by decide) ?_
        exact law_case_21 K hW (⟨rfl, List.forall_mem_cons.mpr ⟨rfl, List.forall_mem_cons.mpr ⟨rfl, List.forall_mem_cons.mpr ⟨rfl, List.forall_mem_cons.mpr ⟨rfl, List.forall_mem_cons.mpr ⟨rfl, List.forall_mem_cons.mpr ⟨rfl, List.forall_mem_cons.mpr ⟨rfl, List.forall_mem_cons.mpr ⟨rfl, List.forall_mem_cons.mpr ⟨rfl, List.forall_mem_cons.mpr ⟨rfl, fun _ h => absurd h List.not_mem_nil⟩⟩⟩⟩⟩⟩⟩⟩⟩⟩⟩) (⟨rfl, List.forall_mem_cons.mpr ⟨rfl, List.forall_mem_cons.mpr ⟨rfl, List.forall_mem_cons.mpr ⟨rfl, List.forall_mem_cons.mpr ⟨rfl, List.forall_mem_cons.mpr ⟨rfl, List.forall_mem_cons.mpr ⟨rfl, List.forall_mem_cons.mpr ⟨rfl, List.forall_mem_cons.mpr ⟨rfl, List.forall_mem_cons.mpr ⟨rfl, List.forall_mem_cons.mpr ⟨rfl, fun _ h => absurd h List.not_mem_nil⟩⟩⟩⟩⟩⟩⟩⟩⟩⟩⟩) (⟨rfl, List.forall_mem_cons.mpr ⟨rfl, fun _ h => absurd h List.not_mem_nil⟩⟩) (⟨rfl, List.forall_mem_cons.mpr ⟨rfl, fun _ h => absurd h List.not_mem_nil⟩⟩) (⟨rfl, List.forall_mem_cons.mpr ⟨rfl, fun _ h => absurd h List.not_mem_nil⟩⟩) (⟨rfl, List.forall_mem_cons.mpr ⟨rfl, fun _ h => absurd h List.not_mem_nil⟩⟩) (⟨rfl, List.forall_mem_cons.mpr ⟨rfl, List.forall_mem_cons.mpr ⟨rfl, List.forall_mem_cons.mpr ⟨rfl, List.forall_mem_cons.mpr ⟨rfl, List.forall_mem_cons.mpr ⟨rfl, fun _ h => absurd h List.not_mem_nil⟩⟩⟩⟩⟩⟩) (⟨rfl, List.forall_mem_cons.mpr ⟨rfl, List.forall_mem_cons.mpr ⟨rfl, List.forall_mem_cons.mpr ⟨rfl, List.forall_mem_cons.mpr ⟨rfl, List.forall_mem_cons.mpr ⟨rfl, fun _ h => absurd h List.not_mem_nil⟩⟩⟩⟩⟩⟩) (⟨rfl, List.forall_mem_cons.mpr ⟨rfl, List.forall_mem_cons.mpr ⟨rfl, List.forall_mem_cons.mpr ⟨rfl, fun _ h => absurd h List.not_mem_nil⟩⟩⟩⟩) (⟨rfl, List.forall_mem_cons.mpr ⟨rfl, List.forall_mem_cons.mpr ⟨rfl, fun _ h => absurd h List.not_mem_nil⟩⟩⟩) (⟨rfl, List.forall_mem_cons.mpr ⟨rfl, List.forall_mem_cons.mpr ⟨rfl, fun _ h => absurd h List.not_mem_nil⟩⟩⟩) (⟨rfl, List.forall_mem_cons.mpr ⟨rfl, List.forall_mem_cons.mpr ⟨rfl, List.forall_mem_cons.mpr ⟨rfl, List.forall_mem_cons.mpr ⟨rfl, fun _ h => absurd h List.not_mem_nil⟩⟩⟩⟩⟩) (E_m0) hl
      | 22, _ =>
        refine lv_tableIn (tgt := 1420) hx hb dL_law_40 (by decide) (by decide) rfl (by decide) ?_
        exact law_case_22 K hW (⟨rfl, List.forall_mem_cons.mpr ⟨rfl, List.forall_mem_cons.mpr ⟨rfl, List.forall_mem_cons.mpr ⟨rfl, List.forall_mem_cons.mpr ⟨rfl, List.forall_mem_cons.mpr ⟨rfl, List.forall_mem_cons.mpr ⟨rfl, List.forall_mem_cons.mpr ⟨rfl, List.forall_mem_cons.mpr ⟨rfl, List.forall_mem_cons.mpr ⟨rfl, List.forall_mem_cons.mpr ⟨rfl, fun _ h => absurd h List.not_mem_nil⟩⟩⟩⟩⟩⟩⟩⟩⟩⟩⟩) (⟨rfl, List.forall_mem_cons.mpr ⟨rfl, List.forall_mem_cons.mpr ⟨rfl, List.forall_mem_cons.mpr ⟨rfl, List.forall_mem_cons.mpr ⟨rfl, List.forall_mem_cons.mpr ⟨rfl, List.forall_mem_cons.mpr ⟨rfl, List.forall_mem_cons.mpr ⟨rfl, List.forall_mem_cons.mpr ⟨rfl, List.forall_mem_cons.mpr ⟨rfl, List.forall_mem_cons.mpr ⟨rfl, fun _ h => absurd h List.not_mem_nil⟩⟩⟩⟩⟩⟩⟩⟩⟩⟩⟩) (⟨rfl, List.forall_mem_cons.mpr ⟨rfl, fun _ h => absurd h List.not_mem_nil⟩⟩) (⟨rfl, List.forall_mem_cons.mpr ⟨rfl, fun _ h => absurd h List.not_mem_nil⟩⟩) (⟨rfl, List.forall_mem_cons.mpr ⟨rfl, fun _ h => absurd h List.not_mem_nil⟩⟩) (⟨rfl, List.forall_mem_cons.mpr ⟨rfl, fun _ h => absurd h List.not_mem_nil⟩⟩) (⟨rfl, List.forall_mem_cons.mpr ⟨rfl, List.forall_mem_cons.mpr ⟨rfl, List.forall_mem_cons.mpr ⟨rfl, List.forall_mem_cons.mpr ⟨rfl, List.forall_mem_cons.mpr ⟨rfl, fun _ h => absurd h List.not_mem_nil⟩⟩⟩⟩⟩⟩) (⟨rfl, List.forall_mem_cons.mpr ⟨rfl, List.forall_mem_cons.mpr ⟨rfl, List.forall_mem_cons.mpr ⟨rfl, List.forall_mem_cons.mpr ⟨rfl, List.forall_mem_cons.mpr ⟨rfl, fun _ h => absurd h List.not_mem_nil⟩⟩⟩⟩⟩⟩) (⟨rfl, List.forall_mem_cons.mpr ⟨rfl, List.forall_mem_cons.mpr ⟨rfl, List.forall_mem_cons.mpr ⟨rfl, fun _ h => absurd h List.not_mem_nil⟩⟩⟩⟩) (⟨rfl, List.forall_mem_cons.mpr ⟨rfl, List.forall_mem_cons.mpr ⟨rfl, fun _ h => absurd h List.not_mem_nil⟩⟩⟩) (⟨rfl, List.forall_mem_cons.mpr ⟨rfl, List.forall_mem_cons.mpr ⟨rfl, fun _ h => absurd h List.not_mem_nil⟩⟩⟩) (⟨rfl, List.forall_mem_cons.mpr ⟨rfl, List.forall_mem_cons.mpr ⟨rfl, List.forall_mem_cons.mpr ⟨rfl, List.forall_mem_cons.mpr ⟨rfl, fun _ h => absurd h List.not_mem_nil⟩⟩⟩⟩⟩) (E_m0) hl
      | 23, _ =>
        refine lv_tableIn (tgt := 1476) hx hb dL_law_40 (by decide) (by decide) rfl (by decide) ?_
        exact law_case_23 K hW (⟨rfl, List.forall_mem_cons.mpr ⟨rfl, List.forall_mem_cons.mpr ⟨rfl, List.forall_mem_cons.mpr ⟨rfl, List.forall_mem_cons.mpr ⟨rfl, List.forall_mem_cons.mpr ⟨rfl, List.forall_mem_cons.mpr ⟨rfl, List.forall_mem_cons.mpr ⟨rfl, List.forall_mem_cons.mpr ⟨rfl, List.forall_mem_cons.mpr ⟨rfl, List.forall_mem_cons.mpr ⟨rfl, fun _ h => absurd h List.not_mem_nil⟩⟩⟩⟩⟩⟩⟩⟩⟩⟩⟩) (⟨rfl, List.forall_mem_cons.mpr ⟨rfl, List.forall_mem_cons.mpr ⟨rfl, List.forall_mem_cons.mpr ⟨rfl, List.forall_mem_cons.mpr ⟨rfl, List.forall_mem_cons.mpr ⟨rfl, List.forall_mem_cons.mpr ⟨rfl, List.forall_mem_cons.mpr ⟨rfl, List.forall_mem_cons.mpr ⟨rfl, List.forall_mem_cons.mpr ⟨rfl, List.forall_mem_cons.mpr ⟨rfl, fun _ h => absurd h List.not_mem_nil⟩⟩⟩⟩⟩⟩⟩⟩⟩⟩⟩) (⟨rfl, List.forall_mem_cons.mpr ⟨rfl, fun _ h => absurd h List.not_mem_nil⟩⟩) (⟨rfl, List.forall_mem_cons.mpr ⟨rfl, fun _ h => absurd h List.not_mem_nil⟩⟩) (⟨rfl, List.forall_mem_cons.mpr ⟨rfl, fun _ h => absurd h List.not_mem_nil⟩⟩) (⟨rfl, List.forall_mem_cons.mpr ⟨rfl, fun _ h => absurd h List.not_mem_nil⟩⟩) (⟨rfl, List.forall_mem_cons.mpr ⟨rfl, List.forall_mem_cons.mpr ⟨rfl, List.forall_mem_cons.mpr ⟨rfl, List.forall_mem_cons.mpr ⟨rfl, List.forall_mem_cons.mpr ⟨rfl, fun _ h => absurd h List.not_mem_nil⟩⟩⟩⟩⟩⟩) (⟨rfl, List.forall_mem_cons.mpr ⟨rfl, List.forall_mem_cons.mpr ⟨rfl, List.forall_mem_cons.mpr ⟨rfl, List.forall_mem_cons.mpr ⟨rfl, List.forall_mem_cons.mpr ⟨rfl, fun _ h => absurd h List.not_mem_nil⟩⟩⟩⟩⟩⟩) (⟨rfl, List.forall_mem_cons.mpr ⟨rfl, List.forall_mem_cons.mpr ⟨rfl, List.forall_mem_cons.mpr ⟨rfl, fun _ h => absurd h List.not_mem_nil⟩⟩⟩⟩) (⟨rfl, List.forall_mem_cons.mpr ⟨rfl, List.forall_mem_cons.mpr ⟨rfl, fun _ h => absurd h List.not_mem_nil⟩⟩⟩) (⟨rfl, List.forall_mem_cons.mpr ⟨rfl, List.forall_mem_cons.mpr ⟨rfl, fun _ h => absurd h List.not_mem_nil⟩⟩⟩) (⟨rfl, List.forall_mem_cons.mpr ⟨rfl, List.forall_mem_cons.mpr ⟨rfl, List.forall_mem_cons.mpr ⟨rfl, List.forall_mem_cons.mpr ⟨rfl, fun _ h => absurd h List.not_mem_nil⟩⟩⟩⟩⟩) (E_m0) hl
      | 24, _ =>
        refine lv_tableIn (tgt := 1556) hx hb dL_law_40 (by decide) (by decide) rfl (by decide) ?_
        exact law_case_24 K hW (⟨rfl, List.forall_mem_cons.mpr ⟨rfl, List.forall_mem_cons.mpr ⟨rfl, List.forall_mem_cons.mpr ⟨rfl, List.forall_mem_cons.mpr ⟨rfl, List.forall_mem_cons.mpr ⟨rfl, List.forall_mem_cons.mpr ⟨rfl, List.forall_mem_cons.mpr ⟨rfl, List.forall_mem_cons.mpr ⟨rfl, List.forall_mem_cons.mpr ⟨rfl, List.forall_mem_cons.mpr ⟨rfl, fun _ h => absurd h List.not_mem_nil⟩⟩⟩⟩⟩⟩⟩⟩⟩⟩⟩) (⟨rfl, List.forall_mem_cons.mpr ⟨rfl, List.forall_mem_cons.mpr ⟨rfl, List.forall_mem_cons.mpr ⟨rfl, List.forall_mem_cons.mpr ⟨rfl, List.forall_mem_cons.mpr ⟨rfl, List.forall_mem_cons.mpr ⟨rfl, List.forall_mem_cons.mpr ⟨rfl, List.forall_mem_cons.mpr ⟨rfl, List.forall_mem_cons.mpr ⟨rfl, List.forall_mem_cons.mpr ⟨rfl, fun _ h => absurd h List.not_mem_nil⟩⟩⟩⟩⟩⟩⟩⟩⟩⟩⟩) (⟨rfl, List.forall_mem_cons.mpr ⟨rfl, fun _ h => absurd h List.not_mem_nil⟩⟩) (⟨rfl, List.forall_mem_cons.mpr ⟨rfl, fun _ h => absurd h List.not_mem_nil⟩⟩) (⟨rfl, List.forall_mem_cons.mpr ⟨rfl, fun _ h => absurd h List.not_mem_nil⟩⟩) (⟨rfl, List.forall_mem_cons.mpr ⟨rfl, fun _ h => absurd h List.not_mem_nil⟩⟩) (⟨rfl, List.forall_mem_cons.mpr ⟨rfl, List.forall_mem_cons.mpr ⟨rfl, List.forall_mem_cons.mpr ⟨rfl, List.forall_mem_cons.mpr ⟨rfl, List.forall_mem_cons.mpr ⟨rfl, fun _ h => absurd h List.not_mem_nil⟩⟩⟩⟩⟩⟩) (⟨rfl, List.forall_mem_cons.mpr ⟨rfl, List.forall_mem_cons.mpr ⟨rfl, List.forall_mem_cons.mpr ⟨rfl, List.forall_mem_cons.mpr ⟨rfl, List.forall_mem_cons.mpr ⟨rfl, fun _ h => absurd h List.not_mem_nil⟩⟩⟩⟩⟩⟩) (⟨rfl, List.forall_mem_cons.mpr ⟨rfl, List.forall_mem_cons.mpr ⟨rfl, List.forall_mem_cons.mpr ⟨rfl, fun _ h => absurd h List.not_mem_nil⟩⟩⟩⟩) (⟨rfl, List.forall_mem_cons.mpr ⟨rfl, List.forall_mem_cons.mpr ⟨rfl, fun _ h => absurd h List.not_mem_nil⟩⟩⟩) (⟨rfl, List.forall_mem_cons.mpr ⟨rfl, List.forall_mem_cons.mpr ⟨rfl, fun _ h => absurd h List.not_mem_nil⟩⟩⟩) (⟨rfl, List.forall_mem_cons.mpr ⟨rfl, List.forall_mem_cons.mpr ⟨rfl, List.forall_mem_cons.mpr ⟨rfl, List.forall_mem_cons.mpr ⟨rfl, fun _ h => absurd h List.not_mem_nil⟩⟩⟩⟩⟩) (E_m0) hl
      | 25, _ =>
        refine lv_tableIn (tgt := 1581) hx hb dL_law_40 (by decide) (by decide) rfl (by decide) ?_
        exact law_case_25 K hW (⟨rfl, List.forall_mem_cons.mpr ⟨rfl, List.forall_mem_cons.mpr ⟨rfl, List.forall_mem_cons.mpr ⟨rfl, List.forall_mem_cons.mpr ⟨rfl, List.forall_mem_cons.mpr ⟨rfl, List.forall_mem_cons.mpr ⟨rfl, List.forall_mem_cons.mpr ⟨rfl, List.forall_mem_cons.mpr ⟨rfl, List.forall_mem_cons.mpr ⟨rfl, List.forall_mem_cons.mpr ⟨rfl, fun _ h => absurd h List.not_mem_nil⟩⟩⟩⟩⟩⟩⟩⟩⟩⟩⟩) (⟨rfl, List.forall_mem_cons.mpr ⟨rfl, List.forall_mem_cons.mpr ⟨rfl, List.forall_mem_cons.mpr ⟨rfl, List.forall_mem_cons.mpr ⟨rfl, List.forall_mem_cons.mpr ⟨rfl, List.forall_mem_cons.mpr ⟨rfl, List.forall_mem_cons.mpr ⟨rfl, List.forall_mem_cons.mpr ⟨rfl, List.forall_mem_cons.mpr ⟨rfl, List.forall_mem_cons.mpr ⟨rfl, fun _ h => absurd h List.not_mem_nil⟩⟩⟩⟩⟩⟩⟩⟩⟩⟩⟩) (⟨rfl, List.forall_mem_cons.mpr ⟨rfl, fun _ h => absurd h List.not_mem_nil⟩⟩) (⟨rfl, List.forall_mem_cons.mpr ⟨rfl, fun _ h => absurd h List.not_mem_nil⟩⟩) (⟨rfl, List.forall_mem_cons.mpr ⟨rfl, fun _ h => absurd h List.not_mem_nil⟩⟩) (⟨rfl, List.forall_mem_cons.mpr ⟨rfl, fun _ h => absurd h List.not_mem_nil⟩⟩) (⟨rfl, List.forall_mem_cons.mpr ⟨rfl, List.forall_mem_cons.mpr ⟨rfl, List.forall_mem_cons.mpr ⟨rfl, List.forall_mem_cons.mpr ⟨rfl, List.forall_mem_cons.mpr ⟨rfl, fun _ h => absurd h List.not_mem_nil⟩⟩⟩⟩⟩⟩) (⟨rfl, List.forall_mem_cons.mpr ⟨rfl, List.forall_mem_cons.mpr ⟨rfl, List.forall_mem_cons.mpr ⟨rfl, List.forall_mem_cons.mpr ⟨rfl, List.forall_mem_cons.mpr ⟨rfl, fun _ h => absurd h List.not_mem_nil⟩⟩⟩⟩⟩⟩) (⟨rfl, List.forall_mem_cons.mpr ⟨rfl, List.forall_mem_cons.mpr ⟨rfl, List.forall_mem_cons.mpr ⟨rfl, fun _ h => absurd h List.not_mem_nil⟩⟩⟩⟩) (⟨rfl, List.forall_mem_cons.mpr ⟨rfl, List.forall_mem_cons.mpr ⟨rfl, fun _ h => absurd h List.not_mem_nil⟩⟩⟩) (⟨rfl, List.forall_mem_cons.mpr ⟨rfl, List.forall_mem_cons.mpr ⟨rfl, fun _ h => absurd h List.not_mem_nil⟩⟩⟩) (⟨rfl, List.forall_mem_cons.mpr ⟨rfl, List.forall_mem_cons.mpr ⟨rfl, List.forall_mem_cons.mpr ⟨rfl, List.forall_mem_cons.mpr ⟨rfl, fun _ h => absurd h List.not_mem_nil⟩⟩⟩⟩⟩) (E_m0) hl
      | 26, _ =>
        refine lv_tableIn (tgt := 1637) hx hb dL_law_40 (by decide) (by decide) rfl (by decide) ?_
        exact law_case_26 K hW (⟨rfl, List.forall_mem_cons.mpr ⟨rfl, List.forall_mem_cons.mpr ⟨rfl, List.forall_mem_cons.mpr ⟨rfl, List.forall_mem_cons.mpr ⟨rfl, List.forall_mem_cons.mpr ⟨rfl, List.forall_mem_cons.mpr ⟨rfl, List.forall_mem_cons.mpr ⟨rfl, List.forall_mem_cons.mpr ⟨rfl, List.forall_mem_cons.mpr ⟨rfl, List.forall_mem_cons.mpr ⟨rfl, fun _ h => absurd h List.not_mem_nil⟩⟩⟩⟩⟩⟩⟩⟩⟩⟩⟩) (⟨rfl, List.forall_mem_cons.mpr ⟨rfl, List.forall_mem_cons.mpr ⟨rfl, List.forall_mem_cons.mpr ⟨rfl, List.forall_mem_cons.mpr ⟨rfl, List.forall_mem_cons.mpr ⟨rfl, List.forall_mem_cons.mpr ⟨rfl, List.forall_mem_cons.mpr ⟨rfl, List.forall_mem_cons.mpr ⟨rfl, List.forall_mem_cons.mpr ⟨rfl, List.forall_mem_cons.mpr ⟨rfl, fun _ h => absurd h List.not_mem_nil⟩⟩⟩⟩⟩⟩⟩⟩⟩⟩⟩) (⟨rfl, List.forall_mem_cons.mpr ⟨rfl, fun _ h => absurd h List.not_mem_nil⟩⟩) (⟨rfl, List.forall_mem_cons.mpr ⟨rfl, fun _ h => absurd h List.not_mem_nil⟩⟩) (⟨rfl, List.forall_mem_cons.mpr ⟨rfl, fun _ h => absurd h List.not_mem_nil⟩⟩) (⟨rfl, List.forall_mem_cons.mpr ⟨rfl, fun _ h => absurd h List.not_mem_nil⟩⟩) (⟨rfl, List.forall_mem_cons.mpr ⟨rfl, List.forall_mem_cons.mpr ⟨rfl, List.forall_mem_cons.mpr ⟨rfl, List.forall_mem_cons.mpr ⟨rfl, List.forall_mem_cons.mpr ⟨rfl, fun _ h => absurd h List.not_mem_nil⟩⟩⟩⟩⟩⟩) (⟨rfl, List.forall_mem_cons.mpr ⟨rfl, List.forall_mem_cons.mpr ⟨rfl, List.forall_mem_cons.mpr ⟨rfl, List.forall_mem_cons.mpr ⟨rfl, List.forall_mem_cons.mpr ⟨rfl, fun _ h => absurd h List.not_mem_nil⟩⟩⟩⟩⟩⟩) (⟨rfl, List.forall_mem_cons.mpr ⟨rfl, List.forall_mem_cons.mpr ⟨rfl, List.forall_mem_cons.mpr ⟨rfl, fun _ h => absurd h List.not_mem_nil⟩⟩⟩⟩) (⟨rfl, List.forall_mem_cons.mpr ⟨rfl, List.forall_mem_cons.mpr ⟨rfl, fun _ h => absurd h List.not_mem_nil⟩⟩⟩) (⟨rfl, List.forall_mem_cons.mpr ⟨rfl, List.forall_mem_cons.mpr ⟨rfl, fun _ h => absurd h List.not_mem_nil⟩⟩⟩) (⟨rfl, List.forall_mem_cons.mpr ⟨rfl, List.forall_mem_cons.mpr ⟨rfl, List.forall_mem_cons.mpr ⟨rfl, List.forall_mem_cons.mpr ⟨rfl, fun _ h => absurd h List.not_mem_nil⟩⟩⟩⟩⟩) (E_m0) hl
      | 27, _ =>
        refine lv_tableIn (tgt := 1693) hx hb dL_law_40 (by decide) (by decide) rfl (by decide) ?_
        exact law_case_27 K hW (⟨rfl, List.forall_mem_cons.mpr ⟨rfl, List.forall_mem_cons.mpr ⟨rfl, List.forall_mem_cons.mpr ⟨rfl, List.forall_mem_cons.mpr ⟨rfl, List.forall_mem_cons.mpr ⟨rfl, List.forall_mem_cons.mpr ⟨rfl, List.forall_mem_cons.mpr ⟨rfl, List.forall_mem_cons.mpr ⟨rfl, List.forall_mem_cons.mpr ⟨rfl, List.forall_mem_cons.mpr ⟨rfl, fun _ h => absurd h List.not_mem_nil⟩⟩⟩⟩⟩⟩⟩⟩⟩⟩⟩) (⟨rfl, List.forall_mem_cons.mpr ⟨rfl, List.forall_mem_cons.mpr ⟨rfl, List.forall_mem_cons.mpr ⟨rfl, List.forall_mem_cons.mpr ⟨rfl, List.forall_mem_cons.mpr ⟨rfl, List.forall_mem_cons.mpr ⟨rfl, List.forall_mem_cons.mpr ⟨rfl, List.forall_mem_cons.mpr ⟨rfl, List.forall_mem_cons.mpr ⟨rfl, List.forall_mem_cons.mpr ⟨rfl, fun _ h => absurd h List.not_mem_nil⟩⟩⟩⟩⟩⟩⟩⟩⟩⟩⟩) (⟨rfl, List.forall_mem_cons.mpr ⟨rfl, fun _ h => absurd h List.not_mem_nil⟩⟩) (⟨rfl, List.forall_mem_cons.mpr ⟨rfl, fun _ h => absurd h List.not_mem_nil⟩⟩) (⟨rfl, List.forall_mem_cons.mpr ⟨rfl, fun _ h => absurd h List.not_mem_nil⟩⟩) (⟨rfl, List.forall_mem_cons.mpr ⟨rfl, fun _ h => absurd h List.not_mem_nil⟩⟩) (⟨rfl, List.forall_mem_cons.mpr ⟨rfl, List.forall_mem_cons.mpr ⟨rfl, List.forall_mem_cons.mpr ⟨rfl, List.forall_mem_cons.mpr ⟨rfl, List.forall_mem_cons.mpr ⟨rfl, fun _ h => absurd h List.not_mem_nil⟩⟩⟩⟩⟩⟩) (⟨rfl, List.forall_mem_cons.mpr ⟨rfl, List.forall_mem_cons.mpr ⟨rfl, List.forall_mem_cons.mpr ⟨rfl, List.forall_mem_cons.mpr ⟨rfl, List.forall_mem_cons.mpr ⟨rfl, fun _ h => absurd h List.not_mem_nil⟩⟩⟩⟩⟩⟩) (⟨rfl, List.forall_mem_cons.mpr ⟨rfl, List.forall_mem_cons.mpr ⟨rfl, List.forall_mem_cons.mpr ⟨rfl, fun _ h => absurd h List.not_mem_nil⟩⟩⟩⟩) (⟨rfl, List.forall_mem_cons.mpr ⟨rfl, List.forall_mem_cons.mpr ⟨rfl, fun _ h => absurd h List.not_mem_nil⟩⟩⟩) (⟨rfl, List.forall_mem_cons.mpr ⟨rfl, List.forall_mem_cons.mpr ⟨rfl, fun _ h => absurd h List.not_mem_nil⟩⟩⟩) (⟨rfl, List.forall_mem_cons.mpr ⟨rfl, List.forall_mem_cons.mpr ⟨rfl, List.forall_mem_cons.mpr ⟨rfl, List.forall_mem_cons.mpr ⟨rfl, fun _ h => absurd h List.not_mem_nil⟩⟩⟩⟩⟩) (E_m0) hl
      | 28, _ =>
        refine lv_tableIn (tgt := 1761) hx hb dL_law_40 (by decide) (by decide) rfl (by decide) ?_
        exact law_case_28 K hW (⟨rfl, List.forall_mem_cons.mpr ⟨rfl, List.forall_mem_cons.mpr ⟨rfl, List.forall_mem_cons.mpr ⟨rfl, List.forall_mem_cons.mpr ⟨rfl, List.forall_mem_cons.mpr ⟨rfl, List.forall_mem_cons.mpr ⟨rfl, List.forall_mem_cons.mpr ⟨rfl, List.forall_mem_cons.mpr ⟨rfl, List.forall_mem_cons.mpr ⟨rfl, List.forall_mem_cons.mpr ⟨rfl, fun _ h => absurd h List.not_mem_nil⟩⟩⟩⟩⟩⟩⟩⟩⟩⟩⟩) (⟨rfl, List.forall_mem_cons.mpr ⟨rfl, List.forall_mem_cons.mpr ⟨rfl, List.forall_mem_cons.mpr ⟨rfl, List.forall_mem_cons.mpr ⟨rfl, List.forall_mem_cons.mpr ⟨rfl, List.forall_mem_cons.mpr ⟨rfl, List.forall_mem_cons.mpr ⟨rfl, List.forall_mem_cons.mpr ⟨rfl, List.forall_mem_cons.mpr ⟨rfl, List.forall_mem_cons.mpr ⟨rfl, fun _ h => absurd h List.not_mem_nil⟩⟩⟩⟩⟩⟩⟩⟩⟩⟩⟩) (⟨rfl, List.forall_mem_cons.mpr ⟨rfl, fun _ h => absurd h List.not_mem_nil⟩⟩) (⟨rfl, List.forall_mem_cons.mpr ⟨rfl, fun _ h => absurd h List.not_mem_nil⟩⟩) (⟨rfl, List.forall_mem_cons.mpr ⟨rfl, fun _ h => absurd h List.not_mem_nil⟩⟩) (⟨rfl, List.forall_mem_cons.mpr ⟨rfl, fun _ h => absurd h List.not_mem_nil⟩⟩) (⟨rfl, List.forall_mem_cons.mpr ⟨rfl, List.forall_mem_cons.mpr ⟨rfl, List.forall_mem_cons.mpr ⟨rfl, List.forall_mem_cons.mpr ⟨rfl, List.forall_mem_cons.mpr ⟨rfl, fun _ h => absurd h List.not_mem_nil⟩⟩⟩⟩⟩⟩) (⟨rfl, List.forall_mem_cons.mpr ⟨rfl, List.forall_mem_cons.mpr ⟨rfl, List.forall_mem_cons.mpr ⟨rfl, List.forall_mem_cons.mpr ⟨rfl, List.forall_mem_cons.mpr ⟨rfl, fun _ h => absurd h List.not_mem_nil⟩⟩⟩⟩⟩⟩) (⟨rfl, List.forall_mem_cons.mpr ⟨rfl, List.forall_mem_cons.mpr ⟨rfl, List.forall_mem_cons.mpr ⟨rfl, fun _ h => absurd h List.not_mem_nil⟩⟩⟩⟩) (⟨rfl, List.forall_mem_cons.mpr ⟨rfl, List.forall_mem_cons.mpr ⟨rfl, fun _ h => absurd h List.not_mem_nil⟩⟩⟩) (⟨rfl, List.forall_mem_cons.mpr ⟨rfl, List.forall_mem_cons.mpr ⟨rfl, fun _ h => absurd h List.not_mem_nil⟩⟩⟩) (⟨rfl, List.forall_mem_cons.mpr ⟨rfl, List.forall_mem_cons.mpr ⟨rfl, List.forall_mem_cons.mpr ⟨rfl, List.forall_mem_cons.mpr ⟨rfl, fun _ h => absurd h List.not_mem_nil⟩⟩⟩⟩⟩) (E_m0) hl
      | 29, _ =>
        refine lv_tableIn (tgt := 1829) hx hb dL_law_40 (by decide) (by decide) rfl (by decide) ?_
        exact law_case_29 K hW (⟨rfl, List.forall_mem_cons.mpr ⟨rfl, List.forall_mem_cons.mpr ⟨rfl, List.forall_mem_cons.mpr ⟨rfl, List.forall_mem_cons.mpr ⟨rfl, List.forall_mem_cons.mpr ⟨rfl, List.forall_mem_cons.mpr ⟨rfl, List.forall_mem_cons.mpr ⟨rfl, List.forall_mem_cons.mpr ⟨rfl, List.forall_mem_cons.mpr ⟨rfl, List.forall_mem_cons.mpr ⟨rfl, fun _ h => absurd h List.not_mem_nil⟩⟩⟩⟩⟩⟩⟩⟩⟩⟩⟩) (⟨rfl, List.forall_mem_cons.mpr ⟨rfl, List.forall_mem_cons.mpr ⟨rfl, List.forall_mem_cons.mpr ⟨rfl, List.forall_mem_cons.mpr ⟨rfl, List.forall_mem_cons.mpr ⟨rfl, List.forall_mem_cons.mpr ⟨rfl, List.forall_mem_cons.mpr ⟨rfl, List.forall_mem_cons.mpr ⟨rfl, List.forall_mem_cons.mpr ⟨rfl, List.forall_mem_cons.mpr ⟨rfl, fun _ h => absurd h List.not_mem_nil⟩⟩⟩⟩⟩⟩⟩⟩⟩⟩⟩) (⟨rfl, List.forall_mem_cons.mpr ⟨rfl, fun _ h => absurd h List.not_mem_nil⟩⟩) (⟨rfl, List.forall_mem_cons.mpr ⟨rfl, fun _ h => absurd h List.not_mem_nil⟩⟩) (⟨rfl, List.forall_mem_cons.mpr ⟨rfl, fun _ h => absurd h List.not_mem_nil⟩⟩) (⟨rfl, List.forall_mem_cons.mpr ⟨rfl, fun _ h => absurd h List.not_mem_nil⟩⟩) (⟨rfl, List.forall_mem_cons.mpr ⟨rfl, List.forall_mem_cons.mpr ⟨rfl, List.forall_mem_cons.mpr ⟨rfl, List.forall_mem_cons.mpr ⟨rfl, List.forall_mem_cons.mpr ⟨rfl, fun _ h => absurd h List.not_mem_nil⟩⟩⟩⟩⟩⟩) (⟨rfl, List.forall_mem_cons.mpr ⟨rfl, List.forall_mem_cons.mpr ⟨rfl, List.forall_mem_cons.mpr ⟨rfl, List.forall_mem_cons.mpr ⟨rfl, List.forall_mem_cons.mpr ⟨rfl, fun _ h => absurd h List.not_mem_nil⟩⟩⟩⟩⟩⟩) (⟨rfl, List.forall_mem_cons.mpr ⟨rfl, List.forall_mem_cons.mpr ⟨rfl, List.forall_mem_cons.mpr ⟨rfl, fun _ h => absurd h List.not_mem_nil⟩⟩⟩⟩) (⟨rfl, List.forall_mem_cons.mpr ⟨rfl, List.forall_mem_cons.mpr ⟨rfl, fun _ h => absurd h List.not_mem_nil⟩⟩⟩) (⟨rfl, List.forall_mem_cons.mpr ⟨rfl, List.forall_mem_cons.mpr ⟨rfl, fun _ h => absurd h List.not_mem_nil⟩⟩⟩) (⟨rfl, List.forall_mem_cons.mpr ⟨rfl, List.forall_mem_cons.mpr ⟨rfl, List.forall_mem_cons.mpr ⟨rfl, List.forall_mem_cons.mpr ⟨rfl, fun _ h => absurd h List.not_mem_nil⟩⟩⟩⟩⟩) (E_m0) hl
      | 30, _ =>
        refine lv_tableOut (tgt := 1897) hx hb dL_law_40 (by decide) (by decide) ?_
        exact law_tail K (lv_sub hl [0, 4] rfl) hW.S (Nat.le_of_ble_eq_true rfl) (Nat.le_of_ble_eq_true rfl)
      | 31, _ =>
        refine lv_tableOut (tgt := 1897) hx hb dL_law_40 (by decide) (by decide) ?_
        exact law_tail K (lv_sub hl [0, 4] rfl) hW.S (Nat.le_of_ble_eq_true rfl) (Nat.le_of_ble_eq_true rfl)
      | k + 32, h => exact absurd h (by omega)
    exact sw j hj
