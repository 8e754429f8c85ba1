/-! the words of the class's constructor -/
set_option maxRecDepth 100000 in
theorem px12_0 : Cond.code yX12_init cX12_init 1 none ∈ lw_tbl := pk_t1 _ (List.mem_of_getElem? (i := 32) rfl)
set_option maxRecDepth 100000 in
theorem px12_1 : Cond.methodLink RX12 3 objectInit ∈ lw_tbl := pk_t1 _ (List.mem_of_getElem? (i := 33) rfl)
set_option maxRecDepth 100000 in
theorem px12_2 : Cond.instanceMethod objectInit ∈ lw_tbl := pk_t1 _ (List.mem_of_getElem? (i := 34) rfl)
set_option maxRecDepth 100000 in
theorem px12_3 : Cond.code objectInit ⟨#[0xb1]⟩ 1 none ∈ lw_tbl := pk_t1 _ (List.mem_of_getElem? (i := 35) rfl)
set_option maxRecDepth 100000 in
theorem px12_4 : Cond.classLink RX12 9 RX8 ∈ lw_tbl := pk_t1 _ (List.mem_of_getElem? (i := 36) rfl)
set_option maxRecDepth 100000 in
theorem px12_5 : Cond.instantiable RX8 21 ∈ lw_tbl := pk_t1 _ (List.mem_of_getElem? (i := 37) rfl)
set_option maxRecDepth 100000 in
theorem px12_6 : Cond.initialized RX8 ∈ lw_tbl := pk_t1 _ (List.mem_of_getElem? (i := 2) rfl)
set_option maxRecDepth 100000 in
theorem px12_7 : Cond.fieldLink RX12 12 "TongueHouse" "store" "LTongueHouse$Store;" ∈ lw_tbl := pk_t3 _ (List.mem_of_getElem? (i := 155) rfl)
set_option maxRecDepth 100000 in
theorem px12_8 : Cond.classLink RX12 16 RX9 ∈ lw_tbl := pk_t1 _ (List.mem_of_getElem? (i := 170) rfl)
set_option maxRecDepth 100000 in
theorem px12_9 : Cond.instantiable RX9 10 ∈ lw_tbl := pk_t1 _ (List.mem_of_getElem? (i := 171) rfl)
set_option maxRecDepth 100000 in
theorem px12_10 : Cond.initialized RX9 ∈ lw_tbl := pk_t1 _ (List.mem_of_getElem? (i := 4) rfl)
set_option maxRecDepth 100000 in
theorem px12_11 : Cond.fieldLink RX12 19 "TongueHouse" "tape" "LTongueHouse$Text;" ∈ lw_tbl := pk_t3 _ (List.mem_of_getElem? (i := 156) rfl)
set_option maxRecDepth 100000 in
theorem px12_12 : Cond.fieldLink RX12 23 "TongueHouse" "out" "LTongueHouse$Text;" ∈ lw_tbl := pk_t3 _ (List.mem_of_getElem? (i := 157) rfl)
set_option maxRecDepth 100000 in
theorem px12_13 : Cond.fieldLink RX12 26 "TongueHouse" "base" "LTongueHouse$Text;" ∈ lw_tbl := pk_t3 _ (List.mem_of_getElem? (i := 158) rfl)
set_option maxRecDepth 100000 in
theorem px12_14 : Cond.fieldLink RX12 29 "TongueHouse" "draft" "LTongueHouse$Text;" ∈ lw_tbl := pk_t3 _ (List.mem_of_getElem? (i := 159) rfl)
set_option maxRecDepth 100000 in
theorem px12_15 : Cond.classLink RX12 32 RX6 ∈ lw_tbl := pk_t1 _ (List.mem_of_getElem? (i := 232) rfl)
set_option maxRecDepth 100000 in
theorem px12_16 : Cond.instantiable RX6 19 ∈ lw_tbl := pk_t1 _ (List.mem_of_getElem? (i := 233) rfl)
set_option maxRecDepth 100000 in
theorem px12_17 : Cond.initialized RX6 ∈ lw_tbl := pk_t1 _ (List.mem_of_getElem? (i := 5) rfl)
set_option maxRecDepth 100000 in
theorem px12_18 : Cond.fieldLink RX12 37 "TongueHouse" "reader" "LTongueHouse$Reader;" ∈ lw_tbl := pk_t3 _ (List.mem_of_getElem? (i := 160) rfl)
set_option maxRecDepth 100000 in
theorem px12_19 : Cond.classLink RX12 41 RX0 ∈ lw_tbl := pk_t2 _ (List.mem_of_getElem? (i := 58) rfl)
set_option maxRecDepth 100000 in
theorem px12_20 : Cond.instantiable RX0 22 ∈ lw_tbl := pk_t2 _ (List.mem_of_getElem? (i := 59) rfl)
set_option maxRecDepth 100000 in
theorem px12_21 : Cond.initialized RX0 ∈ lw_tbl := pk_t1 _ (List.mem_of_getElem? (i := 6) rfl)
set_option maxRecDepth 100000 in
theorem px12_22 : Cond.fieldLink RX12 46 "TongueHouse" "chart" "LTongueHouse$Chart;" ∈ lw_tbl := pk_t3 _ (List.mem_of_getElem? (i := 161) rfl)
set_option maxRecDepth 100000 in
theorem px12_23 : Cond.classLink RX12 50 RX5 ∈ lw_tbl := pk_t2 _ (List.mem_of_getElem? (i := 144) rfl)
set_option maxRecDepth 100000 in
theorem px12_24 : Cond.instantiable RX5 19 ∈ lw_tbl := pk_t2 _ (List.mem_of_getElem? (i := 145) rfl)
set_option maxRecDepth 100000 in
theorem px12_25 : Cond.initialized RX5 ∈ lw_tbl := pk_t1 _ (List.mem_of_getElem? (i := 7) rfl)
set_option maxRecDepth 100000 in
theorem px12_26 : Cond.fieldLink RX12 55 "TongueHouse" "ranking" "LTongueHouse$Ranking;" ∈ lw_tbl := pk_t3 _ (List.mem_of_getElem? (i := 162) rfl)
set_option maxRecDepth 100000 in
theorem px12_27 : Cond.classLink RX12 59 RX7 ∈ lw_tbl := pk_t2 _ (List.mem_of_getElem? (i := 210) rfl)
set_option maxRecDepth 100000 in
theorem px12_28 : Cond.instantiable RX7 14 ∈ lw_tbl := pk_t2 _ (List.mem_of_getElem? (i := 211) rfl)
set_option maxRecDepth 100000 in
theorem px12_29 : Cond.initialized RX7 ∈ lw_tbl := pk_t1 _ (List.mem_of_getElem? (i := 8) rfl)
set_option maxRecDepth 100000 in
theorem px12_30 : Cond.fieldLink RX12 62 "TongueHouse" "sayer" "LTongueHouse$Sayer;" ∈ lw_tbl := pk_t3 _ (List.mem_of_getElem? (i := 163) rfl)
set_option maxRecDepth 100000 in
theorem px12_31 : Cond.classLink RX12 66 RX10 ∈ lw_tbl := pk_t3 _ (List.mem_of_getElem? (i := 19) rfl)
set_option maxRecDepth 100000 in
theorem px12_32 : Cond.instantiable RX10 19 ∈ lw_tbl := pk_t3 _ (List.mem_of_getElem? (i := 20) rfl)
set_option maxRecDepth 100000 in
theorem px12_33 : Cond.initialized RX10 ∈ lw_tbl := pk_t1 _ (List.mem_of_getElem? (i := 9) rfl)
set_option maxRecDepth 100000 in
theorem px12_34 : Cond.fieldLink RX12 69 "TongueHouse" "thought" "LTongueHouse$Thought;" ∈ lw_tbl := pk_t3 _ (List.mem_of_getElem? (i := 164) rfl)
set_option maxRecDepth 100000 in
theorem px12_35 : Cond.classLink RX12 73 RX1 ∈ lw_tbl := pk_t3 _ (List.mem_of_getElem? (i := 83) rfl)
set_option maxRecDepth 100000 in
theorem px12_36 : Cond.instantiable RX1 19 ∈ lw_tbl := pk_t3 _ (List.mem_of_getElem? (i := 84) rfl)
set_option maxRecDepth 100000 in
theorem px12_37 : Cond.initialized RX1 ∈ lw_tbl := pk_t1 _ (List.mem_of_getElem? (i := 10) rfl)
set_option maxRecDepth 100000 in
theorem px12_38 : Cond.fieldLink RX12 76 "TongueHouse" "finder" "LTongueHouse$Finder;" ∈ lw_tbl := pk_t3 _ (List.mem_of_getElem? (i := 165) rfl)
set_option maxRecDepth 100000 in
theorem px12_39 : Cond.classLink RX12 80 "[[I" ∈ lw_tbl := pk_t3 _ (List.mem_of_getElem? (i := 152) rfl)
set_option maxRecDepth 100000 in
theorem px12_40 : Cond.arrayClass .int ∈ lw_tbl := pk_t1 _ (List.mem_of_getElem? (i := 168) rfl)
set_option maxRecDepth 100000 in
theorem px12_41 : Cond.fieldLink RX12 82 "TongueHouse" "planted" "[[I" ∈ lw_tbl := pk_t3 _ (List.mem_of_getElem? (i := 166) rfl)
set_option maxRecDepth 100000 in
theorem px12_42 : Cond.fieldLink RX12 85 "TongueHouse" "plantedSize" "[I" ∈ lw_tbl := pk_t3 _ (List.mem_of_getElem? (i := 167) rfl)
set_option maxRecDepth 100000 in
theorem px12_43 : Cond.classLink RX12 89 "[[B" ∈ lw_tbl := pk_t3 _ (List.mem_of_getElem? (i := 154) rfl)
set_option maxRecDepth 100000 in
theorem px12_44 : Cond.arrayClass .byte ∈ lw_tbl := pk_t1 _ (List.mem_of_getElem? (i := 169) rfl)
set_option maxRecDepth 100000 in
theorem px12_45 : Cond.fieldLink RX12 91 "TongueHouse" "candidates" "[[B" ∈ lw_tbl := pk_t3 _ (List.mem_of_getElem? (i := 168) rfl)
set_option maxRecDepth 100000 in
theorem px12_46 : Cond.fieldLink RX12 94 "TongueHouse" "candidateSize" "[I" ∈ lw_tbl := pk_t3 _ (List.mem_of_getElem? (i := 169) rfl)
set_option maxRecDepth 100000 in
theorem px12_47 : Cond.fieldLink RX12 97 "TongueHouse" "changes" "[I" ∈ lw_tbl := pk_t3 _ (List.mem_of_getElem? (i := 171) rfl)
set_option maxRecDepth 100000 in
theorem px12_48 : Cond.instanceMethod yX8_init ∈ lw_tbl := pk_t1 _ (List.mem_of_getElem? (i := 39) rfl)
set_option maxRecDepth 100000 in
theorem px12_49 : Cond.code yX8_init cX8_init 1 none ∈ lw_tbl := pk_t1 _ (List.mem_of_getElem? (i := 40) rfl)
set_option maxRecDepth 100000 in
theorem px12_50 : Cond.methodLink RX8 7 objectInit ∈ lw_tbl := pk_t1 _ (List.mem_of_getElem? (i := 41) rfl)
set_option maxRecDepth 100000 in
theorem px12_51 : Cond.classLink RX8 13 RX4 ∈ lw_tbl := pk_t1 _ (List.mem_of_getElem? (i := 42) rfl)
set_option maxRecDepth 100000 in
theorem px12_52 : Cond.instantiable RX4 2 ∈ lw_tbl := pk_t1 _ (List.mem_of_getElem? (i := 43) rfl)
set_option maxRecDepth 100000 in
theorem px12_53 : Cond.initialized RX4 ∈ lw_tbl := pk_t1 _ (List.mem_of_getElem? (i := 3) rfl)
set_option maxRecDepth 100000 in
theorem px12_54 : Cond.fieldLink RX8 18 "TongueHouse$Store" "kinds" "LTongueHouse$Names;" ∈ lw_tbl := pk_t1 _ (List.mem_of_getElem? (i := 66) rfl)
set_option maxRecDepth 100000 in
theorem px12_55 : Cond.fieldLink RX8 22 "TongueHouse$Store" "funs" "LTongueHouse$Names;" ∈ lw_tbl := pk_t1 _ (List.mem_of_getElem? (i := 71) rfl)
set_option maxRecDepth 100000 in
theorem px12_56 : Cond.fieldLink RX8 25 "TongueHouse$Store" "things" "LTongueHouse$Names;" ∈ lw_tbl := pk_t1 _ (List.mem_of_getElem? (i := 74) rfl)
set_option maxRecDepth 100000 in
theorem px12_57 : Cond.fieldLink RX8 28 "TongueHouse$Store" "tongueNames" "LTongueHouse$Names;" ∈ lw_tbl := pk_t1 _ (List.mem_of_getElem? (i := 77) rfl)
set_option maxRecDepth 100000 in
theorem px12_58 : Cond.classLink RX8 3 RX11 ∈ lw_tbl := pk_t1 _ (List.mem_of_getElem? (i := 64) rfl)
set_option maxRecDepth 100000 in
theorem px12_59 : Cond.fieldLink RX8 31 "TongueHouse$Store" "tongues" "[LTongueHouse$Tongue;" ∈ lw_tbl := pk_t1 _ (List.mem_of_getElem? (i := 80) rfl)
set_option maxRecDepth 100000 in
theorem px12_60 : Cond.fieldLink RX8 35 "TongueHouse$Store" "current" "I" ∈ lw_tbl := pk_t1 _ (List.mem_of_getElem? (i := 84) rfl)
set_option maxRecDepth 100000 in
theorem px12_61 : Cond.fieldLink RX8 39 "TongueHouse$Store" "funKind" "[I" ∈ lw_tbl := pk_t1 _ (List.mem_of_getElem? (i := 86) rfl)
set_option maxRecDepth 100000 in
theorem px12_62 : Cond.fieldLink RX8 43 "TongueHouse$Store" "funArity" "[I" ∈ lw_tbl := pk_t1 _ (List.mem_of_getElem? (i := 90) rfl)
set_option maxRecDepth 100000 in
theorem px12_63 : Cond.fieldLink RX8 46 "TongueHouse$Store" "funArgs" "[I" ∈ lw_tbl := pk_t1 _ (List.mem_of_getElem? (i := 93) rfl)
set_option maxRecDepth 100000 in
theorem px12_64 : Cond.fieldLink RX8 49 "TongueHouse$Store" "funCost" "[I" ∈ lw_tbl := pk_t1 _ (List.mem_of_getElem? (i := 96) rfl)
set_option maxRecDepth 100000 in
theorem px12_65 : Cond.fieldLink RX8 52 "TongueHouse$Store" "meanSize" "[I" ∈ lw_tbl := pk_t1 _ (List.mem_of_getElem? (i := 101) rfl)
set_option maxRecDepth 100000 in
theorem px12_66 : Cond.fieldLink RX8 55 "TongueHouse$Store" "meanOp" "[I" ∈ lw_tbl := pk_t1 _ (List.mem_of_getElem? (i := 104) rfl)
set_option maxRecDepth 100000 in
theorem px12_67 : Cond.arrayClass .long ∈ lw_tbl := pk_t1 _ (List.mem_of_getElem? (i := 63) rfl)
set_option maxRecDepth 100000 in
theorem px12_68 : Cond.fieldLink RX8 58 "TongueHouse$Store" "meanName" "[J" ∈ lw_tbl := pk_t1 _ (List.mem_of_getElem? (i := 107) rfl)
set_option maxRecDepth 100000 in
theorem px12_69 : Cond.fieldLink RX8 62 "TongueHouse$Store" "factName" "[J" ∈ lw_tbl := pk_t1 _ (List.mem_of_getElem? (i := 112) rfl)
set_option maxRecDepth 100000 in
theorem px12_70 : Cond.fieldLink RX8 65 "TongueHouse$Store" "factThings" "[I" ∈ lw_tbl := pk_t1 _ (List.mem_of_getElem? (i := 114) rfl)
set_option maxRecDepth 100000 in
theorem px12_71 : Cond.fieldLink RX8 68 "TongueHouse$Store" "pool" "[B" ∈ lw_tbl := pk_t1 _ (List.mem_of_getElem? (i := 116) rfl)
set_option maxRecDepth 100000 in
theorem px12_72 : Cond.fieldLink RX8 72 "TongueHouse$Store" "marks" "[I" ∈ lw_tbl := pk_t1 _ (List.mem_of_getElem? (i := 123) rfl)
set_option maxRecDepth 100000 in
theorem px12_73 : Cond.fieldLink RX8 75 "TongueHouse$Store" "stack" "[I" ∈ lw_tbl := pk_t1 _ (List.mem_of_getElem? (i := 124) rfl)
set_option maxRecDepth 100000 in
theorem px12_74 : Cond.methodLink RX8 15 yX4_init ∈ lw_tbl := pk_t1 _ (List.mem_of_getElem? (i := 44) rfl)
set_option maxRecDepth 100000 in
theorem px12_75 : Cond.instanceMethod yX4_init ∈ lw_tbl := pk_t1 _ (List.mem_of_getElem? (i := 45) rfl)
set_option maxRecDepth 100000 in
theorem px12_76 : Cond.code yX4_init cX4_init 2 none ∈ lw_tbl := pk_t1 _ (List.mem_of_getElem? (i := 46) rfl)
set_option maxRecDepth 100000 in
theorem px12_77 : Cond.methodLink RX4 3 objectInit ∈ lw_tbl := pk_t1 _ (List.mem_of_getElem? (i := 47) rfl)
set_option maxRecDepth 100000 in
theorem px12_78 : Cond.fieldLink RX4 9 "TongueHouse$Names" "name" "[J" ∈ lw_tbl := pk_t1 _ (List.mem_of_getElem? (i := 48) rfl)
set_option maxRecDepth 100000 in
theorem px12_79 : Cond.instanceMethod yX9_init ∈ lw_tbl := pk_t1 _ (List.mem_of_getElem? (i := 173) rfl)
set_option maxRecDepth 100000 in
theorem px12_80 : Cond.code yX9_init cX9_init 1 none ∈ lw_tbl := pk_t1 _ (List.mem_of_getElem? (i := 174) rfl)
set_option maxRecDepth 100000 in
theorem px12_81 : Cond.methodLink RX9 3 objectInit ∈ lw_tbl := pk_t1 _ (List.mem_of_getElem? (i := 175) rfl)
set_option maxRecDepth 100000 in
theorem px12_82 : Cond.fieldLink RX9 11 "TongueHouse$Text" "bytes" "[B" ∈ lw_tbl := pk_t1 _ (List.mem_of_getElem? (i := 176) rfl)
set_option maxRecDepth 100000 in
theorem px12_83 : Cond.fieldLink RX9 15 "TongueHouse$Text" "start" "[I" ∈ lw_tbl := pk_t1 _ (List.mem_of_getElem? (i := 186) rfl)
set_option maxRecDepth 100000 in
theorem px12_84 : Cond.fieldLink RX9 19 "TongueHouse$Text" "len" "[I" ∈ lw_tbl := pk_t1 _ (List.mem_of_getElem? (i := 190) rfl)
set_option maxRecDepth 100000 in
theorem px12_85 : Cond.methodLink RX12 34 yX6_init ∈ lw_tbl := pk_t1 _ (List.mem_of_getElem? (i := 234) rfl)
set_option maxRecDepth 100000 in
theorem px12_86 : Cond.instanceMethod yX6_init ∈ lw_tbl := pk_t1 _ (List.mem_of_getElem? (i := 235) rfl)
set_option maxRecDepth 100000 in
theorem px12_87 : Cond.code yX6_init cX6_init 3 none ∈ lw_tbl := pk_t1 _ (List.mem_of_getElem? (i := 236) rfl)
set_option maxRecDepth 100000 in
theorem px12_88 : Cond.methodLink RX6 3 objectInit ∈ lw_tbl := pk_t1 _ (List.mem_of_getElem? (i := 237) rfl)
set_option maxRecDepth 100000 in
theorem px12_89 : Cond.fieldLink RX6 11 "TongueHouse$Reader" "cell" "[I" ∈ lw_tbl := pk_t2 _ (List.mem_of_getElem? (i := 9) rfl)
set_option maxRecDepth 100000 in
theorem px12_90 : Cond.fieldLink RX6 17 "TongueHouse$Reader" "row" "[I" ∈ lw_tbl := pk_t2 _ (List.mem_of_getElem? (i := 10) rfl)
set_option maxRecDepth 100000 in
theorem px12_91 : Cond.fieldLink RX6 20 "TongueHouse$Reader" "names" "[J" ∈ lw_tbl := pk_t2 _ (List.mem_of_getElem? (i := 11) rfl)
set_option maxRecDepth 100000 in
theorem px12_92 : Cond.fieldLink RX6 24 "TongueHouse$Reader" "termOp" "[I" ∈ lw_tbl := pk_t2 _ (List.mem_of_getElem? (i := 13) rfl)
set_option maxRecDepth 100000 in
theorem px12_93 : Cond.fieldLink RX6 27 "TongueHouse$Reader" "termName" "[J" ∈ lw_tbl := pk_t2 _ (List.mem_of_getElem? (i := 14) rfl)
set_option maxRecDepth 100000 in
theorem px12_94 : Cond.fieldLink RX6 30 "TongueHouse$Reader" "binder" "[J" ∈ lw_tbl := pk_t2 _ (List.mem_of_getElem? (i := 16) rfl)
set_option maxRecDepth 100000 in
theorem px12_95 : Cond.fieldLink RX6 33 "TongueHouse$Reader" "opened" "[I" ∈ lw_tbl := pk_t2 _ (List.mem_of_getElem? (i := 17) rfl)
set_option maxRecDepth 100000 in
theorem px12_96 : Cond.fieldLink RX6 36 "TongueHouse$Reader" "seen" "[I" ∈ lw_tbl := pk_t2 _ (List.mem_of_getElem? (i := 18) rfl)
set_option maxRecDepth 100000 in
theorem px12_97 : Cond.fieldLink RX6 39 "TongueHouse$Reader" "store" "LTongueHouse$Store;" ∈ lw_tbl := pk_t1 _ (List.mem_of_getElem? (i := 238) rfl)
set_option maxRecDepth 100000 in
theorem px12_98 : Cond.fieldLink RX6 43 "TongueHouse$Reader" "tape" "LTongueHouse$Text;" ∈ lw_tbl := pk_t1 _ (List.mem_of_getElem? (i := 239) rfl)
set_option maxRecDepth 100000 in
theorem px12_99 : Cond.methodLink RX12 43 yX0_init ∈ lw_tbl := pk_t2 _ (List.mem_of_getElem? (i := 60) rfl)
set_option maxRecDepth 100000 in
theorem px12_100 : Cond.instanceMethod yX0_init ∈ lw_tbl := pk_t2 _ (List.mem_of_getElem? (i := 61) rfl)
set_option maxRecDepth 100000 in
theorem px12_101 : Cond.code yX0_init cX0_init 2 none ∈ lw_tbl := pk_t2 _ (List.mem_of_getElem? (i := 62) rfl)
set_option maxRecDepth 100000 in
theorem px12_102 : Cond.methodLink RX0 3 objectInit ∈ lw_tbl := pk_t2 _ (List.mem_of_getElem? (i := 63) rfl)
set_option maxRecDepth 100000 in
theorem px12_103 : Cond.fieldLink RX0 9 "TongueHouse$Chart" "firstNode" "[I" ∈ lw_tbl := pk_t2 _ (List.mem_of_getElem? (i := 66) rfl)
set_option maxRecDepth 100000 in
theorem px12_104 : Cond.fieldLink RX0 15 "TongueHouse$Chart" "nodeCount" "[I" ∈ lw_tbl := pk_t2 _ (List.mem_of_getElem? (i := 68) rfl)
set_option maxRecDepth 100000 in
theorem px12_105 : Cond.fieldLink RX0 18 "TongueHouse$Chart" "nodeEnd" "[I" ∈ lw_tbl := pk_t2 _ (List.mem_of_getElem? (i := 73) rfl)
set_option maxRecDepth 100000 in
theorem px12_106 : Cond.fieldLink RX0 21 "TongueHouse$Chart" "nodeValues" "[I" ∈ lw_tbl := pk_t2 _ (List.mem_of_getElem? (i := 75) rfl)
set_option maxRecDepth 100000 in
theorem px12_107 : Cond.fieldLink RX0 24 "TongueHouse$Chart" "wayNode" "[I" ∈ lw_tbl := pk_t2 _ (List.mem_of_getElem? (i := 80) rfl)
set_option maxRecDepth 100000 in
theorem px12_108 : Cond.fieldLink RX0 27 "TongueHouse$Chart" "wayRule" "[I" ∈ lw_tbl := pk_t2 _ (List.mem_of_getElem? (i := 82) rfl)
set_option maxRecDepth 100000 in
theorem px12_109 : Cond.constant RX0 30 ( 36000 ) ∈ lw_tbl := pk_t2 _ (List.mem_of_getElem? (i := 64) rfl)
set_option maxRecDepth 100000 in
theorem px12_110 : Cond.fieldLink RX0 31 "TongueHouse$Chart" "wayArgs" "[I" ∈ lw_tbl := pk_t2 _ (List.mem_of_getElem? (i := 84) rfl)
set_option maxRecDepth 100000 in
theorem px12_111 : Cond.fieldLink RX0 34 "TongueHouse$Chart" "kindLins" "[I" ∈ lw_tbl := pk_t2 _ (List.mem_of_getElem? (i := 92) rfl)
set_option maxRecDepth 100000 in
theorem px12_112 : Cond.fieldLink RX0 37 "TongueHouse$Chart" "linOrder" "[I" ∈ lw_tbl := pk_t2 _ (List.mem_of_getElem? (i := 93) rfl)
set_option maxRecDepth 100000 in
theorem px12_113 : Cond.fieldLink RX0 40 "TongueHouse$Chart" "chosen" "[I" ∈ lw_tbl := pk_t2 _ (List.mem_of_getElem? (i := 96) rfl)
set_option maxRecDepth 100000 in
theorem px12_114 : Cond.fieldLink RX0 43 "TongueHouse$Chart" "chosenValues" "[I" ∈ lw_tbl := pk_t2 _ (List.mem_of_getElem? (i := 97) rfl)
set_option maxRecDepth 100000 in
theorem px12_115 : Cond.fieldLink RX0 46 "TongueHouse$Chart" "work" "[I" ∈ lw_tbl := pk_t2 _ (List.mem_of_getElem? (i := 98) rfl)
set_option maxRecDepth 100000 in
theorem px12_116 : Cond.fieldLink RX0 49 "TongueHouse$Chart" "store" "LTongueHouse$Store;" ∈ lw_tbl := pk_t2 _ (List.mem_of_getElem? (i := 65) rfl)
set_option maxRecDepth 100000 in
theorem px12_117 : Cond.methodLink RX12 52 yX5_init ∈ lw_tbl := pk_t2 _ (List.mem_of_getElem? (i := 146) rfl)
set_option maxRecDepth 100000 in
theorem px12_118 : Cond.instanceMethod yX5_init ∈ lw_tbl := pk_t2 _ (List.mem_of_getElem? (i := 147) rfl)
set_option maxRecDepth 100000 in
theorem px12_119 : Cond.code yX5_init cX5_init 3 none ∈ lw_tbl := pk_t2 _ (List.mem_of_getElem? (i := 148) rfl)
set_option maxRecDepth 100000 in
theorem px12_120 : Cond.methodLink RX5 3 objectInit ∈ lw_tbl := pk_t2 _ (List.mem_of_getElem? (i := 149) rfl)
set_option maxRecDepth 100000 in
theorem px12_121 : Cond.arrayClass .boolean ∈ lw_tbl := pk_t2 _ (List.mem_of_getElem? (i := 209) rfl)
set_option maxRecDepth 100000 in
theorem px12_122 : Cond.fieldLink RX5 9 "TongueHouse$Ranking" "barred" "[Z" ∈ lw_tbl := pk_t2 _ (List.mem_of_getElem? (i := 156) rfl)
set_option maxRecDepth 100000 in
theorem px12_123 : Cond.fieldLink RX5 17 "TongueHouse$Ranking" "treeCount" "[J" ∈ lw_tbl := pk_t2 _ (List.mem_of_getElem? (i := 157) rfl)
set_option maxRecDepth 100000 in
theorem px12_124 : Cond.fieldLink RX5 21 "TongueHouse$Ranking" "reached" "[Z" ∈ lw_tbl := pk_t2 _ (List.mem_of_getElem? (i := 158) rfl)
set_option maxRecDepth 100000 in
theorem px12_125 : Cond.fieldLink RX5 24 "TongueHouse$Ranking" "order" "[I" ∈ lw_tbl := pk_t2 _ (List.mem_of_getElem? (i := 160) rfl)
set_option maxRecDepth 100000 in
theorem px12_126 : Cond.fieldLink RX5 28 "TongueHouse$Ranking" "spare" "[I" ∈ lw_tbl := pk_t2 _ (List.mem_of_getElem? (i := 161) rfl)
set_option maxRecDepth 100000 in
theorem px12_127 : Cond.fieldLink RX5 31 "TongueHouse$Ranking" "listSize" "[I" ∈ lw_tbl := pk_t2 _ (List.mem_of_getElem? (i := 162) rfl)
set_option maxRecDepth 100000 in
theorem px12_128 : Cond.constant RX5 34 ( 48000 ) ∈ lw_tbl := pk_t2 _ (List.mem_of_getElem? (i := 150) rfl)
set_option maxRecDepth 100000 in
theorem px12_129 : Cond.fieldLink RX5 35 "TongueHouse$Ranking" "listPrice" "[I" ∈ lw_tbl := pk_t2 _ (List.mem_of_getElem? (i := 163) rfl)
set_option maxRecDepth 100000 in
theorem px12_130 : Cond.fieldLink RX5 38 "TongueHouse$Ranking" "listWay" "[I" ∈ lw_tbl := pk_t2 _ (List.mem_of_getElem? (i := 164) rfl)
set_option maxRecDepth 100000 in
theorem px12_131 : Cond.fieldLink RX5 41 "TongueHouse$Ranking" "listRanks" "[I" ∈ lw_tbl := pk_t2 _ (List.mem_of_getElem? (i := 165) rfl)
set_option maxRecDepth 100000 in
theorem px12_132 : Cond.fieldLink RX5 44 "TongueHouse$Ranking" "topPrice" "[I" ∈ lw_tbl := pk_t2 _ (List.mem_of_getElem? (i := 167) rfl)
set_option maxRecDepth 100000 in
theorem px12_133 : Cond.fieldLink RX5 47 "TongueHouse$Ranking" "topEntry" "[I" ∈ lw_tbl := pk_t2 _ (List.mem_of_getElem? (i := 168) rfl)
set_option maxRecDepth 100000 in
theorem px12_134 : Cond.fieldLink RX5 50 "TongueHouse$Ranking" "stack" "[I" ∈ lw_tbl := pk_t2 _ (List.mem_of_getElem? (i := 169) rfl)
set_option maxRecDepth 100000 in
theorem px12_135 : Cond.fieldLink RX5 53 "TongueHouse$Ranking" "store" "LTongueHouse$Store;" ∈ lw_tbl := pk_t2 _ (List.mem_of_getElem? (i := 151) rfl)
set_option maxRecDepth 100000 in
theorem px12_136 : Cond.fieldLink RX5 57 "TongueHouse$Ranking" "chart" "LTongueHouse$Chart;" ∈ lw_tbl := pk_t2 _ (List.mem_of_getElem? (i := 152) rfl)
set_option maxRecDepth 100000 in
theorem px12_137 : Cond.methodLink RX12 61 yX7_init ∈ lw_tbl := pk_t2 _ (List.mem_of_getElem? (i := 212) rfl)
set_option maxRecDepth 100000 in
theorem px12_138 : Cond.instanceMethod yX7_init ∈ lw_tbl := pk_t2 _ (List.mem_of_getElem? (i := 213) rfl)
set_option maxRecDepth 100000 in
theorem px12_139 : Cond.code yX7_init cX7_init 2 none ∈ lw_tbl := pk_t2 _ (List.mem_of_getElem? (i := 214) rfl)
set_option maxRecDepth 100000 in
theorem px12_140 : Cond.methodLink RX7 3 objectInit ∈ lw_tbl := pk_t2 _ (List.mem_of_getElem? (i := 215) rfl)
set_option maxRecDepth 100000 in
theorem px12_141 : Cond.fieldLink RX7 9 "TongueHouse$Sayer" "child" "[I" ∈ lw_tbl := pk_t2 _ (List.mem_of_getElem? (i := 218) rfl)
set_option maxRecDepth 100000 in
theorem px12_142 : Cond.fieldLink RX7 15 "TongueHouse$Sayer" "options" "[I" ∈ lw_tbl := pk_t2 _ (List.mem_of_getElem? (i := 219) rfl)
set_option maxRecDepth 100000 in
theorem px12_143 : Cond.fieldLink RX7 18 "TongueHouse$Sayer" "cost" "[I" ∈ lw_tbl := pk_t2 _ (List.mem_of_getElem? (i := 220) rfl)
set_option maxRecDepth 100000 in
theorem px12_144 : Cond.fieldLink RX7 21 "TongueHouse$Sayer" "values" "[I" ∈ lw_tbl := pk_t2 _ (List.mem_of_getElem? (i := 221) rfl)
set_option maxRecDepth 100000 in
theorem px12_145 : Cond.fieldLink RX7 24 "TongueHouse$Sayer" "length" "[I" ∈ lw_tbl := pk_t2 _ (List.mem_of_getElem? (i := 222) rfl)
set_option maxRecDepth 100000 in
theorem px12_146 : Cond.fieldLink RX7 27 "TongueHouse$Sayer" "rule" "[I" ∈ lw_tbl := pk_t2 _ (List.mem_of_getElem? (i := 223) rfl)
set_option maxRecDepth 100000 in
theorem px12_147 : Cond.fieldLink RX7 30 "TongueHouse$Sayer" "picks" "[I" ∈ lw_tbl := pk_t2 _ (List.mem_of_getElem? (i := 224) rfl)
set_option maxRecDepth 100000 in
theorem px12_148 : Cond.fieldLink RX7 33 "TongueHouse$Sayer" "picked" "[I" ∈ lw_tbl := pk_t2 _ (List.mem_of_getElem? (i := 226) rfl)
set_option maxRecDepth 100000 in
theorem px12_149 : Cond.fieldLink RX7 36 "TongueHouse$Sayer" "work" "[I" ∈ lw_tbl := pk_t2 _ (List.mem_of_getElem? (i := 227) rfl)
set_option maxRecDepth 100000 in
theorem px12_150 : Cond.fieldLink RX7 39 "TongueHouse$Sayer" "openEntry" "[I" ∈ lw_tbl := pk_t2 _ (List.mem_of_getElem? (i := 228) rfl)
set_option maxRecDepth 100000 in
theorem px12_151 : Cond.fieldLink RX7 42 "TongueHouse$Sayer" "openItem" "[I" ∈ lw_tbl := pk_t2 _ (List.mem_of_getElem? (i := 229) rfl)
set_option maxRecDepth 100000 in
theorem px12_152 : Cond.fieldLink RX7 45 "TongueHouse$Sayer" "store" "LTongueHouse$Store;" ∈ lw_tbl := pk_t2 _ (List.mem_of_getElem? (i := 216) rfl)
set_option maxRecDepth 100000 in
theorem px12_153 : Cond.methodLink RX12 68 yX10_init ∈ lw_tbl := pk_t3 _ (List.mem_of_getElem? (i := 21) rfl)
set_option maxRecDepth 100000 in
theorem px12_154 : Cond.instanceMethod yX10_init ∈ lw_tbl := pk_t3 _ (List.mem_of_getElem? (i := 22) rfl)
set_option maxRecDepth 100000 in
theorem px12_155 : Cond.code yX10_init cX10_init 2 none ∈ lw_tbl := pk_t3 _ (List.mem_of_getElem? (i := 23) rfl)
set_option maxRecDepth 100000 in
theorem px12_156 : Cond.methodLink RX10 3 objectInit ∈ lw_tbl := pk_t3 _ (List.mem_of_getElem? (i := 24) rfl)
set_option maxRecDepth 100000 in
theorem px12_157 : Cond.fieldLink RX10 11 "TongueHouse$Thought" "op" "[I" ∈ lw_tbl := pk_t3 _ (List.mem_of_getElem? (i := 27) rfl)
set_option maxRecDepth 100000 in
theorem px12_158 : Cond.fieldLink RX10 15 "TongueHouse$Thought" "name" "[J" ∈ lw_tbl := pk_t3 _ (List.mem_of_getElem? (i := 28) rfl)
set_option maxRecDepth 100000 in
theorem px12_159 : Cond.fieldLink RX10 19 "TongueHouse$Thought" "nextOp" "[I" ∈ lw_tbl := pk_t3 _ (List.mem_of_getElem? (i := 29) rfl)
set_option maxRecDepth 100000 in
theorem px12_160 : Cond.fieldLink RX10 22 "TongueHouse$Thought" "nextName" "[J" ∈ lw_tbl := pk_t3 _ (List.mem_of_getElem? (i := 30) rfl)
set_option maxRecDepth 100000 in
theorem px12_161 : Cond.fieldLink RX10 25 "TongueHouse$Thought" "child" "[I" ∈ lw_tbl := pk_t3 _ (List.mem_of_getElem? (i := 31) rfl)
set_option maxRecDepth 100000 in
theorem px12_162 : Cond.fieldLink RX10 28 "TongueHouse$Thought" "stack" "[I" ∈ lw_tbl := pk_t3 _ (List.mem_of_getElem? (i := 32) rfl)
set_option maxRecDepth 100000 in
theorem px12_163 : Cond.fieldLink RX10 31 "TongueHouse$Thought" "inner" "[I" ∈ lw_tbl := pk_t3 _ (List.mem_of_getElem? (i := 33) rfl)
set_option maxRecDepth 100000 in
theorem px12_164 : Cond.fieldLink RX10 34 "TongueHouse$Thought" "openName" "[J" ∈ lw_tbl := pk_t3 _ (List.mem_of_getElem? (i := 35) rfl)
set_option maxRecDepth 100000 in
theorem px12_165 : Cond.fieldLink RX10 37 "TongueHouse$Thought" "openPart" "[I" ∈ lw_tbl := pk_t3 _ (List.mem_of_getElem? (i := 36) rfl)
set_option maxRecDepth 100000 in
theorem px12_166 : Cond.fieldLink RX10 40 "TongueHouse$Thought" "openSeen" "[I" ∈ lw_tbl := pk_t3 _ (List.mem_of_getElem? (i := 37) rfl)
set_option maxRecDepth 100000 in
theorem px12_167 : Cond.fieldLink RX10 43 "TongueHouse$Thought" "openValue" "[I" ∈ lw_tbl := pk_t3 _ (List.mem_of_getElem? (i := 38) rfl)
set_option maxRecDepth 100000 in
theorem px12_168 : Cond.fieldLink RX10 46 "TongueHouse$Thought" "openLevel" "[I" ∈ lw_tbl := pk_t3 _ (List.mem_of_getElem? (i := 39) rfl)
set_option maxRecDepth 100000 in
theorem px12_169 : Cond.fieldLink RX10 49 "TongueHouse$Thought" "thing" "[I" ∈ lw_tbl := pk_t3 _ (List.mem_of_getElem? (i := 40) rfl)
set_option maxRecDepth 100000 in
theorem px12_170 : Cond.fieldLink RX10 52 "TongueHouse$Thought" "store" "LTongueHouse$Store;" ∈ lw_tbl := pk_t3 _ (List.mem_of_getElem? (i := 25) rfl)
set_option maxRecDepth 100000 in
theorem px12_171 : Cond.methodLink RX12 75 yX1_init ∈ lw_tbl := pk_t3 _ (List.mem_of_getElem? (i := 85) rfl)
set_option maxRecDepth 100000 in
theorem px12_172 : Cond.instanceMethod yX1_init ∈ lw_tbl := pk_t3 _ (List.mem_of_getElem? (i := 86) rfl)
set_option maxRecDepth 100000 in
theorem px12_173 : Cond.code yX1_init cX1_init 2 none ∈ lw_tbl := pk_t3 _ (List.mem_of_getElem? (i := 87) rfl)
set_option maxRecDepth 100000 in
theorem px12_174 : Cond.methodLink RX1 3 objectInit ∈ lw_tbl := pk_t3 _ (List.mem_of_getElem? (i := 88) rfl)
set_option maxRecDepth 100000 in
theorem px12_175 : Cond.fieldLink RX1 9 "TongueHouse$Finder" "analysed" "[I" ∈ lw_tbl := pk_t3 _ (List.mem_of_getElem? (i := 96) rfl)
set_option maxRecDepth 100000 in
theorem px12_176 : Cond.fieldLink RX1 15 "TongueHouse$Finder" "guessPattern" "[I" ∈ lw_tbl := pk_t3 _ (List.mem_of_getElem? (i := 98) rfl)
set_option maxRecDepth 100000 in
theorem px12_177 : Cond.fieldLink RX1 18 "TongueHouse$Finder" "guessForms" "[I" ∈ lw_tbl := pk_t3 _ (List.mem_of_getElem? (i := 99) rfl)
set_option maxRecDepth 100000 in
theorem px12_178 : Cond.classLink RX1 21 "[B" ∈ lw_tbl := pk_t3 _ (List.mem_of_getElem? (i := 89) rfl)
set_option maxRecDepth 100000 in
theorem px12_179 : Cond.fieldLink RX1 23 "TongueHouse$Finder" "sentence" "[[B" ∈ lw_tbl := pk_t3 _ (List.mem_of_getElem? (i := 104) rfl)
set_option maxRecDepth 100000 in
theorem px12_180 : Cond.fieldLink RX1 27 "TongueHouse$Finder" "sentenceTongue" "[I" ∈ lw_tbl := pk_t3 _ (List.mem_of_getElem? (i := 105) rfl)
set_option maxRecDepth 100000 in
theorem px12_181 : Cond.classLink RX1 30 RX9 ∈ lw_tbl := pk_t3 _ (List.mem_of_getElem? (i := 91) rfl)
set_option maxRecDepth 100000 in
theorem px12_182 : Cond.fieldLink RX1 33 "TongueHouse$Finder" "words" "LTongueHouse$Text;" ∈ lw_tbl := pk_t3 _ (List.mem_of_getElem? (i := 106) rfl)
set_option maxRecDepth 100000 in
theorem px12_183 : Cond.fieldLink RX1 37 "TongueHouse$Finder" "wordKinds" "[I" ∈ lw_tbl := pk_t3 _ (List.mem_of_getElem? (i := 107) rfl)
set_option maxRecDepth 100000 in
theorem px12_184 : Cond.fieldLink RX1 40 "TongueHouse$Finder" "hitSentence" "[I" ∈ lw_tbl := pk_t3 _ (List.mem_of_getElem? (i := 109) rfl)
set_option maxRecDepth 100000 in
theorem px12_185 : Cond.fieldLink RX1 43 "TongueHouse$Finder" "hitWord" "[I" ∈ lw_tbl := pk_t3 _ (List.mem_of_getElem? (i := 110) rfl)
set_option maxRecDepth 100000 in
theorem px12_186 : Cond.fieldLink RX1 46 "TongueHouse$Finder" "question" "[I" ∈ lw_tbl := pk_t3 _ (List.mem_of_getElem? (i := 112) rfl)
set_option maxRecDepth 100000 in
theorem px12_187 : Cond.fieldLink RX1 49 "TongueHouse$Finder" "store" "LTongueHouse$Store;" ∈ lw_tbl := pk_t3 _ (List.mem_of_getElem? (i := 93) rfl)
set_option maxRecDepth 100000 in
theorem px12_188 : Cond.laysFinal "TongueHouse$Store" "TongueHouse$Store" "kinds" "LTongueHouse$Names;" ∈ lw_tbl := pk_t1 _ (List.mem_of_getElem? (i := 125) rfl)
set_option maxRecDepth 100000 in
theorem px12_189 : Cond.laysFinal "TongueHouse$Store" "TongueHouse$Store" "funs" "LTongueHouse$Names;" ∈ lw_tbl := pk_t1 _ (List.mem_of_getElem? (i := 127) rfl)
set_option maxRecDepth 100000 in
theorem px12_190 : Cond.laysFinal "TongueHouse$Store" "TongueHouse$Store" "things" "LTongueHouse$Names;" ∈ lw_tbl := pk_t1 _ (List.mem_of_getElem? (i := 129) rfl)
set_option maxRecDepth 100000 in
theorem px12_191 : Cond.laysFinal "TongueHouse$Store" "TongueHouse$Store" "tongueNames" "LTongueHouse$Names;" ∈ lw_tbl := pk_t1 _ (List.mem_of_getElem? (i := 131) rfl)
set_option maxRecDepth 100000 in
theorem px12_192 : Cond.laysFinal "TongueHouse$Store" "TongueHouse$Store" "tongues" "[LTongueHouse$Tongue;" ∈ lw_tbl := pk_t1 _ (List.mem_of_getElem? (i := 133) rfl)
set_option maxRecDepth 100000 in
theorem px12_193 : Cond.lays "TongueHouse$Store" "TongueHouse$Store" "current" "I" ∈ lw_tbl := pk_t1 _ (List.mem_of_getElem? (i := 135) rfl)
set_option maxRecDepth 100000 in
theorem px12_194 : Cond.laysFinal "TongueHouse$Store" "TongueHouse$Store" "funKind" "[I" ∈ lw_tbl := pk_t1 _ (List.mem_of_getElem? (i := 137) rfl)
set_option maxRecDepth 100000 in
theorem px12_195 : Cond.laysFinal "TongueHouse$Store" "TongueHouse$Store" "funArity" "[I" ∈ lw_tbl := pk_t1 _ (List.mem_of_getElem? (i := 139) rfl)
set_option maxRecDepth 100000 in
theorem px12_196 : Cond.laysFinal "TongueHouse$Store" "TongueHouse$Store" "funArgs" "[I" ∈ lw_tbl := pk_t1 _ (List.mem_of_getElem? (i := 141) rfl)
set_option maxRecDepth 100000 in
theorem px12_197 : Cond.laysFinal "TongueHouse$Store" "TongueHouse$Store" "funCost" "[I" ∈ lw_tbl := pk_t1 _ (List.mem_of_getElem? (i := 143) rfl)
set_option maxRecDepth 100000 in
theorem px12_198 : Cond.laysFinal "TongueHouse$Store" "TongueHouse$Store" "meanSize" "[I" ∈ lw_tbl := pk_t1 _ (List.mem_of_getElem? (i := 145) rfl)
set_option maxRecDepth 100000 in
theorem px12_199 : Cond.laysFinal "TongueHouse$Store" "TongueHouse$Store" "meanOp" "[I" ∈ lw_tbl := pk_t1 _ (List.mem_of_getElem? (i := 147) rfl)
set_option maxRecDepth 100000 in
theorem px12_200 : Cond.laysFinal "TongueHouse$Store" "TongueHouse$Store" "meanName" "[J" ∈ lw_tbl := pk_t1 _ (List.mem_of_getElem? (i := 149) rfl)
set_option maxRecDepth 100000 in
theorem px12_201 : Cond.lays "TongueHouse$Store" "TongueHouse$Store" "factCount" "I" ∈ lw_tbl := pk_t1 _ (List.mem_of_getElem? (i := 151) rfl)
set_option maxRecDepth 100000 in
theorem px12_202 : Cond.laysFinal "TongueHouse$Store" "TongueHouse$Store" "factName" "[J" ∈ lw_tbl := pk_t1 _ (List.mem_of_getElem? (i := 153) rfl)
set_option maxRecDepth 100000 in
theorem px12_203 : Cond.laysFinal "TongueHouse$Store" "TongueHouse$Store" "factThings" "[I" ∈ lw_tbl := pk_t1 _ (List.mem_of_getElem? (i := 155) rfl)
set_option maxRecDepth 100000 in
theorem px12_204 : Cond.laysFinal "TongueHouse$Store" "TongueHouse$Store" "pool" "[B" ∈ lw_tbl := pk_t1 _ (List.mem_of_getElem? (i := 157) rfl)
set_option maxRecDepth 100000 in
theorem px12_205 : Cond.lays "TongueHouse$Store" "TongueHouse$Store" "poolSize" "I" ∈ lw_tbl := pk_t1 _ (List.mem_of_getElem? (i := 159) rfl)
set_option maxRecDepth 100000 in
theorem px12_206 : Cond.lays "TongueHouse$Store" "TongueHouse$Store" "isFull" "Z" ∈ lw_tbl := pk_t1 _ (List.mem_of_getElem? (i := 161) rfl)
set_option maxRecDepth 100000 in
theorem px12_207 : Cond.laysFinal "TongueHouse$Store" "TongueHouse$Store" "marks" "[I" ∈ lw_tbl := pk_t1 _ (List.mem_of_getElem? (i := 163) rfl)
set_option maxRecDepth 100000 in
theorem px12_208 : Cond.laysFinal "TongueHouse$Store" "TongueHouse$Store" "stack" "[I" ∈ lw_tbl := pk_t1 _ (List.mem_of_getElem? (i := 165) rfl)
set_option maxRecDepth 100000 in
theorem px12_209 : Cond.laysFinal "TongueHouse" "TongueHouse" "store" "LTongueHouse$Store;" ∈ lw_tbl := pk_t3 _ (List.mem_of_getElem? (i := 172) rfl)
set_option maxRecDepth 100000 in
theorem px12_210 : Cond.laysFinal "TongueHouse" "TongueHouse" "tape" "LTongueHouse$Text;" ∈ lw_tbl := pk_t3 _ (List.mem_of_getElem? (i := 174) rfl)
set_option maxRecDepth 100000 in
theorem px12_211 : Cond.laysFinal "TongueHouse" "TongueHouse" "out" "LTongueHouse$Text;" ∈ lw_tbl := pk_t3 _ (List.mem_of_getElem? (i := 176) rfl)
set_option maxRecDepth 100000 in
theorem px12_212 : Cond.laysFinal "TongueHouse" "TongueHouse" "base" "LTongueHouse$Text;" ∈ lw_tbl := pk_t3 _ (List.mem_of_getElem? (i := 178) rfl)
set_option maxRecDepth 100000 in
theorem px12_213 : Cond.laysFinal "TongueHouse" "TongueHouse" "draft" "LTongueHouse$Text;" ∈ lw_tbl := pk_t3 _ (List.mem_of_getElem? (i := 180) rfl)
set_option maxRecDepth 100000 in
theorem px12_214 : Cond.laysFinal "TongueHouse" "TongueHouse" "reader" "LTongueHouse$Reader;" ∈ lw_tbl := pk_t3 _ (List.mem_of_getElem? (i := 182) rfl)
set_option maxRecDepth 100000 in
theorem px12_215 : Cond.laysFinal "TongueHouse" "TongueHouse" "chart" "LTongueHouse$Chart;" ∈ lw_tbl := pk_t3 _ (List.mem_of_getElem? (i := 184) rfl)
set_option maxRecDepth 100000 in
theorem px12_216 : Cond.laysFinal "TongueHouse" "TongueHouse" "ranking" "LTongueHouse$Ranking;" ∈ lw_tbl := pk_t3 _ (List.mem_of_getElem? (i := 186) rfl)
set_option maxRecDepth 100000 in
theorem px12_217 : Cond.laysFinal "TongueHouse" "TongueHouse" "sayer" "LTongueHouse$Sayer;" ∈ lw_tbl := pk_t3 _ (List.mem_of_getElem? (i := 188) rfl)
set_option maxRecDepth 100000 in
theorem px12_218 : Cond.laysFinal "TongueHouse" "TongueHouse" "thought" "LTongueHouse$Thought;" ∈ lw_tbl := pk_t3 _ (List.mem_of_getElem? (i := 190) rfl)
set_option maxRecDepth 100000 in
theorem px12_219 : Cond.laysFinal "TongueHouse" "TongueHouse" "finder" "LTongueHouse$Finder;" ∈ lw_tbl := pk_t3 _ (List.mem_of_getElem? (i := 192) rfl)
set_option maxRecDepth 100000 in
theorem px12_220 : Cond.laysFinal "TongueHouse" "TongueHouse" "planted" "[[I" ∈ lw_tbl := pk_t3 _ (List.mem_of_getElem? (i := 194) rfl)
set_option maxRecDepth 100000 in
theorem px12_221 : Cond.laysFinal "TongueHouse" "TongueHouse" "plantedSize" "[I" ∈ lw_tbl := pk_t3 _ (List.mem_of_getElem? (i := 196) rfl)
set_option maxRecDepth 100000 in
theorem px12_222 : Cond.laysFinal "TongueHouse" "TongueHouse" "candidates" "[[B" ∈ lw_tbl := pk_t3 _ (List.mem_of_getElem? (i := 198) rfl)
set_option maxRecDepth 100000 in
theorem px12_223 : Cond.laysFinal "TongueHouse" "TongueHouse" "candidateSize" "[I" ∈ lw_tbl := pk_t3 _ (List.mem_of_getElem? (i := 200) rfl)
set_option maxRecDepth 100000 in
theorem px12_224 : Cond.lays "TongueHouse" "TongueHouse" "candidateCount" "I" ∈ lw_tbl := pk_t3 _ (List.mem_of_getElem? (i := 202) rfl)
set_option maxRecDepth 100000 in
theorem px12_225 : Cond.laysFinal "TongueHouse" "TongueHouse" "changes" "[I" ∈ lw_tbl := pk_t3 _ (List.mem_of_getElem? (i := 204) rfl)
set_option maxRecDepth 100000 in
theorem px12_226 : Cond.laysFinal "TongueHouse$Text" "TongueHouse$Text" "bytes" "[B" ∈ lw_tbl := pk_t1 _ (List.mem_of_getElem? (i := 211) rfl)
set_option maxRecDepth 100000 in
theorem px12_227 : Cond.lays "TongueHouse$Text" "TongueHouse$Text" "size" "I" ∈ lw_tbl := pk_t1 _ (List.mem_of_getElem? (i := 213) rfl)
set_option maxRecDepth 100000 in
theorem px12_228 : Cond.laysFinal "TongueHouse$Text" "TongueHouse$Text" "start" "[I" ∈ lw_tbl := pk_t1 _ (List.mem_of_getElem? (i := 215) rfl)
set_option maxRecDepth 100000 in
theorem px12_229 : Cond.laysFinal "TongueHouse$Text" "TongueHouse$Text" "len" "[I" ∈ lw_tbl := pk_t1 _ (List.mem_of_getElem? (i := 217) rfl)
set_option maxRecDepth 100000 in
theorem px12_230 : Cond.lays "TongueHouse$Text" "TongueHouse$Text" "words" "I" ∈ lw_tbl := pk_t1 _ (List.mem_of_getElem? (i := 219) rfl)
set_option maxRecDepth 100000 in
theorem px12_231 : Cond.lays "TongueHouse$Text" "TongueHouse$Text" "at" "I" ∈ lw_tbl := pk_t1 _ (List.mem_of_getElem? (i := 221) rfl)
set_option maxRecDepth 100000 in
theorem px12_232 : Cond.lays "TongueHouse$Text" "TongueHouse$Text" "next" "I" ∈ lw_tbl := pk_t1 _ (List.mem_of_getElem? (i := 223) rfl)
set_option maxRecDepth 100000 in
theorem px12_233 : Cond.lays "TongueHouse$Text" "TongueHouse$Text" "type" "I" ∈ lw_tbl := pk_t1 _ (List.mem_of_getElem? (i := 225) rfl)
set_option maxRecDepth 100000 in
theorem px12_234 : Cond.lays "TongueHouse$Text" "TongueHouse$Text" "value" "I" ∈ lw_tbl := pk_t1 _ (List.mem_of_getElem? (i := 227) rfl)
set_option maxRecDepth 100000 in
theorem px12_235 : Cond.lays "TongueHouse$Text" "TongueHouse$Text" "name" "J" ∈ lw_tbl := pk_t1 _ (List.mem_of_getElem? (i := 229) rfl)
set_option maxRecDepth 100000 in
theorem px12_236 : Cond.laysFinal "TongueHouse$Reader" "TongueHouse$Reader" "store" "LTongueHouse$Store;" ∈ lw_tbl := pk_t2 _ (List.mem_of_getElem? (i := 19) rfl)
set_option maxRecDepth 100000 in
theorem px12_237 : Cond.laysFinal "TongueHouse$Reader" "TongueHouse$Reader" "tape" "LTongueHouse$Text;" ∈ lw_tbl := pk_t2 _ (List.mem_of_getElem? (i := 21) rfl)
set_option maxRecDepth 100000 in
theorem px12_238 : Cond.lays "TongueHouse$Reader" "TongueHouse$Reader" "tongue" "LTongueHouse$Tongue;" ∈ lw_tbl := pk_t2 _ (List.mem_of_getElem? (i := 23) rfl)
set_option maxRecDepth 100000 in
theorem px12_239 : Cond.lays "TongueHouse$Reader" "TongueHouse$Reader" "rule" "I" ∈ lw_tbl := pk_t2 _ (List.mem_of_getElem? (i := 25) rfl)
set_option maxRecDepth 100000 in
theorem px12_240 : Cond.lays "TongueHouse$Reader" "TongueHouse$Reader" "where" "I" ∈ lw_tbl := pk_t2 _ (List.mem_of_getElem? (i := 27) rfl)
set_option maxRecDepth 100000 in
theorem px12_241 : Cond.lays "TongueHouse$Reader" "TongueHouse$Reader" "first" "I" ∈ lw_tbl := pk_t2 _ (List.mem_of_getElem? (i := 29) rfl)
set_option maxRecDepth 100000 in
theorem px12_242 : Cond.lays "TongueHouse$Reader" "TongueHouse$Reader" "values" "I" ∈ lw_tbl := pk_t2 _ (List.mem_of_getElem? (i := 31) rfl)
set_option maxRecDepth 100000 in
theorem px12_243 : Cond.lays "TongueHouse$Reader" "TongueHouse$Reader" "cost" "I" ∈ lw_tbl := pk_t2 _ (List.mem_of_getElem? (i := 33) rfl)
set_option maxRecDepth 100000 in
theorem px12_244 : Cond.lays "TongueHouse$Reader" "TongueHouse$Reader" "cells" "I" ∈ lw_tbl := pk_t2 _ (List.mem_of_getElem? (i := 35) rfl)
set_option maxRecDepth 100000 in
theorem px12_245 : Cond.laysFinal "TongueHouse$Reader" "TongueHouse$Reader" "cell" "[I" ∈ lw_tbl := pk_t2 _ (List.mem_of_getElem? (i := 37) rfl)
set_option maxRecDepth 100000 in
theorem px12_246 : Cond.laysFinal "TongueHouse$Reader" "TongueHouse$Reader" "row" "[I" ∈ lw_tbl := pk_t2 _ (List.mem_of_getElem? (i := 39) rfl)
set_option maxRecDepth 100000 in
theorem px12_247 : Cond.laysFinal "TongueHouse$Reader" "TongueHouse$Reader" "names" "[J" ∈ lw_tbl := pk_t2 _ (List.mem_of_getElem? (i := 41) rfl)
set_option maxRecDepth 100000 in
theorem px12_248 : Cond.lays "TongueHouse$Reader" "TongueHouse$Reader" "termSize" "I" ∈ lw_tbl := pk_t2 _ (List.mem_of_getElem? (i := 43) rfl)
set_option maxRecDepth 100000 in
theorem px12_249 : Cond.laysFinal "TongueHouse$Reader" "TongueHouse$Reader" "termOp" "[I" ∈ lw_tbl := pk_t2 _ (List.mem_of_getElem? (i := 45) rfl)
set_option maxRecDepth 100000 in
theorem px12_250 : Cond.laysFinal "TongueHouse$Reader" "TongueHouse$Reader" "termName" "[J" ∈ lw_tbl := pk_t2 _ (List.mem_of_getElem? (i := 47) rfl)
set_option maxRecDepth 100000 in
theorem px12_251 : Cond.lays "TongueHouse$Reader" "TongueHouse$Reader" "binders" "I" ∈ lw_tbl := pk_t2 _ (List.mem_of_getElem? (i := 49) rfl)
set_option maxRecDepth 100000 in
theorem px12_252 : Cond.laysFinal "TongueHouse$Reader" "TongueHouse$Reader" "binder" "[J" ∈ lw_tbl := pk_t2 _ (List.mem_of_getElem? (i := 51) rfl)
set_option maxRecDepth 100000 in
theorem px12_253 : Cond.laysFinal "TongueHouse$Reader" "TongueHouse$Reader" "opened" "[I" ∈ lw_tbl := pk_t2 _ (List.mem_of_getElem? (i := 53) rfl)
set_option maxRecDepth 100000 in
theorem px12_254 : Cond.laysFinal "TongueHouse$Reader" "TongueHouse$Reader" "seen" "[I" ∈ lw_tbl := pk_t2 _ (List.mem_of_getElem? (i := 55) rfl)
set_option maxRecDepth 100000 in
theorem px12_255 : Cond.laysFinal "TongueHouse$Chart" "TongueHouse$Chart" "store" "LTongueHouse$Store;" ∈ lw_tbl := pk_t2 _ (List.mem_of_getElem? (i := 99) rfl)
set_option maxRecDepth 100000 in
theorem px12_256 : Cond.laysFinal "TongueHouse$Chart" "TongueHouse$Chart" "firstNode" "[I" ∈ lw_tbl := pk_t2 _ (List.mem_of_getElem? (i := 101) rfl)
set_option maxRecDepth 100000 in
theorem px12_257 : Cond.laysFinal "TongueHouse$Chart" "TongueHouse$Chart" "nodeCount" "[I" ∈ lw_tbl := pk_t2 _ (List.mem_of_getElem? (i := 103) rfl)
set_option maxRecDepth 100000 in
theorem px12_258 : Cond.lays "TongueHouse$Chart" "TongueHouse$Chart" "nodes" "I" ∈ lw_tbl := pk_t2 _ (List.mem_of_getElem? (i := 105) rfl)
set_option maxRecDepth 100000 in
theorem px12_259 : Cond.laysFinal "TongueHouse$Chart" "TongueHouse$Chart" "nodeEnd" "[I" ∈ lw_tbl := pk_t2 _ (List.mem_of_getElem? (i := 107) rfl)
set_option maxRecDepth 100000 in
theorem px12_260 : Cond.laysFinal "TongueHouse$Chart" "TongueHouse$Chart" "nodeValues" "[I" ∈ lw_tbl := pk_t2 _ (List.mem_of_getElem? (i := 109) rfl)
set_option maxRecDepth 100000 in
theorem px12_261 : Cond.lays "TongueHouse$Chart" "TongueHouse$Chart" "ways" "I" ∈ lw_tbl := pk_t2 _ (List.mem_of_getElem? (i := 111) rfl)
set_option maxRecDepth 100000 in
theorem px12_262 : Cond.laysFinal "TongueHouse$Chart" "TongueHouse$Chart" "wayNode" "[I" ∈ lw_tbl := pk_t2 _ (List.mem_of_getElem? (i := 113) rfl)
set_option maxRecDepth 100000 in
theorem px12_263 : Cond.laysFinal "TongueHouse$Chart" "TongueHouse$Chart" "wayRule" "[I" ∈ lw_tbl := pk_t2 _ (List.mem_of_getElem? (i := 115) rfl)
set_option maxRecDepth 100000 in
theorem px12_264 : Cond.laysFinal "TongueHouse$Chart" "TongueHouse$Chart" "wayArgs" "[I" ∈ lw_tbl := pk_t2 _ (List.mem_of_getElem? (i := 117) rfl)
set_option maxRecDepth 100000 in
theorem px12_265 : Cond.lays "TongueHouse$Chart" "TongueHouse$Chart" "root" "I" ∈ lw_tbl := pk_t2 _ (List.mem_of_getElem? (i := 119) rfl)
set_option maxRecDepth 100000 in
theorem px12_266 : Cond.lays "TongueHouse$Chart" "TongueHouse$Chart" "tries" "I" ∈ lw_tbl := pk_t2 _ (List.mem_of_getElem? (i := 121) rfl)
set_option maxRecDepth 100000 in
theorem px12_267 : Cond.lays "TongueHouse$Chart" "TongueHouse$Chart" "over" "Z" ∈ lw_tbl := pk_t2 _ (List.mem_of_getElem? (i := 123) rfl)
set_option maxRecDepth 100000 in
theorem px12_268 : Cond.lays "TongueHouse$Chart" "TongueHouse$Chart" "tongue" "LTongueHouse$Tongue;" ∈ lw_tbl := pk_t2 _ (List.mem_of_getElem? (i := 125) rfl)
set_option maxRecDepth 100000 in
theorem px12_269 : Cond.lays "TongueHouse$Chart" "TongueHouse$Chart" "text" "LTongueHouse$Text;" ∈ lw_tbl := pk_t2 _ (List.mem_of_getElem? (i := 127) rfl)
set_option maxRecDepth 100000 in
theorem px12_270 : Cond.laysFinal "TongueHouse$Chart" "TongueHouse$Chart" "kindLins" "[I" ∈ lw_tbl := pk_t2 _ (List.mem_of_getElem? (i := 129) rfl)
set_option maxRecDepth 100000 in
theorem px12_271 : Cond.laysFinal "TongueHouse$Chart" "TongueHouse$Chart" "linOrder" "[I" ∈ lw_tbl := pk_t2 _ (List.mem_of_getElem? (i := 131) rfl)
set_option maxRecDepth 100000 in
theorem px12_272 : Cond.lays "TongueHouse$Chart" "TongueHouse$Chart" "spanFirst" "I" ∈ lw_tbl := pk_t2 _ (List.mem_of_getElem? (i := 133) rfl)
set_option maxRecDepth 100000 in
theorem px12_273 : Cond.lays "TongueHouse$Chart" "TongueHouse$Chart" "spanEnd" "I" ∈ lw_tbl := pk_t2 _ (List.mem_of_getElem? (i := 135) rfl)
set_option maxRecDepth 100000 in
theorem px12_274 : Cond.laysFinal "TongueHouse$Chart" "TongueHouse$Chart" "chosen" "[I" ∈ lw_tbl := pk_t2 _ (List.mem_of_getElem? (i := 137) rfl)
set_option maxRecDepth 100000 in
theorem px12_275 : Cond.laysFinal "TongueHouse$Chart" "TongueHouse$Chart" "chosenValues" "[I" ∈ lw_tbl := pk_t2 _ (List.mem_of_getElem? (i := 139) rfl)
set_option maxRecDepth 100000 in
theorem px12_276 : Cond.laysFinal "TongueHouse$Chart" "TongueHouse$Chart" "work" "[I" ∈ lw_tbl := pk_t2 _ (List.mem_of_getElem? (i := 141) rfl)
set_option maxRecDepth 100000 in
theorem px12_277 : Cond.laysFinal "TongueHouse$Ranking" "TongueHouse$Ranking" "store" "LTongueHouse$Store;" ∈ lw_tbl := pk_t2 _ (List.mem_of_getElem? (i := 170) rfl)
set_option maxRecDepth 100000 in
theorem px12_278 : Cond.laysFinal "TongueHouse$Ranking" "TongueHouse$Ranking" "chart" "LTongueHouse$Chart;" ∈ lw_tbl := pk_t2 _ (List.mem_of_getElem? (i := 172) rfl)
set_option maxRecDepth 100000 in
theorem px12_279 : Cond.lays "TongueHouse$Ranking" "TongueHouse$Ranking" "tongue" "LTongueHouse$Tongue;" ∈ lw_tbl := pk_t2 _ (List.mem_of_getElem? (i := 174) rfl)
set_option maxRecDepth 100000 in
theorem px12_280 : Cond.lays "TongueHouse$Ranking" "TongueHouse$Ranking" "isOpen" "Z" ∈ lw_tbl := pk_t2 _ (List.mem_of_getElem? (i := 176) rfl)
set_option maxRecDepth 100000 in
theorem px12_281 : Cond.lays "TongueHouse$Ranking" "TongueHouse$Ranking" "ranked" "Z" ∈ lw_tbl := pk_t2 _ (List.mem_of_getElem? (i := 178) rfl)
set_option maxRecDepth 100000 in
theorem px12_282 : Cond.laysFinal "TongueHouse$Ranking" "TongueHouse$Ranking" "barred" "[Z" ∈ lw_tbl := pk_t2 _ (List.mem_of_getElem? (i := 180) rfl)
set_option maxRecDepth 100000 in
theorem px12_283 : Cond.laysFinal "TongueHouse$Ranking" "TongueHouse$Ranking" "treeCount" "[J" ∈ lw_tbl := pk_t2 _ (List.mem_of_getElem? (i := 182) rfl)
set_option maxRecDepth 100000 in
theorem px12_284 : Cond.laysFinal "TongueHouse$Ranking" "TongueHouse$Ranking" "reached" "[Z" ∈ lw_tbl := pk_t2 _ (List.mem_of_getElem? (i := 184) rfl)
set_option maxRecDepth 100000 in
theorem px12_285 : Cond.lays "TongueHouse$Ranking" "TongueHouse$Ranking" "orderSize" "I" ∈ lw_tbl := pk_t2 _ (List.mem_of_getElem? (i := 186) rfl)
set_option maxRecDepth 100000 in
theorem px12_286 : Cond.lays "TongueHouse$Ranking" "TongueHouse$Ranking" "order" "[I" ∈ lw_tbl := pk_t2 _ (List.mem_of_getElem? (i := 188) rfl)
set_option maxRecDepth 100000 in
theorem px12_287 : Cond.lays "TongueHouse$Ranking" "TongueHouse$Ranking" "spare" "[I" ∈ lw_tbl := pk_t2 _ (List.mem_of_getElem? (i := 190) rfl)
set_option maxRecDepth 100000 in
theorem px12_288 : Cond.laysFinal "TongueHouse$Ranking" "TongueHouse$Ranking" "listSize" "[I" ∈ lw_tbl := pk_t2 _ (List.mem_of_getElem? (i := 192) rfl)
set_option maxRecDepth 100000 in
theorem px12_289 : Cond.laysFinal "TongueHouse$Ranking" "TongueHouse$Ranking" "listPrice" "[I" ∈ lw_tbl := pk_t2 _ (List.mem_of_getElem? (i := 194) rfl)
set_option maxRecDepth 100000 in
theorem px12_290 : Cond.laysFinal "TongueHouse$Ranking" "TongueHouse$Ranking" "listWay" "[I" ∈ lw_tbl := pk_t2 _ (List.mem_of_getElem? (i := 196) rfl)
set_option maxRecDepth 100000 in
theorem px12_291 : Cond.laysFinal "TongueHouse$Ranking" "TongueHouse$Ranking" "listRanks" "[I" ∈ lw_tbl := pk_t2 _ (List.mem_of_getElem? (i := 198) rfl)
set_option maxRecDepth 100000 in
theorem px12_292 : Cond.lays "TongueHouse$Ranking" "TongueHouse$Ranking" "topSize" "I" ∈ lw_tbl := pk_t2 _ (List.mem_of_getElem? (i := 200) rfl)
set_option maxRecDepth 100000 in
theorem px12_293 : Cond.laysFinal "TongueHouse$Ranking" "TongueHouse$Ranking" "topPrice" "[I" ∈ lw_tbl := pk_t2 _ (List.mem_of_getElem? (i := 202) rfl)
set_option maxRecDepth 100000 in
theorem px12_294 : Cond.laysFinal "TongueHouse$Ranking" "TongueHouse$Ranking" "topEntry" "[I" ∈ lw_tbl := pk_t2 _ (List.mem_of_getElem? (i := 204) rfl)
set_option maxRecDepth 100000 in
theorem px12_295 : Cond.laysFinal "TongueHouse$Ranking" "TongueHouse$Ranking" "stack" "[I" ∈ lw_tbl := pk_t2 _ (List.mem_of_getElem? (i := 206) rfl)
set_option maxRecDepth 100000 in
theorem px12_296 : Cond.laysFinal "TongueHouse$Sayer" "TongueHouse$Sayer" "store" "LTongueHouse$Store;" ∈ lw_tbl := pk_t2 _ (List.mem_of_getElem? (i := 230) rfl)
set_option maxRecDepth 100000 in
theorem px12_297 : Cond.lays "TongueHouse$Sayer" "TongueHouse$Sayer" "tongue" "LTongueHouse$Tongue;" ∈ lw_tbl := pk_t2 _ (List.mem_of_getElem? (i := 232) rfl)
set_option maxRecDepth 100000 in
theorem px12_298 : Cond.laysFinal "TongueHouse$Sayer" "TongueHouse$Sayer" "child" "[I" ∈ lw_tbl := pk_t2 _ (List.mem_of_getElem? (i := 234) rfl)
set_option maxRecDepth 100000 in
theorem px12_299 : Cond.laysFinal "TongueHouse$Sayer" "TongueHouse$Sayer" "options" "[I" ∈ lw_tbl := pk_t2 _ (List.mem_of_getElem? (i := 236) rfl)
set_option maxRecDepth 100000 in
theorem px12_300 : Cond.laysFinal "TongueHouse$Sayer" "TongueHouse$Sayer" "cost" "[I" ∈ lw_tbl := pk_t2 _ (List.mem_of_getElem? (i := 238) rfl)
set_option maxRecDepth 100000 in
theorem px12_301 : Cond.laysFinal "TongueHouse$Sayer" "TongueHouse$Sayer" "values" "[I" ∈ lw_tbl := pk_t3 _ (List.mem_of_getElem? (i := 0) rfl)
set_option maxRecDepth 100000 in
theorem px12_302 : Cond.laysFinal "TongueHouse$Sayer" "TongueHouse$Sayer" "length" "[I" ∈ lw_tbl := pk_t3 _ (List.mem_of_getElem? (i := 2) rfl)
set_option maxRecDepth 100000 in
theorem px12_303 : Cond.laysFinal "TongueHouse$Sayer" "TongueHouse$Sayer" "rule" "[I" ∈ lw_tbl := pk_t3 _ (List.mem_of_getElem? (i := 4) rfl)
set_option maxRecDepth 100000 in
theorem px12_304 : Cond.laysFinal "TongueHouse$Sayer" "TongueHouse$Sayer" "picks" "[I" ∈ lw_tbl := pk_t3 _ (List.mem_of_getElem? (i := 6) rfl)
set_option maxRecDepth 100000 in
theorem px12_305 : Cond.lays "TongueHouse$Sayer" "TongueHouse$Sayer" "at" "I" ∈ lw_tbl := pk_t3 _ (List.mem_of_getElem? (i := 8) rfl)
set_option maxRecDepth 100000 in
theorem px12_306 : Cond.laysFinal "TongueHouse$Sayer" "TongueHouse$Sayer" "picked" "[I" ∈ lw_tbl := pk_t3 _ (List.mem_of_getElem? (i := 10) rfl)
set_option maxRecDepth 100000 in
theorem px12_307 : Cond.laysFinal "TongueHouse$Sayer" "TongueHouse$Sayer" "work" "[I" ∈ lw_tbl := pk_t3 _ (List.mem_of_getElem? (i := 12) rfl)
set_option maxRecDepth 100000 in
theorem px12_308 : Cond.laysFinal "TongueHouse$Sayer" "TongueHouse$Sayer" "openEntry" "[I" ∈ lw_tbl := pk_t3 _ (List.mem_of_getElem? (i := 14) rfl)
set_option maxRecDepth 100000 in
theorem px12_309 : Cond.laysFinal "TongueHouse$Sayer" "TongueHouse$Sayer" "openItem" "[I" ∈ lw_tbl := pk_t3 _ (List.mem_of_getElem? (i := 16) rfl)
set_option maxRecDepth 100000 in
theorem px12_310 : Cond.laysFinal "TongueHouse$Thought" "TongueHouse$Thought" "store" "LTongueHouse$Store;" ∈ lw_tbl := pk_t3 _ (List.mem_of_getElem? (i := 44) rfl)
set_option maxRecDepth 100000 in
theorem px12_311 : Cond.lays "TongueHouse$Thought" "TongueHouse$Thought" "size" "I" ∈ lw_tbl := pk_t3 _ (List.mem_of_getElem? (i := 46) rfl)
set_option maxRecDepth 100000 in
theorem px12_312 : Cond.lays "TongueHouse$Thought" "TongueHouse$Thought" "op" "[I" ∈ lw_tbl := pk_t3 _ (List.mem_of_getElem? (i := 48) rfl)
set_option maxRecDepth 100000 in
theorem px12_313 : Cond.lays "TongueHouse$Thought" "TongueHouse$Thought" "name" "[J" ∈ lw_tbl := pk_t3 _ (List.mem_of_getElem? (i := 50) rfl)
set_option maxRecDepth 100000 in
theorem px12_314 : Cond.lays "TongueHouse$Thought" "TongueHouse$Thought" "nextOp" "[I" ∈ lw_tbl := pk_t3 _ (List.mem_of_getElem? (i := 52) rfl)
set_option maxRecDepth 100000 in
theorem px12_315 : Cond.lays "TongueHouse$Thought" "TongueHouse$Thought" "nextName" "[J" ∈ lw_tbl := pk_t3 _ (List.mem_of_getElem? (i := 54) rfl)
set_option maxRecDepth 100000 in
theorem px12_316 : Cond.laysFinal "TongueHouse$Thought" "TongueHouse$Thought" "child" "[I" ∈ lw_tbl := pk_t3 _ (List.mem_of_getElem? (i := 56) rfl)
set_option maxRecDepth 100000 in
theorem px12_317 : Cond.laysFinal "TongueHouse$Thought" "TongueHouse$Thought" "stack" "[I" ∈ lw_tbl := pk_t3 _ (List.mem_of_getElem? (i := 58) rfl)
set_option maxRecDepth 100000 in
theorem px12_318 : Cond.laysFinal "TongueHouse$Thought" "TongueHouse$Thought" "inner" "[I" ∈ lw_tbl := pk_t3 _ (List.mem_of_getElem? (i := 60) rfl)
set_option maxRecDepth 100000 in
theorem px12_319 : Cond.lays "TongueHouse$Thought" "TongueHouse$Thought" "open" "I" ∈ lw_tbl := pk_t3 _ (List.mem_of_getElem? (i := 62) rfl)
set_option maxRecDepth 100000 in
theorem px12_320 : Cond.laysFinal "TongueHouse$Thought" "TongueHouse$Thought" "openName" "[J" ∈ lw_tbl := pk_t3 _ (List.mem_of_getElem? (i := 64) rfl)
set_option maxRecDepth 100000 in
theorem px12_321 : Cond.laysFinal "TongueHouse$Thought" "TongueHouse$Thought" "openPart" "[I" ∈ lw_tbl := pk_t3 _ (List.mem_of_getElem? (i := 66) rfl)
set_option maxRecDepth 100000 in
theorem px12_322 : Cond.laysFinal "TongueHouse$Thought" "TongueHouse$Thought" "openSeen" "[I" ∈ lw_tbl := pk_t3 _ (List.mem_of_getElem? (i := 68) rfl)
set_option maxRecDepth 100000 in
theorem px12_323 : Cond.laysFinal "TongueHouse$Thought" "TongueHouse$Thought" "openValue" "[I" ∈ lw_tbl := pk_t3 _ (List.mem_of_getElem? (i := 70) rfl)
set_option maxRecDepth 100000 in
theorem px12_324 : Cond.laysFinal "TongueHouse$Thought" "TongueHouse$Thought" "openLevel" "[I" ∈ lw_tbl := pk_t3 _ (List.mem_of_getElem? (i := 72) rfl)
set_option maxRecDepth 100000 in
theorem px12_325 : Cond.laysFinal "TongueHouse$Thought" "TongueHouse$Thought" "thing" "[I" ∈ lw_tbl := pk_t3 _ (List.mem_of_getElem? (i := 74) rfl)
set_option maxRecDepth 100000 in
theorem px12_326 : Cond.lays "TongueHouse$Thought" "TongueHouse$Thought" "at" "I" ∈ lw_tbl := pk_t3 _ (List.mem_of_getElem? (i := 76) rfl)
set_option maxRecDepth 100000 in
theorem px12_327 : Cond.lays "TongueHouse$Thought" "TongueHouse$Thought" "level" "I" ∈ lw_tbl := pk_t3 _ (List.mem_of_getElem? (i := 78) rfl)
set_option maxRecDepth 100000 in
theorem px12_328 : Cond.lays "TongueHouse$Thought" "TongueHouse$Thought" "astray" "Z" ∈ lw_tbl := pk_t3 _ (List.mem_of_getElem? (i := 80) rfl)
set_option maxRecDepth 100000 in
theorem px12_329 : Cond.laysFinal "TongueHouse$Finder" "TongueHouse$Finder" "store" "LTongueHouse$Store;" ∈ lw_tbl := pk_t3 _ (List.mem_of_getElem? (i := 113) rfl)
set_option maxRecDepth 100000 in
theorem px12_330 : Cond.lays "TongueHouse$Finder" "TongueHouse$Finder" "analysisTongue" "I" ∈ lw_tbl := pk_t3 _ (List.mem_of_getElem? (i := 115) rfl)
set_option maxRecDepth 100000 in
theorem px12_331 : Cond.lays "TongueHouse$Finder" "TongueHouse$Finder" "analyses" "I" ∈ lw_tbl := pk_t3 _ (List.mem_of_getElem? (i := 117) rfl)
set_option maxRecDepth 100000 in
theorem px12_332 : Cond.laysFinal "TongueHouse$Finder" "TongueHouse$Finder" "analysed" "[I" ∈ lw_tbl := pk_t3 _ (List.mem_of_getElem? (i := 119) rfl)
set_option maxRecDepth 100000 in
theorem px12_333 : Cond.lays "TongueHouse$Finder" "TongueHouse$Finder" "guesses" "I" ∈ lw_tbl := pk_t3 _ (List.mem_of_getElem? (i := 121) rfl)
set_option maxRecDepth 100000 in
theorem px12_334 : Cond.laysFinal "TongueHouse$Finder" "TongueHouse$Finder" "guessPattern" "[I" ∈ lw_tbl := pk_t3 _ (List.mem_of_getElem? (i := 123) rfl)
set_option maxRecDepth 100000 in
theorem px12_335 : Cond.laysFinal "TongueHouse$Finder" "TongueHouse$Finder" "guessForms" "[I" ∈ lw_tbl := pk_t3 _ (List.mem_of_getElem? (i := 125) rfl)
set_option maxRecDepth 100000 in
theorem px12_336 : Cond.lays "TongueHouse$Finder" "TongueHouse$Finder" "guessTotal" "I" ∈ lw_tbl := pk_t3 _ (List.mem_of_getElem? (i := 127) rfl)
set_option maxRecDepth 100000 in
theorem px12_337 : Cond.lays "TongueHouse$Finder" "TongueHouse$Finder" "guessEnding" "I" ∈ lw_tbl := pk_t3 _ (List.mem_of_getElem? (i := 129) rfl)
set_option maxRecDepth 100000 in
theorem px12_338 : Cond.lays "TongueHouse$Finder" "TongueHouse$Finder" "collected" "I" ∈ lw_tbl := pk_t3 _ (List.mem_of_getElem? (i := 131) rfl)
set_option maxRecDepth 100000 in
theorem px12_339 : Cond.laysFinal "TongueHouse$Finder" "TongueHouse$Finder" "sentence" "[[B" ∈ lw_tbl := pk_t3 _ (List.mem_of_getElem? (i := 133) rfl)
set_option maxRecDepth 100000 in
theorem px12_340 : Cond.laysFinal "TongueHouse$Finder" "TongueHouse$Finder" "sentenceTongue" "[I" ∈ lw_tbl := pk_t3 _ (List.mem_of_getElem? (i := 135) rfl)
set_option maxRecDepth 100000 in
theorem px12_341 : Cond.laysFinal "TongueHouse$Finder" "TongueHouse$Finder" "words" "LTongueHouse$Text;" ∈ lw_tbl := pk_t3 _ (List.mem_of_getElem? (i := 137) rfl)
set_option maxRecDepth 100000 in
theorem px12_342 : Cond.laysFinal "TongueHouse$Finder" "TongueHouse$Finder" "wordKinds" "[I" ∈ lw_tbl := pk_t3 _ (List.mem_of_getElem? (i := 139) rfl)
set_option maxRecDepth 100000 in
theorem px12_343 : Cond.lays "TongueHouse$Finder" "TongueHouse$Finder" "hits" "I" ∈ lw_tbl := pk_t3 _ (List.mem_of_getElem? (i := 141) rfl)
set_option maxRecDepth 100000 in
theorem px12_344 : Cond.laysFinal "TongueHouse$Finder" "TongueHouse$Finder" "hitSentence" "[I" ∈ lw_tbl := pk_t3 _ (List.mem_of_getElem? (i := 143) rfl)
set_option maxRecDepth 100000 in
theorem px12_345 : Cond.laysFinal "TongueHouse$Finder" "TongueHouse$Finder" "hitWord" "[I" ∈ lw_tbl := pk_t3 _ (List.mem_of_getElem? (i := 145) rfl)
set_option maxRecDepth 100000 in
theorem px12_346 : Cond.lays "TongueHouse$Finder" "TongueHouse$Finder" "asked" "I" ∈ lw_tbl := pk_t3 _ (List.mem_of_getElem? (i := 147) rfl)
set_option maxRecDepth 100000 in
theorem px12_347 : Cond.laysFinal "TongueHouse$Finder" "TongueHouse$Finder" "question" "[I" ∈ lw_tbl := pk_t3 _ (List.mem_of_getElem? (i := 149) rfl)
set_option maxRecDepth 100000 in
theorem px12_348 : Cond.laysFinal "TongueHouse$Names" "TongueHouse$Names" "name" "[J" ∈ lw_tbl := pk_t1 _ (List.mem_of_getElem? (i := 58) rfl)
set_option maxRecDepth 100000 in
theorem px12_349 : Cond.lays "TongueHouse$Names" "TongueHouse$Names" "size" "I" ∈ lw_tbl := pk_t1 _ (List.mem_of_getElem? (i := 60) rfl)
def pxb0 : List Cond := [Cond.code yX12_init cX12_init 1 none, Cond.methodLink RX12 3 objectInit, Cond.instanceMethod objectInit, Cond.code objectInit ⟨#[0xb1]⟩ 1 none, Cond.classLink RX12 9 RX8, Cond.instantiable RX8 21, Cond.initialized RX8, Cond.fieldLink RX12 12 "TongueHouse" "store" "LTongueHouse$Store;", Cond.classLink RX12 16 RX9, Cond.instantiable RX9 10, Cond.initialized RX9, Cond.fieldLink RX12 19 "TongueHouse" "tape" "LTongueHouse$Text;", Cond.fieldLink RX12 23 "TongueHouse" "out" "LTongueHouse$Text;", Cond.fieldLink RX12 26 "TongueHouse" "base" "LTongueHouse$Text;", Cond.fieldLink RX12 29 "TongueHouse" "draft" "LTongueHouse$Text;", Cond.classLink RX12 32 RX6, Cond.instantiable RX6 19, Cond.initialized RX6, Cond.fieldLink RX12 37 "TongueHouse" "reader" "LTongueHouse$Reader;", Cond.classLink RX12 41 RX0, Cond.instantiable RX0 22, Cond.initialized RX0, Cond.fieldLink RX12 46 "TongueHouse" "chart" "LTongueHouse$Chart;", Cond.classLink RX12 50 RX5, Cond.instantiable RX5 19, Cond.initialized RX5, Cond.fieldLink RX12 55 "TongueHouse" "ranking" "LTongueHouse$Ranking;", Cond.classLink RX12 59 RX7, Cond.instantiable RX7 14, Cond.initialized RX7]
set_option maxRecDepth 100000 in
theorem pxb0_in : ∀ w ∈ pxb0, w ∈ lw_tbl := List.forall_mem_cons.mpr ⟨px12_0, List.forall_mem_cons.mpr ⟨px12_1, List.forall_mem_cons.mpr ⟨px12_2, List.forall_mem_cons.mpr ⟨px12_3, List.forall_mem_cons.mpr ⟨px12_4, List.forall_mem_cons.mpr ⟨px12_5, List.forall_mem_cons.mpr ⟨px12_6, List.forall_mem_cons.mpr ⟨px12_7, List.forall_mem_cons.mpr ⟨px12_8, List.forall_mem_cons.mpr ⟨px12_9, List.forall_mem_cons.mpr ⟨px12_10, List.forall_mem_cons.mpr ⟨px12_11, List.forall_mem_cons.mpr ⟨px12_12, List.forall_mem_cons.mpr ⟨px12_13, List.forall_mem_cons.mpr ⟨px12_14, List.forall_mem_cons.mpr ⟨px12_15, List.forall_mem_cons.mpr ⟨px12_16, List.forall_mem_cons.mpr ⟨px12_17, List.forall_mem_cons.mpr ⟨px12_18, List.forall_mem_cons.mpr ⟨px12_19, List.forall_mem_cons.mpr ⟨px12_20, List.forall_mem_cons.mpr ⟨px12_21, List.forall_mem_cons.mpr ⟨px12_22, List.forall_mem_cons.mpr ⟨px12_23, List.forall_mem_cons.mpr ⟨px12_24, List.forall_mem_cons.mpr ⟨px12_25, List.forall_mem_cons.mpr ⟨px12_26, List.forall_mem_cons.mpr ⟨px12_27, List.forall_mem_cons.mpr ⟨px12_28, List.forall_mem_cons.mpr ⟨px12_29, fun _ h => absurd h List.not_mem_nil⟩⟩⟩⟩⟩⟩⟩⟩⟩⟩⟩⟩⟩⟩⟩⟩⟩⟩⟩⟩⟩⟩⟩⟩⟩⟩⟩⟩⟩⟩
def pxb1 : List Cond := [Cond.fieldLink RX12 62 "TongueHouse" "sayer" "LTongueHouse$Sayer;", Cond.classLink RX12 66 RX10, Cond.instantiable RX10 19, Cond.initialized RX10, Cond.fieldLink RX12 69 "TongueHouse" "thought" "LTongueHouse$Thought;", Cond.classLink RX12 73 RX1, Cond.instantiable RX1 19, Cond.initialized RX1, Cond.fieldLink RX12 76 "TongueHouse" "finder" "LTongueHouse$Finder;", Cond.classLink RX12 80 "[[I", Cond.arrayClass .int, Cond.fieldLink RX12 82 "TongueHouse" "planted" "[[I", Cond.fieldLink RX12 85 "TongueHouse" "plantedSize" "[I", Cond.classLink RX12 89 "[[B", Cond.arrayClass .byte, Cond.fieldLink RX12 91 "TongueHouse" "candidates" "[[B", Cond.fieldLink RX12 94 "TongueHouse" "candidateSize" "[I", Cond.fieldLink RX12 97 "TongueHouse" "changes" "[I", Cond.instanceMethod yX8_init, Cond.code yX8_init cX8_init 1 none, Cond.methodLink RX8 7 objectInit, Cond.classLink RX8 13 RX4, Cond.instantiable RX4 2, Cond.initialized RX4, Cond.fieldLink RX8 18 "TongueHouse$Store" "kinds" "LTongueHouse$Names;", Cond.fieldLink RX8 22 "TongueHouse$Store" "funs" "LTongueHouse$Names;", Cond.fieldLink RX8 25 "TongueHouse$Store" "things" "LTongueHouse$Names;", Cond.fieldLink RX8 28 "TongueHouse$Store" "tongueNames" "LTongueHouse$Names;", Cond.classLink RX8 3 RX11, Cond.fieldLink RX8 31 "TongueHouse$Store" "tongues" "[LTongueHouse$Tongue;"]
set_option maxRecDepth 100000 in
theorem pxb1_in : ∀ w ∈ pxb1, w ∈ lw_tbl := List.forall_mem_cons.mpr ⟨px12_30, List.forall_mem_cons.mpr ⟨px12_31, List.forall_mem_cons.mpr ⟨px12_32, List.forall_mem_cons.mpr ⟨px12_33, List.forall_mem_cons.mpr ⟨px12_34, List.forall_mem_cons.mpr ⟨px12_35, List.forall_mem_cons.mpr ⟨px12_36, List.forall_mem_cons.mpr ⟨px12_37, List.forall_mem_cons.mpr ⟨px12_38, List.forall_mem_cons.mpr ⟨px12_39, List.forall_mem_cons.mpr ⟨px12_40, List.forall_mem_cons.mpr ⟨px12_41, List.forall_mem_cons.mpr ⟨px12_42, List.forall_mem_cons.mpr ⟨px12_43, List.forall_mem_cons.mpr ⟨px12_44, List.forall_mem_cons.mpr ⟨px12_45, List.forall_mem_cons.mpr ⟨px12_46, List.forall_mem_cons.mpr ⟨px12_47, List.forall_mem_cons.mpr ⟨px12_48, List.forall_mem_cons.mpr ⟨px12_49, List.forall_mem_cons.mpr ⟨px12_50, List.forall_mem_cons.mpr ⟨px12_51, List.forall_mem_cons.mpr ⟨px12_52, List.forall_mem_cons.mpr ⟨px12_53, List.forall_mem_cons.mpr ⟨px12_54, List.forall_mem_cons.mpr ⟨px12_55, List.forall_mem_cons.mpr ⟨px12_56, List.forall_mem_cons.mpr ⟨px12_57, List.forall_mem_cons.mpr ⟨px12_58, List.forall_mem_cons.mpr ⟨px12_59, fun _ h => absurd h List.not_mem_nil⟩⟩⟩⟩⟩⟩⟩⟩⟩⟩⟩⟩⟩⟩⟩⟩⟩⟩⟩⟩⟩⟩⟩⟩⟩⟩⟩⟩⟩⟩
def pxb2 : List Cond := [Cond.fieldLink RX8 35 "TongueHouse$Store" "current" "I", Cond.fieldLink RX8 39 "TongueHouse$Store" "funKind" "[I", Cond.fieldLink RX8 43 "TongueHouse$Store" "funArity" "[I", Cond.fieldLink RX8 46 "TongueHouse$Store" "funArgs" "[I", Cond.fieldLink RX8 49 "TongueHouse$Store" "funCost" "[I", Cond.fieldLink RX8 52 "TongueHouse$Store" "meanSize" "[I", Cond.fieldLink RX8 55 "TongueHouse$Store" "meanOp" "[I", Cond.arrayClass .long, Cond.fieldLink RX8 58 "TongueHouse$Store" "meanName" "[J", Cond.fieldLink RX8 62 "TongueHouse$Store" "factName" "[J", Cond.fieldLink RX8 65 "TongueHouse$Store" "factThings" "[I", Cond.fieldLink RX8 68 "TongueHouse$Store" "pool" "[B", Cond.fieldLink RX8 72 "TongueHouse$Store" "marks" "[I", Cond.fieldLink RX8 75 "TongueHouse$Store" "stack" "[I", Cond.methodLink RX8 15 yX4_init, Cond.instanceMethod yX4_init, Cond.code yX4_init cX4_init 2 none, Cond.methodLink RX4 3 objectInit, Cond.fieldLink RX4 9 "TongueHouse$Names" "name" "[J", Cond.instanceMethod yX9_init, Cond.code yX9_init cX9_init 1 none, Cond.methodLink RX9 3 objectInit, Cond.fieldLink RX9 11 "TongueHouse$Text" "bytes" "[B", Cond.fieldLink RX9 15 "TongueHouse$Text" "start" "[I", Cond.fieldLink RX9 19 "TongueHouse$Text" "len" "[I", Cond.methodLink RX12 34 yX6_init, Cond.instanceMethod yX6_init, Cond.code yX6_init cX6_init 3 none, Cond.methodLink RX6 3 objectInit, Cond.fieldLink RX6 11 "TongueHouse$Reader" "cell" "[I"]
set_option maxRecDepth 100000 in
theorem pxb2_in : ∀ w ∈ pxb2, w ∈ lw_tbl := List.forall_mem_cons.mpr ⟨px12_60, List.forall_mem_cons.mpr ⟨px12_61, List.forall_mem_cons.mpr ⟨px12_62, List.forall_mem_cons.mpr ⟨px12_63, List.forall_mem_cons.mpr ⟨px12_64, List.forall_mem_cons.mpr ⟨px12_65, List.forall_mem_cons.mpr ⟨px12_66, List.forall_mem_cons.mpr ⟨px12_67, List.forall_mem_cons.mpr ⟨px12_68, List.forall_mem_cons.mpr ⟨px12_69, List.forall_mem_cons.mpr ⟨px12_70, List.forall_mem_cons.mpr ⟨px12_71, List.forall_mem_cons.mpr ⟨px12_72, List.forall_mem_cons.mpr ⟨px12_73, List.forall_mem_cons.mpr ⟨px12_74, List.forall_mem_cons.mpr ⟨px12_75, List.forall_mem_cons.mpr ⟨px12_76, List.forall_mem_cons.mpr ⟨px12_77, List.forall_mem_cons.mpr ⟨px12_78, List.forall_mem_cons.mpr ⟨px12_79, List.forall_mem_cons.mpr ⟨px12_80, List.forall_mem_cons.mpr ⟨px12_81, List.forall_mem_cons.mpr ⟨px12_82, List.forall_mem_cons.mpr ⟨px12_83, List.forall_mem_cons.mpr ⟨px12_84, List.forall_mem_cons.mpr ⟨px12_85, List.forall_mem_cons.mpr ⟨px12_86, List.forall_mem_cons.mpr ⟨px12_87, List.forall_mem_cons.mpr ⟨px12_88, List.forall_mem_cons.mpr ⟨px12_89, fun _ h => absurd h List.not_mem_nil⟩⟩⟩⟩⟩⟩⟩⟩⟩⟩⟩⟩⟩⟩⟩⟩⟩⟩⟩⟩⟩⟩⟩⟩⟩⟩⟩⟩⟩⟩
def pxb3 : List Cond := [Cond.fieldLink RX6 17 "TongueHouse$Reader" "row" "[I", Cond.fieldLink RX6 20 "TongueHouse$Reader" "names" "[J", Cond.fieldLink RX6 24 "TongueHouse$Reader" "termOp" "[I", Cond.fieldLink RX6 27 "TongueHouse$Reader" "termName" "[J", Cond.fieldLink RX6 30 "TongueHouse$Reader" "binder" "[J", Cond.fieldLink RX6 33 "TongueHouse$Reader" "opened" "[I", Cond.fieldLink RX6 36 "TongueHouse$Reader" "seen" "[I", Cond.fieldLink RX6 39 "TongueHouse$Reader" "store" "LTongueHouse$Store;", Cond.fieldLink RX6 43 "TongueHouse$Reader" "tape" "LTongueHouse$Text;", Cond.methodLink RX12 43 yX0_init, Cond.instanceMethod yX0_init, Cond.code yX0_init cX0_init 2 none, Cond.methodLink RX0 3 objectInit, Cond.fieldLink RX0 9 "TongueHouse$Chart" "firstNode" "[I", Cond.fieldLink RX0 15 "TongueHouse$Chart" "nodeCount" "[I", Cond.fieldLink RX0 18 "TongueHouse$Chart" "nodeEnd" "[I", Cond.fieldLink RX0 21 "TongueHouse$Chart" "nodeValues" "[I", Cond.fieldLink RX0 24 "TongueHouse$Chart" "wayNode" "[I", Cond.fieldLink RX0 27 "TongueHouse$Chart" "wayRule" "[I", Cond.constant RX0 30 ( 36000 ), Cond.fieldLink RX0 31 "TongueHouse$Chart" "wayArgs" "[I", Cond.fieldLink RX0 34 "TongueHouse$Chart" "kindLins" "[I", Cond.fieldLink RX0 37 "TongueHouse$Chart" "linOrder" "[I", Cond.fieldLink RX0 40 "TongueHouse$Chart" "chosen" "[I", Cond.fieldLink RX0 43 "TongueHouse$Chart" "chosenValues" "[I", Cond.fieldLink RX0 46 "TongueHouse$Chart" "work" "[I", Cond.fieldLink RX0 49 "TongueHouse$Chart" "store" "LTongueHouse$Store;", Cond.methodLink RX12 52 yX5_init, Cond.instanceMethod yX5_init, Cond.code yX5_init cX5_init 3 none]
set_option maxRecDepth 100000 in
theorem pxb3_in : ∀ w ∈ pxb3, w ∈ lw_tbl := List.forall_mem_cons.mpr ⟨px12_90, List.forall_mem_cons.mpr ⟨px12_91, List.forall_mem_cons.mpr ⟨px12_92, List.forall_mem_cons.mpr ⟨px12_93, List.forall_mem_cons.mpr ⟨px12_94, List.forall_mem_cons.mpr ⟨px12_95, List.forall_mem_cons.mpr ⟨px12_96, List.forall_mem_cons.mpr ⟨px12_97, List.forall_mem_cons.mpr ⟨px12_98, List.forall_mem_cons.mpr ⟨px12_99, List.forall_mem_cons.mpr ⟨px12_100, List.forall_mem_cons.mpr ⟨px12_101, List.forall_mem_cons.mpr ⟨px12_102, List.forall_mem_cons.mpr ⟨px12_103, List.forall_mem_cons.mpr ⟨px12_104, List.forall_mem_cons.mpr ⟨px12_105, List.forall_mem_cons.mpr ⟨px12_106, List.forall_mem_cons.mpr ⟨px12_107, List.forall_mem_cons.mpr ⟨px12_108, List.forall_mem_cons.mpr ⟨px12_109, List.forall_mem_cons.mpr ⟨px12_110, List.forall_mem_cons.mpr ⟨px12_111, List.forall_mem_cons.mpr ⟨px12_112, List.forall_mem_cons.mpr ⟨px12_113, List.forall_mem_cons.mpr ⟨px12_114, List.forall_mem_cons.mpr ⟨px12_115, List.forall_mem_cons.mpr ⟨px12_116, List.forall_mem_cons.mpr ⟨px12_117, List.forall_mem_cons.mpr ⟨px12_118, List.forall_mem_cons.mpr ⟨px12_119, fun _ h => absurd h List.not_mem_nil⟩⟩⟩⟩⟩⟩⟩⟩⟩⟩⟩⟩⟩⟩⟩⟩⟩⟩⟩⟩⟩⟩⟩⟩⟩⟩⟩⟩⟩⟩
def pxb4 : List Cond := [Cond.methodLink RX5 3 objectInit, Cond.arrayClass .boolean, Cond.fieldLink RX5 9 "TongueHouse$Ranking" "barred" "[Z", Cond.fieldLink RX5 17 "TongueHouse$Ranking" "treeCount" "[J", Cond.fieldLink RX5 21 "TongueHouse$Ranking" "reached" "[Z", Cond.fieldLink RX5 24 "TongueHouse$Ranking" "order" "[I", Cond.fieldLink RX5 28 "TongueHouse$Ranking" "spare" "[I", Cond.fieldLink RX5 31 "TongueHouse$Ranking" "listSize" "[I", Cond.constant RX5 34 ( 48000 ), Cond.fieldLink RX5 35 "TongueHouse$Ranking" "listPrice" "[I", Cond.fieldLink RX5 38 "TongueHouse$Ranking" "listWay" "[I", Cond.fieldLink RX5 41 "TongueHouse$Ranking" "listRanks" "[I", Cond.fieldLink RX5 44 "TongueHouse$Ranking" "topPrice" "[I", Cond.fieldLink RX5 47 "TongueHouse$Ranking" "topEntry" "[I", Cond.fieldLink RX5 50 "TongueHouse$Ranking" "stack" "[I", Cond.fieldLink RX5 53 "TongueHouse$Ranking" "store" "LTongueHouse$Store;", Cond.fieldLink RX5 57 "TongueHouse$Ranking" "chart" "LTongueHouse$Chart;", Cond.methodLink RX12 61 yX7_init, Cond.instanceMethod yX7_init, Cond.code yX7_init cX7_init 2 none, Cond.methodLink RX7 3 objectInit, Cond.fieldLink RX7 9 "TongueHouse$Sayer" "child" "[I", Cond.fieldLink RX7 15 "TongueHouse$Sayer" "options" "[I", Cond.fieldLink RX7 18 "TongueHouse$Sayer" "cost" "[I", Cond.fieldLink RX7 21 "TongueHouse$Sayer" "values" "[I", Cond.fieldLink RX7 24 "TongueHouse$Sayer" "length" "[I", Cond.fieldLink RX7 27 "TongueHouse$Sayer" "rule" "[I", Cond.fieldLink RX7 30 "TongueHouse$Sayer" "picks" "[I", Cond.fieldLink RX7 33 "TongueHouse$Sayer" "picked" "[I", Cond.fieldLink RX7 36 "TongueHouse$Sayer" "work" "[I"]
set_option maxRecDepth 100000 in
theorem pxb4_in : ∀ w ∈ pxb4, w ∈ lw_tbl := List.forall_mem_cons.mpr ⟨px12_120, List.forall_mem_cons.mpr ⟨px12_121, List.forall_mem_cons.mpr ⟨px12_122, List.forall_mem_cons.mpr ⟨px12_123, List.forall_mem_cons.mpr ⟨px12_124, List.forall_mem_cons.mpr ⟨px12_125, List.forall_mem_cons.mpr ⟨px12_126, List.forall_mem_cons.mpr ⟨px12_127, List.forall_mem_cons.mpr ⟨px12_128, List.forall_mem_cons.mpr ⟨px12_129, List.forall_mem_cons.mpr ⟨px12_130, List.forall_mem_cons.mpr ⟨px12_131, List.forall_mem_cons.mpr ⟨px12_132, List.forall_mem_cons.mpr ⟨px12_133, List.forall_mem_cons.mpr ⟨px12_134, List.forall_mem_cons.mpr ⟨px12_135, List.forall_mem_cons.mpr ⟨px12_136, List.forall_mem_cons.mpr ⟨px12_137, List.forall_mem_cons.mpr ⟨px12_138, List.forall_mem_cons.mpr ⟨px12_139, List.forall_mem_cons.mpr ⟨px12_140, List.forall_mem_cons.mpr ⟨px12_141, List.forall_mem_cons.mpr ⟨px12_142, List.forall_mem_cons.mpr ⟨px12_143, List.forall_mem_cons.mpr ⟨px12_144, List.forall_mem_cons.mpr ⟨px12_145, List.forall_mem_cons.mpr ⟨px12_146, List.forall_mem_cons.mpr ⟨px12_147, List.forall_mem_cons.mpr ⟨px12_148, List.forall_mem_cons.mpr ⟨px12_149, fun _ h => absurd h List.not_mem_nil⟩⟩⟩⟩⟩⟩⟩⟩⟩⟩⟩⟩⟩⟩⟩⟩⟩⟩⟩⟩⟩⟩⟩⟩⟩⟩⟩⟩⟩⟩
def pxb5 : List Cond := [Cond.fieldLink RX7 39 "TongueHouse$Sayer" "openEntry" "[I", Cond.fieldLink RX7 42 "TongueHouse$Sayer" "openItem" "[I", Cond.fieldLink RX7 45 "TongueHouse$Sayer" "store" "LTongueHouse$Store;", Cond.methodLink RX12 68 yX10_init, Cond.instanceMethod yX10_init, Cond.code yX10_init cX10_init 2 none, Cond.methodLink RX10 3 objectInit, Cond.fieldLink RX10 11 "TongueHouse$Thought" "op" "[I", Cond.fieldLink RX10 15 "TongueHouse$Thought" "name" "[J", Cond.fieldLink RX10 19 "TongueHouse$Thought" "nextOp" "[I", Cond.fieldLink RX10 22 "TongueHouse$Thought" "nextName" "[J", Cond.fieldLink RX10 25 "TongueHouse$Thought" "child" "[I", Cond.fieldLink RX10 28 "TongueHouse$Thought" "stack" "[I", Cond.fieldLink RX10 31 "TongueHouse$Thought" "inner" "[I", Cond.fieldLink RX10 34 "TongueHouse$Thought" "openName" "[J", Cond.fieldLink RX10 37 "TongueHouse$Thought" "openPart" "[I", Cond.fieldLink RX10 40 "TongueHouse$Thought" "openSeen" "[I", Cond.fieldLink RX10 43 "TongueHouse$Thought" "openValue" "[I", Cond.fieldLink RX10 46 "TongueHouse$Thought" "openLevel" "[I", Cond.fieldLink RX10 49 "TongueHouse$Thought" "thing" "[I", Cond.fieldLink RX10 52 "TongueHouse$Thought" "store" "LTongueHouse$Store;", Cond.methodLink RX12 75 yX1_init, Cond.instanceMethod yX1_init, Cond.code yX1_init cX1_init 2 none, Cond.methodLink RX1 3 objectInit, Cond.fieldLink RX1 9 "TongueHouse$Finder" "analysed" "[I", Cond.fieldLink RX1 15 "TongueHouse$Finder" "guessPattern" "[I", Cond.fieldLink RX1 18 "TongueHouse$Finder" "guessForms" "[I", Cond.classLink RX1 21 "[B", Cond.fieldLink RX1 23 "TongueHouse$Finder" "sentence" "[[B"]
set_option maxRecDepth 100000 in
theorem pxb5_in : ∀ w ∈ pxb5, w ∈ lw_tbl := List.forall_mem_cons.mpr ⟨px12_150, List.forall_mem_cons.mpr ⟨px12_151, List.forall_mem_cons.mpr ⟨px12_152, List.forall_mem_cons.mpr ⟨px12_153, List.forall_mem_cons.mpr ⟨px12_154, List.forall_mem_cons.mpr ⟨px12_155, List.forall_mem_cons.mpr ⟨px12_156, List.forall_mem_cons.mpr ⟨px12_157, List.forall_mem_cons.mpr ⟨px12_158, List.forall_mem_cons.mpr ⟨px12_159, List.forall_mem_cons.mpr ⟨px12_160, List.forall_mem_cons.mpr ⟨px12_161, List.forall_mem_cons.mpr ⟨px12_162, List.forall_mem_cons.mpr ⟨px12_163, List.forall_mem_cons.mpr ⟨px12_164, List.forall_mem_cons.mpr ⟨px12_165, List.forall_mem_cons.mpr ⟨px12_166, List.forall_mem_cons.mpr ⟨px12_167, List.forall_mem_cons.mpr ⟨px12_168, List.forall_mem_cons.mpr ⟨px12_169, List.forall_mem_cons.mpr ⟨px12_170, List.forall_mem_cons.mpr ⟨px12_171, List.forall_mem_cons.mpr ⟨px12_172, List.forall_mem_cons.mpr ⟨px12_173, List.forall_mem_cons.mpr ⟨px12_174, List.forall_mem_cons.mpr ⟨px12_175, List.forall_mem_cons.mpr ⟨px12_176, List.forall_mem_cons.mpr ⟨px12_177, List.forall_mem_cons.mpr ⟨px12_178, List.forall_mem_cons.mpr ⟨px12_179, fun _ h => absurd h List.not_mem_nil⟩⟩⟩⟩⟩⟩⟩⟩⟩⟩⟩⟩⟩⟩⟩⟩⟩⟩⟩⟩⟩⟩⟩⟩⟩⟩⟩⟩⟩⟩
def pxb6 : List Cond := [Cond.fieldLink RX1 27 "TongueHouse$Finder" "sentenceTongue" "[I", Cond.classLink RX1 30 RX9, Cond.fieldLink RX1 33 "TongueHouse$Finder" "words" "LTongueHouse$Text;", Cond.fieldLink RX1 37 "TongueHouse$Finder" "wordKinds" "[I", Cond.fieldLink RX1 40 "TongueHouse$Finder" "hitSentence" "[I", Cond.fieldLink RX1 43 "TongueHouse$Finder" "hitWord" "[I", Cond.fieldLink RX1 46 "TongueHouse$Finder" "question" "[I", Cond.fieldLink RX1 49 "TongueHouse$Finder" "store" "LTongueHouse$Store;", Cond.laysFinal "TongueHouse$Store" "TongueHouse$Store" "kinds" "LTongueHouse$Names;", Cond.laysFinal "TongueHouse$Store" "TongueHouse$Store" "funs" "LTongueHouse$Names;", Cond.laysFinal "TongueHouse$Store" "TongueHouse$Store" "things" "LTongueHouse$Names;", Cond.laysFinal "TongueHouse$Store" "TongueHouse$Store" "tongueNames" "LTongueHouse$Names;", Cond.laysFinal "TongueHouse$Store" "TongueHouse$Store" "tongues" "[LTongueHouse$Tongue;", Cond.lays "TongueHouse$Store" "TongueHouse$Store" "current" "I", Cond.laysFinal "TongueHouse$Store" "TongueHouse$Store" "funKind" "[I", Cond.laysFinal "TongueHouse$Store" "TongueHouse$Store" "funArity" "[I", Cond.laysFinal "TongueHouse$Store" "TongueHouse$Store" "funArgs" "[I", Cond.laysFinal "TongueHouse$Store" "TongueHouse$Store" "funCost" "[I", Cond.laysFinal "TongueHouse$Store" "TongueHouse$Store" "meanSize" "[I", Cond.laysFinal "TongueHouse$Store" "TongueHouse$Store" "meanOp" "[I", Cond.laysFinal "TongueHouse$Store" "TongueHouse$Store" "meanName" "[J", Cond.lays "TongueHouse$Store" "TongueHouse$Store" "factCount" "I", Cond.laysFinal "TongueHouse$Store" "TongueHouse$Store" "factName" "[J", Cond.laysFinal "TongueHouse$Store" "TongueHouse$Store" "factThings" "[I", Cond.laysFinal "TongueHouse$Store" "TongueHouse$Store" "pool" "[B", Cond.lays "TongueHouse$Store" "TongueHouse$Store" "poolSize" "I", Cond.lays "TongueHouse$Store" "TongueHouse$Store" "isFull" "Z", Cond.laysFinal "TongueHouse$Store" "TongueHouse$Store" "marks" "[I", Cond.laysFinal "TongueHouse$Store" "TongueHouse$Store" "stack" "[I", Cond.laysFinal "TongueHouse" "TongueHouse" "store" "LTongueHouse$Store;"]
set_option maxRecDepth 100000 in
theorem pxb6_in : ∀ w ∈ pxb6, w ∈ lw_tbl := List.forall_mem_cons.mpr ⟨px12_180, List.forall_mem_cons.mpr ⟨px12_181, List.forall_mem_cons.mpr ⟨px12_182, List.forall_mem_cons.mpr ⟨px12_183, List.forall_mem_cons.mpr ⟨px12_184, List.forall_mem_cons.mpr ⟨px12_185, List.forall_mem_cons.mpr ⟨px12_186, List.forall_mem_cons.mpr ⟨px12_187, List.forall_mem_cons.mpr ⟨px12_188, List.forall_mem_cons.mpr ⟨px12_189, List.forall_mem_cons.mpr ⟨px12_190, List.forall_mem_cons.mpr ⟨px12_191, List.forall_mem_cons.mpr ⟨px12_192, List.forall_mem_cons.mpr ⟨px12_193, List.forall_mem_cons.mpr ⟨px12_194, List.forall_mem_cons.mpr ⟨px12_195, List.forall_mem_cons.mpr ⟨px12_196, List.forall_mem_cons.mpr ⟨px12_197, List.forall_mem_cons.mpr ⟨px12_198, List.forall_mem_cons.mpr ⟨px12_199, List.forall_mem_cons.mpr ⟨px12_200, List.forall_mem_cons.mpr ⟨px12_201, List.forall_mem_cons.mpr ⟨px12_202, List.forall_mem_cons.mpr ⟨px12_203, List.forall_mem_cons.mpr ⟨px12_204, List.forall_mem_cons.mpr ⟨px12_205, List.forall_mem_cons.mpr ⟨px12_206, List.forall_mem_cons.mpr ⟨px12_207, List.forall_mem_cons.mpr ⟨px12_208, List.forall_mem_cons.mpr ⟨px12_209, fun _ h => absurd h List.not_mem_nil⟩⟩⟩⟩⟩⟩⟩⟩⟩⟩⟩⟩⟩⟩⟩⟩⟩⟩⟩⟩⟩⟩⟩⟩⟩⟩⟩⟩⟩⟩
def pxb7 : List Cond := [Cond.laysFinal "TongueHouse" "TongueHouse" "tape" "LTongueHouse$Text;", Cond.laysFinal "TongueHouse" "TongueHouse" "out" "LTongueHouse$Text;", Cond.laysFinal "TongueHouse" "TongueHouse" "base" "LTongueHouse$Text;", Cond.laysFinal "TongueHouse" "TongueHouse" "draft" "LTongueHouse$Text;", Cond.laysFinal "TongueHouse" "TongueHouse" "reader" "LTongueHouse$Reader;", Cond.laysFinal "TongueHouse" "TongueHouse" "chart" "LTongueHouse$Chart;", Cond.laysFinal "TongueHouse" "TongueHouse" "ranking" "LTongueHouse$Ranking;", Cond.laysFinal "TongueHouse" "TongueHouse" "sayer" "LTongueHouse$Sayer;", Cond.laysFinal "TongueHouse" "TongueHouse" "thought" "LTongueHouse$Thought;", Cond.laysFinal "TongueHouse" "TongueHouse" "finder" "LTongueHouse$Finder;", Cond.laysFinal "TongueHouse" "TongueHouse" "planted" "[[I", Cond.laysFinal "TongueHouse" "TongueHouse" "plantedSize" "[I", Cond.laysFinal "TongueHouse" "TongueHouse" "candidates" "[[B", Cond.laysFinal "TongueHouse" "TongueHouse" "candidateSize" "[I", Cond.lays "TongueHouse" "TongueHouse" "candidateCount" "I", Cond.laysFinal "TongueHouse" "TongueHouse" "changes" "[I", Cond.laysFinal "TongueHouse$Text" "TongueHouse$Text" "bytes" "[B", Cond.lays "TongueHouse$Text" "TongueHouse$Text" "size" "I", Cond.laysFinal "TongueHouse$Text" "TongueHouse$Text" "start" "[I", Cond.laysFinal "TongueHouse$Text" "TongueHouse$Text" "len" "[I", Cond.lays "TongueHouse$Text" "TongueHouse$Text" "words" "I", Cond.lays "TongueHouse$Text" "TongueHouse$Text" "at" "I", Cond.lays "TongueHouse$Text" "TongueHouse$Text" "next" "I", Cond.lays "TongueHouse$Text" "TongueHouse$Text" "type" "I", Cond.lays "TongueHouse$Text" "TongueHouse$Text" "value" "I", Cond.lays "TongueHouse$Text" "TongueHouse$Text" "name" "J", Cond.laysFinal "TongueHouse$Reader" "TongueHouse$Reader" "store" "LTongueHouse$Store;", Cond.laysFinal "TongueHouse$Reader" "TongueHouse$Reader" "tape" "LTongueHouse$Text;", Cond.lays "TongueHouse$Reader" "TongueHouse$Reader" "tongue" "LTongueHouse$Tongue;", Cond.lays "TongueHouse$Reader" "TongueHouse$Reader" "rule" "I"]
set_option maxRecDepth 100000 in
theorem pxb7_in : ∀ w ∈ pxb7, w ∈ lw_tbl := List.forall_mem_cons.mpr ⟨px12_210, List.forall_mem_cons.mpr ⟨px12_211, List.forall_mem_cons.mpr ⟨px12_212, List.forall_mem_cons.mpr ⟨px12_213, List.forall_mem_cons.mpr ⟨px12_214, List.forall_mem_cons.mpr ⟨px12_215, List.forall_mem_cons.mpr ⟨px12_216, List.forall_mem_cons.mpr ⟨px12_217, List.forall_mem_cons.mpr ⟨px12_218, List.forall_mem_cons.mpr ⟨px12_219, List.forall_mem_cons.mpr ⟨px12_220, List.forall_mem_cons.mpr ⟨px12_221, List.forall_mem_cons.mpr ⟨px12_222, List.forall_mem_cons.mpr ⟨px12_223, List.forall_mem_cons.mpr ⟨px12_224, List.forall_mem_cons.mpr ⟨px12_225, List.forall_mem_cons.mpr ⟨px12_226, List.forall_mem_cons.mpr ⟨px12_227, List.forall_mem_cons.mpr ⟨px12_228, List.forall_mem_cons.mpr ⟨px12_229, List.forall_mem_cons.mpr ⟨px12_230, List.forall_mem_cons.mpr ⟨px12_231, List.forall_mem_cons.mpr ⟨px12_232, List.forall_mem_cons.mpr ⟨px12_233, List.forall_mem_cons.mpr ⟨px12_234, List.forall_mem_cons.mpr ⟨px12_235, List.forall_mem_cons.mpr ⟨px12_236, List.forall_mem_cons.mpr ⟨px12_237, List.forall_mem_cons.mpr ⟨px12_238, List.forall_mem_cons.mpr ⟨px12_239, fun _ h => absurd h List.not_mem_nil⟩⟩⟩⟩⟩⟩⟩⟩⟩⟩⟩⟩⟩⟩⟩⟩⟩⟩⟩⟩⟩⟩⟩⟩⟩⟩⟩⟩⟩⟩
def pxb8 : List Cond := [Cond.lays "TongueHouse$Reader" "TongueHouse$Reader" "where" "I", Cond.lays "TongueHouse$Reader" "TongueHouse$Reader" "first" "I", Cond.lays "TongueHouse$Reader" "TongueHouse$Reader" "values" "I", Cond.lays "TongueHouse$Reader" "TongueHouse$Reader" "cost" "I", Cond.lays "TongueHouse$Reader" "TongueHouse$Reader" "cells" "I", Cond.laysFinal "TongueHouse$Reader" "TongueHouse$Reader" "cell" "[I", Cond.laysFinal "TongueHouse$Reader" "TongueHouse$Reader" "row" "[I", Cond.laysFinal "TongueHouse$Reader" "TongueHouse$Reader" "names" "[J", Cond.lays "TongueHouse$Reader" "TongueHouse$Reader" "termSize" "I", Cond.laysFinal "TongueHouse$Reader" "TongueHouse$Reader" "termOp" "[I", Cond.laysFinal "TongueHouse$Reader" "TongueHouse$Reader" "termName" "[J", Cond.lays "TongueHouse$Reader" "TongueHouse$Reader" "binders" "I", Cond.laysFinal "TongueHouse$Reader" "TongueHouse$Reader" "binder" "[J", Cond.laysFinal "TongueHouse$Reader" "TongueHouse$Reader" "opened" "[I", Cond.laysFinal "TongueHouse$Reader" "TongueHouse$Reader" "seen" "[I", Cond.laysFinal "TongueHouse$Chart" "TongueHouse$Chart" "store" "LTongueHouse$Store;", Cond.laysFinal "TongueHouse$Chart" "TongueHouse$Chart" "firstNode" "[I", Cond.laysFinal "TongueHouse$Chart" "TongueHouse$Chart" "nodeCount" "[I", Cond.lays "TongueHouse$Chart" "TongueHouse$Chart" "nodes" "I", Cond.laysFinal "TongueHouse$Chart" "TongueHouse$Chart" "nodeEnd" "[I", Cond.laysFinal "TongueHouse$Chart" "TongueHouse$Chart" "nodeValues" "[I", Cond.lays "TongueHouse$Chart" "TongueHouse$Chart" "ways" "I", Cond.laysFinal "TongueHouse$Chart" "TongueHouse$Chart" "wayNode" "[I", Cond.laysFinal "TongueHouse$Chart" "TongueHouse$Chart" "wayRule" "[I", Cond.laysFinal "TongueHouse$Chart" "TongueHouse$Chart" "wayArgs" "[I", Cond.lays "TongueHouse$Chart" "TongueHouse$Chart" "root" "I", Cond.lays "TongueHouse$Chart" "TongueHouse$Chart" "tries" "I", Cond.lays "TongueHouse$Chart" "TongueHouse$Chart" "over" "Z", Cond.lays "TongueHouse$Chart" "TongueHouse$Chart" "tongue" "LTongueHouse$Tongue;", Cond.lays "TongueHouse$Chart" "TongueHouse$Chart" "text" "LTongueHouse$Text;"]
set_option maxRecDepth 100000 in
theorem pxb8_in : ∀ w ∈ pxb8, w ∈ lw_tbl := List.forall_mem_cons.mpr ⟨px12_240, List.forall_mem_cons.mpr ⟨px12_241, List.forall_mem_cons.mpr ⟨px12_242, List.forall_mem_cons.mpr ⟨px12_243, List.forall_mem_cons.mpr ⟨px12_244, List.forall_mem_cons.mpr ⟨px12_245, List.forall_mem_cons.mpr ⟨px12_246, List.forall_mem_cons.mpr ⟨px12_247, List.forall_mem_cons.mpr ⟨px12_248, List.forall_mem_cons.mpr ⟨px12_249, List.forall_mem_cons.mpr ⟨px12_250, List.forall_mem_cons.mpr ⟨px12_251, List.forall_mem_cons.mpr ⟨px12_252, List.forall_mem_cons.mpr ⟨px12_253, List.forall_mem_cons.mpr ⟨px12_254, List.forall_mem_cons.mpr ⟨px12_255, List.forall_mem_cons.mpr ⟨px12_256, List.forall_mem_cons.mpr ⟨px12_257, List.forall_mem_cons.mpr ⟨px12_258, List.forall_mem_cons.mpr ⟨px12_259, List.forall_mem_cons.mpr ⟨px12_260, List.forall_mem_cons.mpr ⟨px12_261, List.forall_mem_cons.mpr ⟨px12_262, List.forall_mem_cons.mpr ⟨px12_263, List.forall_mem_cons.mpr ⟨px12_264, List.forall_mem_cons.mpr ⟨px12_265, List.forall_mem_cons.mpr ⟨px12_266, List.forall_mem_cons.mpr ⟨px12_267, List.forall_mem_cons.mpr ⟨px12_268, List.forall_mem_cons.mpr ⟨px12_269, fun _ h => absurd h List.not_mem_nil⟩⟩⟩⟩⟩⟩⟩⟩⟩⟩⟩⟩⟩⟩⟩⟩⟩⟩⟩⟩⟩⟩⟩⟩⟩⟩⟩⟩⟩⟩
def pxb9 : List Cond := [Cond.laysFinal "TongueHouse$Chart" "TongueHouse$Chart" "kindLins" "[I", Cond.laysFinal "TongueHouse$Chart" "TongueHouse$Chart" "linOrder" "[I", Cond.lays "TongueHouse$Chart" "TongueHouse$Chart" "spanFirst" "I", Cond.lays "TongueHouse$Chart" "TongueHouse$Chart" "spanEnd" "I", Cond.laysFinal "TongueHouse$Chart" "TongueHouse$Chart" "chosen" "[I", Cond.laysFinal "TongueHouse$Chart" "TongueHouse$Chart" "chosenValues" "[I", Cond.laysFinal "TongueHouse$Chart" "TongueHouse$Chart" "work" "[I", Cond.laysFinal "TongueHouse$Ranking" "TongueHouse$Ranking" "store" "LTongueHouse$Store;", Cond.laysFinal "TongueHouse$Ranking" "TongueHouse$Ranking" "chart" "LTongueHouse$Chart;", Cond.lays "TongueHouse$Ranking" "TongueHouse$Ranking" "tongue" "LTongueHouse$Tongue;", Cond.lays "TongueHouse$Ranking" "TongueHouse$Ranking" "isOpen" "Z", Cond.lays "TongueHouse$Ranking" "TongueHouse$Ranking" "ranked" "Z", Cond.laysFinal "TongueHouse$Ranking" "TongueHouse$Ranking" "barred" "[Z", Cond.laysFinal "TongueHouse$Ranking" "TongueHouse$Ranking" "treeCount" "[J", Cond.laysFinal "TongueHouse$Ranking" "TongueHouse$Ranking" "reached" "[Z", Cond.lays "TongueHouse$Ranking" "TongueHouse$Ranking" "orderSize" "I", Cond.lays "TongueHouse$Ranking" "TongueHouse$Ranking" "order" "[I", Cond.lays "TongueHouse$Ranking" "TongueHouse$Ranking" "spare" "[I", Cond.laysFinal "TongueHouse$Ranking" "TongueHouse$Ranking" "listSize" "[I", Cond.laysFinal "TongueHouse$Ranking" "TongueHouse$Ranking" "listPrice" "[I", Cond.laysFinal "TongueHouse$Ranking" "TongueHouse$Ranking" "listWay" "[I", Cond.laysFinal "TongueHouse$Ranking" "TongueHouse$Ranking" "listRanks" "[I", Cond.lays "TongueHouse$Ranking" "TongueHouse$Ranking" "topSize" "I", Cond.laysFinal "TongueHouse$Ranking" "TongueHouse$Ranking" "topPrice" "[I", Cond.laysFinal "TongueHouse$Ranking" "TongueHouse$Ranking" "topEntry" "[I", Cond.laysFinal "TongueHouse$Ranking" "TongueHouse$Ranking" "stack" "[I", Cond.laysFinal "TongueHouse$Sayer" "TongueHouse$Sayer" "store" "LTongueHouse$Store;", Cond.lays "TongueHouse$Sayer" "TongueHouse$Sayer" "tongue" "LTongueHouse$Tongue;", Cond.laysFinal "TongueHouse$Sayer" "TongueHouse$Sayer" "child" "[I", Cond.laysFinal "TongueHouse$Sayer" "TongueHouse$Sayer" "options" "[I"]
set_option maxRecDepth 100000 in
theorem pxb9_in : ∀ w ∈ pxb9, w ∈ lw_tbl := List.forall_mem_cons.mpr ⟨px12_270, List.forall_mem_cons.mpr ⟨px12_271, List.forall_mem_cons.mpr ⟨px12_272, List.forall_mem_cons.mpr ⟨px12_273, List.forall_mem_cons.mpr ⟨px12_274, List.forall_mem_cons.mpr ⟨px12_275, List.forall_mem_cons.mpr ⟨px12_276, List.forall_mem_cons.mpr ⟨px12_277, List.forall_mem_cons.mpr ⟨px12_278, List.forall_mem_cons.mpr ⟨px12_279, List.forall_mem_cons.mpr ⟨px12_280, List.forall_mem_cons.mpr ⟨px12_281, List.forall_mem_cons.mpr ⟨px12_282, List.forall_mem_cons.mpr ⟨px12_283, List.forall_mem_cons.mpr ⟨px12_284, List.forall_mem_cons.mpr ⟨px12_285, List.forall_mem_cons.mpr ⟨px12_286, List.forall_mem_cons.mpr ⟨px12_287, List.forall_mem_cons.mpr ⟨px12_288, List.forall_mem_cons.mpr ⟨px12_289, List.forall_mem_cons.mpr ⟨px12_290, List.forall_mem_cons.mpr ⟨px12_291, List.forall_mem_cons.mpr ⟨px12_292, List.forall_mem_cons.mpr ⟨px12_293, List.forall_mem_cons.mpr ⟨px12_294, List.forall_mem_cons.mpr ⟨px12_295, List.forall_mem_cons.mpr ⟨px12_296, List.forall_mem_cons.mpr ⟨px12_297, List.forall_mem_cons.mpr ⟨px12_298, List.forall_mem_cons.mpr ⟨px12_299, fun _ h => absurd h List.not_mem_nil⟩⟩⟩⟩⟩⟩⟩⟩⟩⟩⟩⟩⟩⟩⟩⟩⟩⟩⟩⟩⟩⟩⟩⟩⟩⟩⟩⟩⟩⟩
def pxb10 : List Cond := [Cond.laysFinal "TongueHouse$Sayer" "TongueHouse$Sayer" "cost" "[I", Cond.laysFinal "TongueHouse$Sayer" "TongueHouse$Sayer" "values" "[I", Cond.laysFinal "TongueHouse$Sayer" "TongueHouse$Sayer" "length" "[I", Cond.laysFinal "TongueHouse$Sayer" "TongueHouse$Sayer" "rule" "[I", Cond.laysFinal "TongueHouse$Sayer" "TongueHouse$Sayer" "picks" "[I", Cond.lays "TongueHouse$Sayer" "TongueHouse$Sayer" "at" "I", Cond.laysFinal "TongueHouse$Sayer" "TongueHouse$Sayer" "picked" "[I", Cond.laysFinal "TongueHouse$Sayer" "TongueHouse$Sayer" "work" "[I", Cond.laysFinal "TongueHouse$Sayer" "TongueHouse$Sayer" "openEntry" "[I", Cond.laysFinal "TongueHouse$Sayer" "TongueHouse$Sayer" "openItem" "[I", Cond.laysFinal "TongueHouse$Thought" "TongueHouse$Thought" "store" "LTongueHouse$Store;", Cond.lays "TongueHouse$Thought" "TongueHouse$Thought" "size" "I", Cond.lays "TongueHouse$Thought" "TongueHouse$Thought" "op" "[I", Cond.lays "TongueHouse$Thought" "TongueHouse$Thought" "name" "[J", Cond.lays "TongueHouse$Thought" "TongueHouse$Thought" "nextOp" "[I", Cond.lays "TongueHouse$Thought" "TongueHouse$Thought" "nextName" "[J", Cond.laysFinal "TongueHouse$Thought" "TongueHouse$Thought" "child" "[I", Cond.laysFinal "TongueHouse$Thought" "TongueHouse$Thought" "stack" "[I", Cond.laysFinal "TongueHouse$Thought" "TongueHouse$Thought" "inner" "[I", Cond.lays "TongueHouse$Thought" "TongueHouse$Thought" "open" "I", Cond.laysFinal "TongueHouse$Thought" "TongueHouse$Thought" "openName" "[J", Cond.laysFinal "TongueHouse$Thought" "TongueHouse$Thought" "openPart" "[I", Cond.laysFinal "TongueHouse$Thought" "TongueHouse$Thought" "openSeen" "[I", Cond.laysFinal "TongueHouse$Thought" "TongueHouse$Thought" "openValue" "[I", Cond.laysFinal "TongueHouse$Thought" "TongueHouse$Thought" "openLevel" "[I", Cond.laysFinal "TongueHouse$Thought" "TongueHouse$Thought" "thing" "[I", Cond.lays "TongueHouse$Thought" "TongueHouse$Thought" "at" "I", Cond.lays "TongueHouse$Thought" "TongueHouse$Thought" "level" "I", Cond.lays "TongueHouse$Thought" "TongueHouse$Thought" "astray" "Z", Cond.laysFinal "TongueHouse$Finder" "TongueHouse$Finder" "store" "LTongueHouse$Store;"]
set_option maxRecDepth 100000 in
theorem pxb10_in : ∀ w ∈ pxb10, w ∈ lw_tbl := List.forall_mem_cons.mpr ⟨px12_300, List.forall_mem_cons.mpr ⟨px12_301, List.forall_mem_cons.mpr ⟨px12_302, List.forall_mem_cons.mpr ⟨px12_303, List.forall_mem_cons.mpr ⟨px12_304, List.forall_mem_cons.mpr ⟨px12_305, List.forall_mem_cons.mpr ⟨px12_306, List.forall_mem_cons.mpr ⟨px12_307, List.forall_mem_cons.mpr ⟨px12_308, List.forall_mem_cons.mpr ⟨px12_309, List.forall_mem_cons.mpr ⟨px12_310, List.forall_mem_cons.mpr ⟨px12_311, List.forall_mem_cons.mpr ⟨px12_312, List.forall_mem_cons.mpr ⟨px12_313, List.forall_mem_cons.mpr ⟨px12_314, List.forall_mem_cons.mpr ⟨px12_315, List.forall_mem_cons.mpr ⟨px12_316, List.forall_mem_cons.mpr ⟨px12_317, List.forall_mem_cons.mpr ⟨px12_318, List.forall_mem_cons.mpr ⟨px12_319, List.forall_mem_cons.mpr ⟨px12_320, List.forall_mem_cons.mpr ⟨px12_321, List.forall_mem_cons.mpr ⟨px12_322, List.forall_mem_cons.mpr ⟨px12_323, List.forall_mem_cons.mpr ⟨px12_324, List.forall_mem_cons.mpr ⟨px12_325, List.forall_mem_cons.mpr ⟨px12_326, List.forall_mem_cons.mpr ⟨px12_327, List.forall_mem_cons.mpr ⟨px12_328, List.forall_mem_cons.mpr ⟨px12_329, fun _ h => absurd h List.not_mem_nil⟩⟩⟩⟩⟩⟩⟩⟩⟩⟩⟩⟩⟩⟩⟩⟩⟩⟩⟩⟩⟩⟩⟩⟩⟩⟩⟩⟩⟩⟩
def pxb11 : List Cond := [Cond.lays "TongueHouse$Finder" "TongueHouse$Finder" "analysisTongue" "I", Cond.lays "TongueHouse$Finder" "TongueHouse$Finder" "analyses" "I", Cond.laysFinal "TongueHouse$Finder" "TongueHouse$Finder" "analysed" "[I", Cond.lays "TongueHouse$Finder" "TongueHouse$Finder" "guesses" "I", Cond.laysFinal "TongueHouse$Finder" "TongueHouse$Finder" "guessPattern" "[I", Cond.laysFinal "TongueHouse$Finder" "TongueHouse$Finder" "guessForms" "[I", Cond.lays "TongueHouse$Finder" "TongueHouse$Finder" "guessTotal" "I", Cond.lays "TongueHouse$Finder" "TongueHouse$Finder" "guessEnding" "I", Cond.lays "TongueHouse$Finder" "TongueHouse$Finder" "collected" "I", Cond.laysFinal "TongueHouse$Finder" "TongueHouse$Finder" "sentence" "[[B", Cond.laysFinal "TongueHouse$Finder" "TongueHouse$Finder" "sentenceTongue" "[I", Cond.laysFinal "TongueHouse$Finder" "TongueHouse$Finder" "words" "LTongueHouse$Text;", Cond.laysFinal "TongueHouse$Finder" "TongueHouse$Finder" "wordKinds" "[I", Cond.lays "TongueHouse$Finder" "TongueHouse$Finder" "hits" "I", Cond.laysFinal "TongueHouse$Finder" "TongueHouse$Finder" "hitSentence" "[I", Cond.laysFinal "TongueHouse$Finder" "TongueHouse$Finder" "hitWord" "[I", Cond.lays "TongueHouse$Finder" "TongueHouse$Finder" "asked" "I", Cond.laysFinal "TongueHouse$Finder" "TongueHouse$Finder" "question" "[I", Cond.laysFinal "TongueHouse$Names" "TongueHouse$Names" "name" "[J", Cond.lays "TongueHouse$Names" "TongueHouse$Names" "size" "I"]
set_option maxRecDepth 100000 in
theorem pxb11_in : ∀ w ∈ pxb11, w ∈ lw_tbl := List.forall_mem_cons.mpr ⟨px12_330, List.forall_mem_cons.mpr ⟨px12_331, List.forall_mem_cons.mpr ⟨px12_332, List.forall_mem_cons.mpr ⟨px12_333, List.forall_mem_cons.mpr ⟨px12_334, List.forall_mem_cons.mpr ⟨px12_335, List.forall_mem_cons.mpr ⟨px12_336, List.forall_mem_cons.mpr ⟨px12_337, List.forall_mem_cons.mpr ⟨px12_338, List.forall_mem_cons.mpr ⟨px12_339, List.forall_mem_cons.mpr ⟨px12_340, List.forall_mem_cons.mpr ⟨px12_341, List.forall_mem_cons.mpr ⟨px12_342, List.forall_mem_cons.mpr ⟨px12_343, List.forall_mem_cons.mpr ⟨px12_344, List.forall_mem_cons.mpr ⟨px12_345, List.forall_mem_cons.mpr ⟨px12_346, List.forall_mem_cons.mpr ⟨px12_347, List.forall_mem_cons.mpr ⟨px12_348, List.forall_mem_cons.mpr ⟨px12_349, fun _ h => absurd h List.not_mem_nil⟩⟩⟩⟩⟩⟩⟩⟩⟩⟩⟩⟩⟩⟩⟩⟩⟩⟩⟩⟩
set_option maxRecDepth 100000 in
theorem pxb_split : wsX12_init = pxb0 ++ (pxb1 ++ (pxb2 ++ (pxb3 ++ (pxb4 ++ (pxb5 ++ (pxb6 ++ (pxb7 ++ (pxb8 ++ (pxb9 ++ (pxb10 ++ (pxb11))))))))))) := rfl
theorem pxb_all : ∀ w ∈ wsX12_init, w ∈ lw_tbl := by
  rw [pxb_split]
  exact List.forall_mem_append.mpr ⟨pxb0_in, List.forall_mem_append.mpr ⟨pxb1_in, List.forall_mem_append.mpr ⟨pxb2_in, List.forall_mem_append.mpr ⟨pxb3_in, List.forall_mem_append.mpr ⟨pxb4_in, List.forall_mem_append.mpr ⟨pxb5_in, List.forall_mem_append.mpr ⟨pxb6_in, List.forall_mem_append.mpr ⟨pxb7_in, List.forall_mem_append.mpr ⟨pxb8_in, List.forall_mem_append.mpr ⟨pxb9_in, List.forall_mem_append.mpr ⟨pxb10_in, pxb11_in⟩⟩⟩⟩⟩⟩⟩⟩⟩⟩⟩
theorem pl_X12 : GoodIn lw_tbl wsX12_init := goodIn_sub pxb_all (by decide +kernel)
