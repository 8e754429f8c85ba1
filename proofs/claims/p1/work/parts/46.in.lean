/-! THE WORDS among the tables. -/
theorem pk_t1 : ∀ w ∈ tables_1_1, w ∈ lw_tbl := fun w h => List.mem_append_right _ (List.mem_append_left _ h)
theorem pk_t2 : ∀ w ∈ tables_1_2, w ∈ lw_tbl := fun w h => List.mem_append_right _ (List.mem_append_right _ (List.mem_append_left _ h))
theorem pk_t3 : ∀ w ∈ tables_1_3, w ∈ lw_tbl := fun w h => List.mem_append_right _ (List.mem_append_right _ (List.mem_append_right _ (List.mem_append_left _ h)))
theorem pk_t4 : ∀ w ∈ tables_1_4, w ∈ lw_tbl := fun w h => List.mem_append_right _ (List.mem_append_right _ (List.mem_append_right _ (List.mem_append_right _ (List.mem_append_left _ h))))
theorem pk_t5 : ∀ w ∈ tables_1_5, w ∈ lw_tbl := fun w h => List.mem_append_right _ (List.mem_append_right _ (List.mem_append_right _ (List.mem_append_right _ (List.mem_append_right _ (List.mem_append_left _ h)))))
theorem pk_t6 : ∀ w ∈ tables_1_6, w ∈ lw_tbl := fun w h => List.mem_append_right _ (List.mem_append_right _ (List.mem_append_right _ (List.mem_append_right _ (List.mem_append_right _ (List.mem_append_right _ (List.mem_append_left _ h))))))
theorem pk_t7 : ∀ w ∈ tables_1_7, w ∈ lw_tbl := fun w h => List.mem_append_right _ (List.mem_append_right _ (List.mem_append_right _ (List.mem_append_right _ (List.mem_append_right _ (List.mem_append_right _ (List.mem_append_right _ (List.mem_append_left _ h)))))))
theorem pk_t8 : ∀ w ∈ tables_1_8, w ∈ lw_tbl := fun w h => List.mem_append_right _ (List.mem_append_right _ (List.mem_append_right _ (List.mem_append_right _ (List.mem_append_right _ (List.mem_append_right _ (List.mem_append_right _ (List.mem_append_right _ (List.mem_append_left _ h))))))))
theorem pk_t9 : ∀ w ∈ tables_1_9, w ∈ lw_tbl := fun w h => List.mem_append_right _ (List.mem_append_right _ (List.mem_append_right _ (List.mem_append_right _ (List.mem_append_right _ (List.mem_append_right _ (List.mem_append_right _ (List.mem_append_right _ (List.mem_append_right _ (List.mem_append_left _ h)))))))))
theorem pk_t10 : ∀ w ∈ tables_1_10, w ∈ lw_tbl := fun w h => List.mem_append_right _ (List.mem_append_right _ (List.mem_append_right _ (List.mem_append_right _ (List.mem_append_right _ (List.mem_append_right _ (List.mem_append_right _ (List.mem_append_right _ (List.mem_append_right _ (List.mem_append_right _ (List.mem_append_left _ h))))))))))
theorem pk_t11 : ∀ w ∈ tables_1_11, w ∈ lw_tbl := fun w h => List.mem_append_right _ (List.mem_append_right _ (List.mem_append_right _ (List.mem_append_right _ (List.mem_append_right _ (List.mem_append_right _ (List.mem_append_right _ (List.mem_append_right _ (List.mem_append_right _ (List.mem_append_right _ (List.mem_append_right _ (List.mem_append_left _ h)))))))))))
theorem pk_t12 : ∀ w ∈ tables_1_12, w ∈ lw_tbl := fun w h => List.mem_append_right _ (List.mem_append_right _ (List.mem_append_right _ (List.mem_append_right _ (List.mem_append_right _ (List.mem_append_right _ (List.mem_append_right _ (List.mem_append_right _ (List.mem_append_right _ (List.mem_append_right _ (List.mem_append_right _ (List.mem_append_right _ (List.mem_append_left _ h))))))))))))
theorem pk_t13 : ∀ w ∈ tables_1_13, w ∈ lw_tbl := fun w h => List.mem_append_right _ (List.mem_append_right _ (List.mem_append_right _ (List.mem_append_right _ (List.mem_append_right _ (List.mem_append_right _ (List.mem_append_right _ (List.mem_append_right _ (List.mem_append_right _ (List.mem_append_right _ (List.mem_append_right _ (List.mem_append_right _ (List.mem_append_right _ (List.mem_append_left _ h)))))))))))))
theorem pk_t14 : ∀ w ∈ tables_1_14, w ∈ lw_tbl := fun w h => List.mem_append_right _ (List.mem_append_right _ (List.mem_append_right _ (List.mem_append_right _ (List.mem_append_right _ (List.mem_append_right _ (List.mem_append_right _ (List.mem_append_right _ (List.mem_append_right _ (List.mem_append_right _ (List.mem_append_right _ (List.mem_append_right _ (List.mem_append_right _ (List.mem_append_right _ (List.mem_append_left _ h))))))))))))))
theorem pk_t15 : ∀ w ∈ tables_1_15, w ∈ lw_tbl := fun w h => List.mem_append_right _ (List.mem_append_right _ (List.mem_append_right _ (List.mem_append_right _ (List.mem_append_right _ (List.mem_append_right _ (List.mem_append_right _ (List.mem_append_right _ (List.mem_append_right _ (List.mem_append_right _ (List.mem_append_right _ (List.mem_append_right _ (List.mem_append_right _ (List.mem_append_right _ (List.mem_append_right _ (h)))))))))))))))
set_option maxRecDepth 100000 in
theorem pl0 : Cond.fieldLink RX12 19 "TongueHouse" "tape" "LTongueHouse$Text;" ∈ lw_tbl := pk_t3 _ (List.mem_of_getElem? (i := 156) rfl)
set_option maxRecDepth 100000 in
theorem pl1 : Cond.fieldLink RX12 100 "TongueHouse$Text" "size" "I" ∈ lw_tbl := pk_t1 _ (List.mem_of_getElem? (i := 183) rfl)
set_option maxRecDepth 100000 in
theorem pl2 : Cond.fieldLink RX9 22 "TongueHouse$Text" "size" "I" ∈ lw_tbl := pk_t1 _ (List.mem_of_getElem? (i := 182) rfl)
set_option maxRecDepth 100000 in
theorem pl3 : Cond.fieldLink RX9 11 "TongueHouse$Text" "bytes" "[B" ∈ lw_tbl := pk_t1 _ (List.mem_of_getElem? (i := 176) rfl)
set_option maxRecDepth 100000 in
theorem pl4 : Cond.methodLink RX9 26 yX9_put ∈ lw_tbl := pk_t6 _ (List.mem_of_getElem? (i := 96) rfl)
set_option maxRecDepth 100000 in
theorem pl5 : Cond.code yX9_put cX9_put 2 none ∈ lw_tbl := pk_t6 _ (List.mem_of_getElem? (i := 99) rfl)
set_option maxRecDepth 100000 in
theorem pl6 : Cond.instanceMethod yX9_put ∈ lw_tbl := pk_t6 _ (List.mem_of_getElem? (i := 97) rfl)
set_option maxRecDepth 100000 in
theorem pl7 : Cond.selects RX9 yX9_put yX9_put ∈ lw_tbl := pk_t6 _ (List.mem_of_getElem? (i := 98) rfl)
set_option maxRecDepth 100000 in
theorem pl8 : Cond.initialized RX9 ∈ lw_tbl := pk_t1 _ (List.mem_of_getElem? (i := 4) rfl)
set_option maxRecDepth 100000 in
theorem pl9 : Cond.methodLink RX12 111 yX9_putFour ∈ lw_tbl := pk_t6 _ (List.mem_of_getElem? (i := 174) rfl)
set_option maxRecDepth 100000 in
theorem pl10 : Cond.code yX9_putFour cX9_putFour 2 none ∈ lw_tbl := pk_t6 _ (List.mem_of_getElem? (i := 177) rfl)
set_option maxRecDepth 100000 in
theorem pl11 : Cond.instanceMethod yX9_putFour ∈ lw_tbl := pk_t6 _ (List.mem_of_getElem? (i := 175) rfl)
set_option maxRecDepth 100000 in
theorem pl12 : Cond.selects RX9 yX9_putFour yX9_putFour ∈ lw_tbl := pk_t6 _ (List.mem_of_getElem? (i := 176) rfl)
set_option maxRecDepth 100000 in
theorem pl13 : Cond.fieldLink RX13 3 "TongueHouseModel" "thrown" "I" ∈ lw_tbl := pk_t9 _ (List.mem_of_getElem? (i := 171) rfl)
set_option maxRecDepth 100000 in
theorem pl14 : Cond.fieldLink RX13 576 "TongueHouseModel" "taped" "I" ∈ lw_tbl := pk_t9 _ (List.mem_of_getElem? (i := 239) rfl)
set_option maxRecDepth 100000 in
theorem pl15 : Cond.fieldLink RX13 188 "TongueHouseModel" "tape" "[B" ∈ lw_tbl := pk_t9 _ (List.mem_of_getElem? (i := 236) rfl)
set_option maxRecDepth 100000 in
theorem pl16 : Cond.methodLink RX13 583 yX13_four ∈ lw_tbl := pk_t12 _ (List.mem_of_getElem? (i := 145) rfl)
set_option maxRecDepth 100000 in
theorem pl17 : Cond.code yX13_four cX13_four 3 none ∈ lw_tbl := pk_t12 _ (List.mem_of_getElem? (i := 148) rfl)
set_option maxRecDepth 100000 in
theorem pl18 : Cond.instanceMethod yX13_four ∈ lw_tbl := pk_t12 _ (List.mem_of_getElem? (i := 147) rfl)
set_option maxRecDepth 100000 in
theorem pl19 : Cond.selects RX13 yX13_four yX13_four ∈ lw_tbl := List.mem_append_left _ (List.mem_of_getElem? (i := 100) (by decide +kernel))
set_option maxRecDepth 100000 in
theorem pl20 : Cond.initialized RX13 ∈ lw_tbl := pk_t1 _ (List.mem_of_getElem? (i := 11) rfl)
set_option maxRecDepth 100000 in
theorem pl21 : Cond.classLink RX12 115 "java/lang/IllegalArgumentException" ∈ lw_tbl := pk_t6 _ (List.mem_of_getElem? (i := 186) rfl)
set_option maxRecDepth 100000 in
theorem pl22 : Cond.initialized "java/lang/IllegalArgumentException" ∈ lw_tbl := pk_t1 _ (List.mem_of_getElem? (i := 20) rfl)
set_option maxRecDepth 100000 in
theorem pl23 : Cond.methodLink RX13 579 yX13_bad ∈ lw_tbl := pk_t12 _ (List.mem_of_getElem? (i := 141) rfl)
set_option maxRecDepth 100000 in
theorem pl24 : Cond.code yX13_bad cX13_bad 1 (some .int) ∈ lw_tbl := pk_t12 _ (List.mem_of_getElem? (i := 144) rfl)
set_option maxRecDepth 100000 in
theorem pl25 : Cond.instanceMethod yX13_bad ∈ lw_tbl := pk_t12 _ (List.mem_of_getElem? (i := 143) rfl)
set_option maxRecDepth 100000 in
theorem pl26 : Cond.selects RX13 yX13_bad yX13_bad ∈ lw_tbl := List.mem_append_left _ (List.mem_of_getElem? (i := 99) (by decide +kernel))
set_option maxRecDepth 100000 in
theorem pl27 : Cond.fieldLink RX12 37 "TongueHouse" "reader" "LTongueHouse$Reader;" ∈ lw_tbl := pk_t3 _ (List.mem_of_getElem? (i := 160) rfl)
set_option maxRecDepth 100000 in
theorem pl28 : Cond.fieldLink RX6 47 "TongueHouse$Reader" "rule" "I" ∈ lw_tbl := pk_t2 _ (List.mem_of_getElem? (i := 1) rfl)
set_option maxRecDepth 100000 in
theorem pl29 : Cond.fieldLink RX6 39 "TongueHouse$Reader" "store" "LTongueHouse$Store;" ∈ lw_tbl := pk_t1 _ (List.mem_of_getElem? (i := 238) rfl)
set_option maxRecDepth 100000 in
theorem pl30 : Cond.fieldLink RX8 78 "TongueHouse$Store" "isFull" "Z" ∈ lw_tbl := pk_t1 _ (List.mem_of_getElem? (i := 121) rfl)
set_option maxRecDepth 100000 in
theorem pl31 : Cond.fieldLink RX8 72 "TongueHouse$Store" "marks" "[I" ∈ lw_tbl := pk_t1 _ (List.mem_of_getElem? (i := 123) rfl)
set_option maxRecDepth 100000 in
theorem pl32 : Cond.fieldLink RX8 18 "TongueHouse$Store" "kinds" "LTongueHouse$Names;" ∈ lw_tbl := pk_t1 _ (List.mem_of_getElem? (i := 66) rfl)
set_option maxRecDepth 100000 in
theorem pl33 : Cond.fieldLink RX8 82 "TongueHouse$Names" "size" "I" ∈ lw_tbl := pk_t1 _ (List.mem_of_getElem? (i := 52) rfl)
set_option maxRecDepth 100000 in
theorem pl34 : Cond.fieldLink RX8 22 "TongueHouse$Store" "funs" "LTongueHouse$Names;" ∈ lw_tbl := pk_t1 _ (List.mem_of_getElem? (i := 71) rfl)
set_option maxRecDepth 100000 in
theorem pl35 : Cond.fieldLink RX8 25 "TongueHouse$Store" "things" "LTongueHouse$Names;" ∈ lw_tbl := pk_t1 _ (List.mem_of_getElem? (i := 74) rfl)
set_option maxRecDepth 100000 in
theorem pl36 : Cond.fieldLink RX8 28 "TongueHouse$Store" "tongueNames" "LTongueHouse$Names;" ∈ lw_tbl := pk_t1 _ (List.mem_of_getElem? (i := 77) rfl)
set_option maxRecDepth 100000 in
theorem pl37 : Cond.fieldLink RX8 85 "TongueHouse$Store" "factCount" "I" ∈ lw_tbl := pk_t1 _ (List.mem_of_getElem? (i := 110) rfl)
set_option maxRecDepth 100000 in
theorem pl38 : Cond.fieldLink RX8 88 "TongueHouse$Store" "poolSize" "I" ∈ lw_tbl := pk_t1 _ (List.mem_of_getElem? (i := 119) rfl)
set_option maxRecDepth 100000 in
theorem pl39 : Cond.fieldLink RX8 35 "TongueHouse$Store" "current" "I" ∈ lw_tbl := pk_t1 _ (List.mem_of_getElem? (i := 84) rfl)
set_option maxRecDepth 100000 in
theorem pl40 : Cond.fieldLink RX8 52 "TongueHouse$Store" "meanSize" "[I" ∈ lw_tbl := pk_t1 _ (List.mem_of_getElem? (i := 101) rfl)
set_option maxRecDepth 100000 in
theorem pl41 : Cond.methodLink RX8 95 arraycopyName ∈ lw_tbl := pk_t3 _ (List.mem_of_getElem? (i := 223) rfl)
set_option maxRecDepth 100000 in
theorem pl42 : Cond.native arraycopyName ∈ lw_tbl := pk_t3 _ (List.mem_of_getElem? (i := 225) rfl)
set_option maxRecDepth 100000 in
theorem pl43 : Cond.static arraycopyName ∈ lw_tbl := pk_t3 _ (List.mem_of_getElem? (i := 224) rfl)
set_option maxRecDepth 100000 in
theorem pl44 : Cond.initialized "java/lang/System" ∈ lw_tbl := pk_t1 _ (List.mem_of_getElem? (i := 21) rfl)
set_option maxRecDepth 100000 in
theorem pl45 : Cond.methodLink RX6 51 yX8_mark ∈ lw_tbl := pk_t3 _ (List.mem_of_getElem? (i := 215) rfl)
set_option maxRecDepth 100000 in
theorem pl46 : Cond.code yX8_mark cX8_mark 2 none ∈ lw_tbl := pk_t3 _ (List.mem_of_getElem? (i := 218) rfl)
set_option maxRecDepth 100000 in
theorem pl47 : Cond.instanceMethod yX8_mark ∈ lw_tbl := pk_t3 _ (List.mem_of_getElem? (i := 216) rfl)
set_option maxRecDepth 100000 in
theorem pl48 : Cond.selects RX8 yX8_mark yX8_mark ∈ lw_tbl := pk_t3 _ (List.mem_of_getElem? (i := 217) rfl)
set_option maxRecDepth 100000 in
theorem pl49 : Cond.initialized RX8 ∈ lw_tbl := pk_t1 _ (List.mem_of_getElem? (i := 2) rfl)
set_option maxRecDepth 100000 in
theorem pl50 : Cond.fieldLink RX6 43 "TongueHouse$Reader" "tape" "LTongueHouse$Text;" ∈ lw_tbl := pk_t1 _ (List.mem_of_getElem? (i := 239) rfl)
set_option maxRecDepth 100000 in
theorem pl51 : Cond.fieldLink RX9 49 "TongueHouse$Text" "next" "I" ∈ lw_tbl := pk_t1 _ (List.mem_of_getElem? (i := 201) rfl)
set_option maxRecDepth 100000 in
theorem pl52 : Cond.fieldLink RX9 55 "TongueHouse$Text" "at" "I" ∈ lw_tbl := pk_t1 _ (List.mem_of_getElem? (i := 200) rfl)
set_option maxRecDepth 100000 in
theorem pl53 : Cond.fieldLink RX9 58 "TongueHouse$Text" "type" "I" ∈ lw_tbl := pk_t1 _ (List.mem_of_getElem? (i := 205) rfl)
set_option maxRecDepth 100000 in
theorem pl54 : Cond.methodLink RX9 52 yX9_advance ∈ lw_tbl := pk_t3 _ (List.mem_of_getElem? (i := 230) rfl)
set_option maxRecDepth 100000 in
theorem pl55 : Cond.code yX9_advance cX9_advance 3 none ∈ lw_tbl := pk_t3 _ (List.mem_of_getElem? (i := 233) rfl)
set_option maxRecDepth 100000 in
theorem pl56 : Cond.instanceMethod yX9_advance ∈ lw_tbl := pk_t3 _ (List.mem_of_getElem? (i := 231) rfl)
set_option maxRecDepth 100000 in
theorem pl57 : Cond.selects RX9 yX9_advance yX9_advance ∈ lw_tbl := pk_t3 _ (List.mem_of_getElem? (i := 232) rfl)
set_option maxRecDepth 100000 in
theorem pl58 : Cond.methodLink RX6 56 yX9_rewind ∈ lw_tbl := pk_t3 _ (List.mem_of_getElem? (i := 226) rfl)
set_option maxRecDepth 100000 in
theorem pl59 : Cond.code yX9_rewind cX9_rewind 1 none ∈ lw_tbl := pk_t3 _ (List.mem_of_getElem? (i := 229) rfl)
set_option maxRecDepth 100000 in
theorem pl60 : Cond.instanceMethod yX9_rewind ∈ lw_tbl := pk_t3 _ (List.mem_of_getElem? (i := 227) rfl)
set_option maxRecDepth 100000 in
theorem pl61 : Cond.selects RX9 yX9_rewind yX9_rewind ∈ lw_tbl := pk_t3 _ (List.mem_of_getElem? (i := 228) rfl)
set_option maxRecDepth 100000 in
theorem pl62 : Cond.methodLink RX12 120 yX6_begin ∈ lw_tbl := pk_t3 _ (List.mem_of_getElem? (i := 211) rfl)
set_option maxRecDepth 100000 in
theorem pl63 : Cond.code yX6_begin cX6_begin 1 none ∈ lw_tbl := pk_t3 _ (List.mem_of_getElem? (i := 214) rfl)
set_option maxRecDepth 100000 in
theorem pl64 : Cond.instanceMethod yX6_begin ∈ lw_tbl := pk_t3 _ (List.mem_of_getElem? (i := 212) rfl)
set_option maxRecDepth 100000 in
theorem pl65 : Cond.selects RX6 yX6_begin yX6_begin ∈ lw_tbl := pk_t3 _ (List.mem_of_getElem? (i := 213) rfl)
set_option maxRecDepth 100000 in
theorem pl66 : Cond.initialized RX6 ∈ lw_tbl := pk_t1 _ (List.mem_of_getElem? (i := 5) rfl)
set_option maxRecDepth 100000 in
theorem pl67 : Cond.fieldLink RX12 123 "TongueHouse$Text" "type" "I" ∈ lw_tbl := pk_t1 _ (List.mem_of_getElem? (i := 203) rfl)
set_option maxRecDepth 100000 in
theorem pl68 : Cond.fieldLink RX13 586 "TongueHouseModel" "textN" "I" ∈ lw_tbl := pk_t10 _ (List.mem_of_getElem? (i := 0) rfl)
set_option maxRecDepth 100000 in
theorem pl69 : Cond.methodLink RX13 682 yX13_reads ∈ lw_tbl := pk_t12 _ (List.mem_of_getElem? (i := 161) rfl)
set_option maxRecDepth 100000 in
theorem pl70 : Cond.code yX13_reads cX13_reads 2 none ∈ lw_tbl := pk_t12 _ (List.mem_of_getElem? (i := 164) rfl)
set_option maxRecDepth 100000 in
theorem pl71 : Cond.instanceMethod yX13_reads ∈ lw_tbl := pk_t12 _ (List.mem_of_getElem? (i := 163) rfl)
set_option maxRecDepth 100000 in
theorem pl72 : Cond.selects RX13 yX13_reads yX13_reads ∈ lw_tbl := List.mem_append_left _ (List.mem_of_getElem? (i := 101) (by decide +kernel))
set_option maxRecDepth 100000 in
theorem pl73 : Cond.fieldLink RX13 286 "TongueHouseModel" "had" "[I" ∈ lw_tbl := pk_t10 _ (List.mem_of_getElem? (i := 28) rfl)
set_option maxRecDepth 100000 in
theorem pl74 : Cond.fieldLink RX13 658 "TongueHouseModel" "tongues" "I" ∈ lw_tbl := pk_t9 _ (List.mem_of_getElem? (i := 172) rfl)
set_option maxRecDepth 100000 in
theorem pl75 : Cond.fieldLink RX13 661 "TongueHouseModel" "kinds" "I" ∈ lw_tbl := pk_t9 _ (List.mem_of_getElem? (i := 173) rfl)
set_option maxRecDepth 100000 in
theorem pl76 : Cond.fieldLink RX13 664 "TongueHouseModel" "funs" "I" ∈ lw_tbl := pk_t9 _ (List.mem_of_getElem? (i := 174) rfl)
set_option maxRecDepth 100000 in
theorem pl77 : Cond.fieldLink RX13 667 "TongueHouseModel" "things" "I" ∈ lw_tbl := pk_t9 _ (List.mem_of_getElem? (i := 175) rfl)
set_option maxRecDepth 100000 in
theorem pl78 : Cond.fieldLink RX13 670 "TongueHouseModel" "facts" "I" ∈ lw_tbl := pk_t9 _ (List.mem_of_getElem? (i := 176) rfl)
set_option maxRecDepth 100000 in
theorem pl79 : Cond.fieldLink RX13 15 "TongueHouseModel" "current" "I" ∈ lw_tbl := pk_t9 _ (List.mem_of_getElem? (i := 177) rfl)
set_option maxRecDepth 100000 in
theorem pl80 : Cond.fieldLink RX13 673 "TongueHouseModel" "parts" "I" ∈ lw_tbl := pk_t9 _ (List.mem_of_getElem? (i := 213) rfl)
set_option maxRecDepth 100000 in
theorem pl81 : Cond.fieldLink RX13 637 "TongueHouseModel" "letters" "I" ∈ lw_tbl := pk_t9 _ (List.mem_of_getElem? (i := 230) rfl)
set_option maxRecDepth 100000 in
theorem pl82 : Cond.fieldLink RX13 676 "TongueHouseModel" "terms" "I" ∈ lw_tbl := pk_t9 _ (List.mem_of_getElem? (i := 235) rfl)
set_option maxRecDepth 100000 in
theorem pl83 : Cond.fieldLink RX13 56 "TongueHouseModel" "features" "[I" ∈ lw_tbl := pk_t9 _ (List.mem_of_getElem? (i := 190) rfl)
set_option maxRecDepth 100000 in
theorem pl84 : Cond.fieldLink RX13 59 "TongueHouseModel" "values" "[I" ∈ lw_tbl := pk_t9 _ (List.mem_of_getElem? (i := 191) rfl)
set_option maxRecDepth 100000 in
theorem pl85 : Cond.fieldLink RX13 62 "TongueHouseModel" "classes" "[I" ∈ lw_tbl := pk_t9 _ (List.mem_of_getElem? (i := 192) rfl)
set_option maxRecDepth 100000 in
theorem pl86 : Cond.fieldLink RX13 65 "TongueHouseModel" "sounds" "[I" ∈ lw_tbl := pk_t9 _ (List.mem_of_getElem? (i := 193) rfl)
set_option maxRecDepth 100000 in
theorem pl87 : Cond.fieldLink RX13 68 "TongueHouseModel" "patterns" "[I" ∈ lw_tbl := pk_t9 _ (List.mem_of_getElem? (i := 194) rfl)
set_option maxRecDepth 100000 in
theorem pl88 : Cond.fieldLink RX13 71 "TongueHouseModel" "words" "[I" ∈ lw_tbl := pk_t9 _ (List.mem_of_getElem? (i := 195) rfl)
set_option maxRecDepth 100000 in
theorem pl89 : Cond.fieldLink RX13 74 "TongueHouseModel" "lins" "[I" ∈ lw_tbl := pk_t9 _ (List.mem_of_getElem? (i := 196) rfl)
set_option maxRecDepth 100000 in
theorem pl90 : Cond.fieldLink RX13 679 "TongueHouseModel" "meants" "I" ∈ lw_tbl := pk_t10 _ (List.mem_of_getElem? (i := 30) rfl)
set_option maxRecDepth 100000 in
theorem pl91 : Cond.methodLink RX13 685 yX13_remember ∈ lw_tbl := pk_t12 _ (List.mem_of_getElem? (i := 165) rfl)
set_option maxRecDepth 100000 in
theorem pl92 : Cond.code yX13_remember cX13_remember 3 none ∈ lw_tbl := pk_t12 _ (List.mem_of_getElem? (i := 168) rfl)
set_option maxRecDepth 100000 in
theorem pl93 : Cond.instanceMethod yX13_remember ∈ lw_tbl := pk_t12 _ (List.mem_of_getElem? (i := 167) rfl)
set_option maxRecDepth 100000 in
theorem pl94 : Cond.selects RX13 yX13_remember yX13_remember ∈ lw_tbl := List.mem_append_left _ (List.mem_of_getElem? (i := 102) (by decide +kernel))
set_option maxRecDepth 100000 in
theorem pl95 : Cond.fieldLink RX13 597 "TongueHouseModel" "tkEnd" "I" ∈ lw_tbl := pk_t10 _ (List.mem_of_getElem? (i := 4) rfl)
set_option maxRecDepth 100000 in
theorem pl96 : Cond.fieldLink RX13 639 "TongueHouseModel" "wrong" "I" ∈ lw_tbl := pk_t10 _ (List.mem_of_getElem? (i := 7) rfl)
set_option maxRecDepth 100000 in
theorem pl97 : Cond.fieldLink RX13 600 "TongueHouseModel" "tkAt" "I" ∈ lw_tbl := pk_t10 _ (List.mem_of_getElem? (i := 3) rfl)
set_option maxRecDepth 100000 in
theorem pl98 : Cond.fieldLink RX13 603 "TongueHouseModel" "tkNumber" "I" ∈ lw_tbl := pk_t10 _ (List.mem_of_getElem? (i := 5) rfl)
set_option maxRecDepth 100000 in
theorem pl99 : Cond.fieldLink RX13 606 "TongueHouseModel" "tkName" "J" ∈ lw_tbl := pk_t10 _ (List.mem_of_getElem? (i := 6) rfl)
set_option maxRecDepth 100000 in
theorem pl100 : Cond.fieldLink RX13 609 "TongueHouseModel" "tk" "I" ∈ lw_tbl := pk_t10 _ (List.mem_of_getElem? (i := 2) rfl)
set_option maxRecDepth 100000 in
theorem pl101 : Cond.methodLink RX13 655 yX13_next ∈ lw_tbl := pk_t12 _ (List.mem_of_getElem? (i := 169) rfl)
set_option maxRecDepth 100000 in
theorem pl102 : Cond.code yX13_next cX13_next 2 none ∈ lw_tbl := pk_t12 _ (List.mem_of_getElem? (i := 172) rfl)
set_option maxRecDepth 100000 in
theorem pl103 : Cond.instanceMethod yX13_next ∈ lw_tbl := pk_t12 _ (List.mem_of_getElem? (i := 171) rfl)
set_option maxRecDepth 100000 in
theorem pl104 : Cond.selects RX13 yX13_next yX13_next ∈ lw_tbl := List.mem_append_left _ (List.mem_of_getElem? (i := 103) (by decide +kernel))
set_option maxRecDepth 100000 in
theorem pl105 : Cond.fieldLink RX13 695 "TongueHouseModel" "lastRule" "I" ∈ lw_tbl := pk_t10 _ (List.mem_of_getElem? (i := 10) rfl)
set_option maxRecDepth 100000 in
theorem pl106 : Cond.fieldLink RX13 698 "TongueHouseModel" "version" "I" ∈ lw_tbl := pk_t10 _ (List.mem_of_getElem? (i := 31) rfl)
set_option maxRecDepth 100000 in
theorem pl107 : Cond.fieldLink RX12 136 "TongueHouse$Reader" "rule" "I" ∈ lw_tbl := pk_t2 _ (List.mem_of_getElem? (i := 2) rfl)
set_option maxRecDepth 100000 in
theorem pl108 : Cond.fieldLink RX12 23 "TongueHouse" "out" "LTongueHouse$Text;" ∈ lw_tbl := pk_t3 _ (List.mem_of_getElem? (i := 157) rfl)
set_option maxRecDepth 100000 in
theorem pl109 : Cond.fieldLink RX13 589 "TongueHouseModel" "outN" "I" ∈ lw_tbl := pk_t10 _ (List.mem_of_getElem? (i := 1) rfl)
set_option maxRecDepth 100000 in
theorem pl110 : Cond.fieldLink RX12 12 "TongueHouse" "store" "LTongueHouse$Store;" ∈ lw_tbl := pk_t3 _ (List.mem_of_getElem? (i := 155) rfl)
set_option maxRecDepth 100000 in
theorem pl111 : Cond.fieldLink RX12 145 "TongueHouse$Store" "kinds" "LTongueHouse$Names;" ∈ lw_tbl := pk_t1 _ (List.mem_of_getElem? (i := 69) rfl)
set_option maxRecDepth 100000 in
theorem pl112 : Cond.methodLink RX9 80 yX9_rewind ∈ lw_tbl := pk_t6 _ (List.mem_of_getElem? (i := 223) rfl)
set_option maxRecDepth 100000 in
theorem pl113 : Cond.methodLink RX12 165 yX9_onlyName ∈ lw_tbl := pk_t6 _ (List.mem_of_getElem? (i := 219) rfl)
set_option maxRecDepth 100000 in
theorem pl114 : Cond.code yX9_onlyName cX9_onlyName 3 (some .long) ∈ lw_tbl := pk_t6 _ (List.mem_of_getElem? (i := 222) rfl)
set_option maxRecDepth 100000 in
theorem pl115 : Cond.instanceMethod yX9_onlyName ∈ lw_tbl := pk_t6 _ (List.mem_of_getElem? (i := 220) rfl)
set_option maxRecDepth 100000 in
theorem pl116 : Cond.selects RX9 yX9_onlyName yX9_onlyName ∈ lw_tbl := pk_t6 _ (List.mem_of_getElem? (i := 221) rfl)
set_option maxRecDepth 100000 in
theorem pl117 : Cond.fieldLink RX12 149 "TongueHouse$Store" "tongueNames" "LTongueHouse$Names;" ∈ lw_tbl := pk_t1 _ (List.mem_of_getElem? (i := 78) rfl)
set_option maxRecDepth 100000 in
theorem pl118 : Cond.fieldLink RX12 239 "TongueHouse$Names" "size" "I" ∈ lw_tbl := pk_t1 _ (List.mem_of_getElem? (i := 56) rfl)
set_option maxRecDepth 100000 in
theorem pl119 : Cond.methodLink RX12 155 yX12_tongueAt ∈ lw_tbl := pk_t6 _ (List.mem_of_getElem? (i := 210) rfl)
set_option maxRecDepth 100000 in
theorem pl120 : Cond.code yX12_tongueAt cX12_tongueAt 2 (some (.object "TongueHouse$Tongue")) ∈ lw_tbl := pk_t6 _ (List.mem_of_getElem? (i := 213) rfl)
set_option maxRecDepth 100000 in
theorem pl121 : Cond.instanceMethod yX12_tongueAt ∈ lw_tbl := pk_t6 _ (List.mem_of_getElem? (i := 212) rfl)
set_option maxRecDepth 100000 in
theorem pl122 : Cond.selects RX12 yX12_tongueAt yX12_tongueAt ∈ lw_tbl := List.mem_append_left _ (List.mem_of_getElem? (i := 56) (by decide +kernel))
set_option maxRecDepth 100000 in
theorem pl123 : Cond.initialized RX12 ∈ lw_tbl := pk_t1 _ (List.mem_of_getElem? (i := 1) rfl)
set_option maxRecDepth 100000 in
theorem pl124 : Cond.fieldLink RX12 152 "TongueHouse$Store" "funs" "LTongueHouse$Names;" ∈ lw_tbl := pk_t1 _ (List.mem_of_getElem? (i := 72) rfl)
set_option maxRecDepth 100000 in
theorem pl125 : Cond.fieldLink RX12 76 "TongueHouse" "finder" "LTongueHouse$Finder;" ∈ lw_tbl := pk_t3 _ (List.mem_of_getElem? (i := 165) rfl)
set_option maxRecDepth 100000 in
theorem pl126 : Cond.fieldLink RX1 53 "TongueHouse$Finder" "analyses" "I" ∈ lw_tbl := pk_t3 _ (List.mem_of_getElem? (i := 95) rfl)
set_option maxRecDepth 100000 in
theorem pl127 : Cond.methodLink RX12 203 yX1_tellAnalysis ∈ lw_tbl := pk_t7 _ (List.mem_of_getElem? (i := 69) rfl)
set_option maxRecDepth 100000 in
theorem pl128 : Cond.code yX1_tellAnalysis cX1_tellAnalysis 6 (some .int) ∈ lw_tbl := pk_t7 _ (List.mem_of_getElem? (i := 72) rfl)
set_option maxRecDepth 100000 in
theorem pl129 : Cond.instanceMethod yX1_tellAnalysis ∈ lw_tbl := pk_t7 _ (List.mem_of_getElem? (i := 70) rfl)
set_option maxRecDepth 100000 in
theorem pl130 : Cond.selects RX1 yX1_tellAnalysis yX1_tellAnalysis ∈ lw_tbl := pk_t7 _ (List.mem_of_getElem? (i := 71) rfl)
set_option maxRecDepth 100000 in
theorem pl131 : Cond.initialized RX1 ∈ lw_tbl := pk_t1 _ (List.mem_of_getElem? (i := 10) rfl)
set_option maxRecDepth 100000 in
theorem pl132 : Cond.fieldLink RX13 854 "TongueHouseModel" "foundN" "I" ∈ lw_tbl := pk_t10 _ (List.mem_of_getElem? (i := 63) rfl)
set_option maxRecDepth 100000 in
theorem pl133 : Cond.fieldLink RX1 113 "TongueHouse$Finder" "guesses" "I" ∈ lw_tbl := pk_t3 _ (List.mem_of_getElem? (i := 97) rfl)
set_option maxRecDepth 100000 in
theorem pl134 : Cond.methodLink RX12 226 yX1_tellGuess ∈ lw_tbl := pk_t7 _ (List.mem_of_getElem? (i := 117) rfl)
set_option maxRecDepth 100000 in
theorem pl135 : Cond.code yX1_tellGuess cX1_tellGuess 3 (some .int) ∈ lw_tbl := pk_t7 _ (List.mem_of_getElem? (i := 120) rfl)
set_option maxRecDepth 100000 in
theorem pl136 : Cond.instanceMethod yX1_tellGuess ∈ lw_tbl := pk_t7 _ (List.mem_of_getElem? (i := 118) rfl)
set_option maxRecDepth 100000 in
theorem pl137 : Cond.selects RX1 yX1_tellGuess yX1_tellGuess ∈ lw_tbl := pk_t7 _ (List.mem_of_getElem? (i := 119) rfl)
set_option maxRecDepth 100000 in
theorem pl138 : Cond.fieldLink RX13 870 "TongueHouseModel" "guesses" "I" ∈ lw_tbl := pk_t10 _ (List.mem_of_getElem? (i := 67) rfl)
set_option maxRecDepth 100000 in
theorem pl139 : Cond.fieldLink RX1 165 "TongueHouse$Finder" "hits" "I" ∈ lw_tbl := pk_t3 _ (List.mem_of_getElem? (i := 108) rfl)
set_option maxRecDepth 100000 in
theorem pl140 : Cond.methodLink RX12 310 yX1_tellHit ∈ lw_tbl := pk_t9 _ (List.mem_of_getElem? (i := 26) rfl)
set_option maxRecDepth 100000 in
theorem pl141 : Cond.code yX1_tellHit cX1_tellHit 3 (some .int) ∈ lw_tbl := pk_t9 _ (List.mem_of_getElem? (i := 29) rfl)
set_option maxRecDepth 100000 in
theorem pl142 : Cond.instanceMethod yX1_tellHit ∈ lw_tbl := pk_t9 _ (List.mem_of_getElem? (i := 27) rfl)
set_option maxRecDepth 100000 in
theorem pl143 : Cond.selects RX1 yX1_tellHit yX1_tellHit ∈ lw_tbl := pk_t9 _ (List.mem_of_getElem? (i := 28) rfl)
set_option maxRecDepth 100000 in
theorem pl144 : Cond.fieldLink RX13 1052 "TongueHouseModel" "hits" "I" ∈ lw_tbl := pk_t10 _ (List.mem_of_getElem? (i := 140) rfl)
set_option maxRecDepth 100000 in
theorem pl145 : Cond.fieldLink RX12 55 "TongueHouse" "ranking" "LTongueHouse$Ranking;" ∈ lw_tbl := pk_t3 _ (List.mem_of_getElem? (i := 162) rfl)
set_option maxRecDepth 100000 in
theorem pl146 : Cond.fieldLink RX5 61 "TongueHouse$Ranking" "isOpen" "Z" ∈ lw_tbl := pk_t2 _ (List.mem_of_getElem? (i := 154) rfl)
set_option maxRecDepth 100000 in
theorem pl147 : Cond.methodLink RX12 236 yX5_total ∈ lw_tbl := pk_t6 _ (List.mem_of_getElem? (i := 6) rfl)
set_option maxRecDepth 100000 in
theorem pl148 : Cond.code yX5_total cX5_total 5 (some .long) ∈ lw_tbl := pk_t6 _ (List.mem_of_getElem? (i := 9) rfl)
set_option maxRecDepth 100000 in
theorem pl149 : Cond.instanceMethod yX5_total ∈ lw_tbl := pk_t6 _ (List.mem_of_getElem? (i := 7) rfl)
set_option maxRecDepth 100000 in
theorem pl150 : Cond.selects RX5 yX5_total yX5_total ∈ lw_tbl := pk_t6 _ (List.mem_of_getElem? (i := 8) rfl)
set_option maxRecDepth 100000 in
theorem pl151 : Cond.initialized RX5 ∈ lw_tbl := pk_t1 _ (List.mem_of_getElem? (i := 7) rfl)
set_option maxRecDepth 100000 in
theorem pl152 : Cond.fieldLink RX13 984 "TongueHouseModel" "all" "J" ∈ lw_tbl := pk_t10 _ (List.mem_of_getElem? (i := 111) rfl)
set_option maxRecDepth 100000 in
theorem pl153 : Cond.methodLink RX5 146 yX5_rank ∈ lw_tbl := pk_t6 _ (List.mem_of_getElem? (i := 37) rfl)
set_option maxRecDepth 100000 in
theorem pl154 : Cond.code yX5_rank cX5_rank 4 none ∈ lw_tbl := pk_t6 _ (List.mem_of_getElem? (i := 40) rfl)
set_option maxRecDepth 100000 in
theorem pl155 : Cond.instanceMethod yX5_rank ∈ lw_tbl := pk_t6 _ (List.mem_of_getElem? (i := 39) rfl)
set_option maxRecDepth 100000 in
theorem pl156 : Cond.selects RX5 yX5_rank yX5_rank ∈ lw_tbl := List.mem_append_left _ (List.mem_of_getElem? (i := 44) (by decide +kernel))
set_option maxRecDepth 100000 in
theorem pl157 : Cond.fieldLink RX5 68 "TongueHouse$Ranking" "topSize" "I" ∈ lw_tbl := pk_t2 _ (List.mem_of_getElem? (i := 166) rfl)
set_option maxRecDepth 100000 in
theorem pl158 : Cond.methodLink RX12 246 yX5_priceOf ∈ lw_tbl := pk_t6 _ (List.mem_of_getElem? (i := 33) rfl)
set_option maxRecDepth 100000 in
theorem pl159 : Cond.code yX5_priceOf cX5_priceOf 2 (some .int) ∈ lw_tbl := pk_t6 _ (List.mem_of_getElem? (i := 36) rfl)
set_option maxRecDepth 100000 in
theorem pl160 : Cond.instanceMethod yX5_priceOf ∈ lw_tbl := pk_t6 _ (List.mem_of_getElem? (i := 34) rfl)
set_option maxRecDepth 100000 in
theorem pl161 : Cond.selects RX5 yX5_priceOf yX5_priceOf ∈ lw_tbl := pk_t6 _ (List.mem_of_getElem? (i := 35) rfl)
set_option maxRecDepth 100000 in
theorem pl162 : Cond.fieldLink RX13 977 "TongueHouseModel" "readings" "I" ∈ lw_tbl := pk_t10 _ (List.mem_of_getElem? (i := 115) rfl)
set_option maxRecDepth 100000 in
theorem pl163 : Cond.fieldLink RX12 289 "TongueHouse" "candidateCount" "I" ∈ lw_tbl := pk_t3 _ (List.mem_of_getElem? (i := 170) rfl)
set_option maxRecDepth 100000 in
theorem pl164 : Cond.fieldLink RX13 1046 "TongueHouseModel" "candidates" "I" ∈ lw_tbl := pk_t10 _ (List.mem_of_getElem? (i := 130) rfl)
set_option maxRecDepth 100000 in
theorem pl165 : Cond.methodLink RX12 249 yX12_checkPlace ∈ lw_tbl := pk_t7 _ (List.mem_of_getElem? (i := 220) rfl)
set_option maxRecDepth 100000 in
theorem pl166 : Cond.code yX12_checkPlace cX12_checkPlace 1 none ∈ lw_tbl := pk_t7 _ (List.mem_of_getElem? (i := 222) rfl)
set_option maxRecDepth 100000 in
theorem pl167 : Cond.static yX12_checkPlace ∈ lw_tbl := pk_t7 _ (List.mem_of_getElem? (i := 221) rfl)
set_option maxRecDepth 100000 in
theorem pl168 : Cond.fieldLink RX12 82 "TongueHouse" "planted" "[[I" ∈ lw_tbl := pk_t3 _ (List.mem_of_getElem? (i := 166) rfl)
set_option maxRecDepth 100000 in
theorem pl169 : Cond.methodLink RX12 252 yX5_spell ∈ lw_tbl := pk_t7 _ (List.mem_of_getElem? (i := 224) rfl)
set_option maxRecDepth 100000 in
theorem pl170 : Cond.code yX5_spell cX5_spell 11 (some .int) ∈ lw_tbl := pk_t7 _ (List.mem_of_getElem? (i := 227) rfl)
set_option maxRecDepth 100000 in
theorem pl171 : Cond.instanceMethod yX5_spell ∈ lw_tbl := pk_t7 _ (List.mem_of_getElem? (i := 225) rfl)
set_option maxRecDepth 100000 in
theorem pl172 : Cond.selects RX5 yX5_spell yX5_spell ∈ lw_tbl := pk_t7 _ (List.mem_of_getElem? (i := 226) rfl)
set_option maxRecDepth 100000 in
theorem pl173 : Cond.methodLink RX13 1017 yX13_noPlace ∈ lw_tbl := pk_t14 _ (List.mem_of_getElem? (i := 110) rfl)
set_option maxRecDepth 100000 in
theorem pl174 : Cond.code yX13_noPlace cX13_noPlace 2 (some .boolean) ∈ lw_tbl := pk_t14 _ (List.mem_of_getElem? (i := 113) rfl)
set_option maxRecDepth 100000 in
theorem pl175 : Cond.instanceMethod yX13_noPlace ∈ lw_tbl := pk_t14 _ (List.mem_of_getElem? (i := 112) rfl)
set_option maxRecDepth 100000 in
theorem pl176 : Cond.selects RX13 yX13_noPlace yX13_noPlace ∈ lw_tbl := List.mem_append_left _ (List.mem_of_getElem? (i := 176) (by decide +kernel))
set_option maxRecDepth 100000 in
theorem pl177 : Cond.fieldLink RX6 67 "TongueHouse$Text" "type" "I" ∈ lw_tbl := pk_t1 _ (List.mem_of_getElem? (i := 202) rfl)
set_option maxRecDepth 100000 in
theorem pl178 : Cond.fieldLink RX6 61 "TongueHouse$Text" "at" "I" ∈ lw_tbl := pk_t1 _ (List.mem_of_getElem? (i := 198) rfl)
set_option maxRecDepth 100000 in
theorem pl179 : Cond.methodLink RX12 262 yX6_readTree ∈ lw_tbl := pk_t7 _ (List.mem_of_getElem? (i := 236) rfl)
set_option maxRecDepth 100000 in
theorem pl180 : Cond.code yX6_readTree cX6_readTree 5 (some .int) ∈ lw_tbl := pk_t7 _ (List.mem_of_getElem? (i := 239) rfl)
set_option maxRecDepth 100000 in
theorem pl181 : Cond.instanceMethod yX6_readTree ∈ lw_tbl := pk_t7 _ (List.mem_of_getElem? (i := 237) rfl)
set_option maxRecDepth 100000 in
theorem pl182 : Cond.selects RX6 yX6_readTree yX6_readTree ∈ lw_tbl := pk_t7 _ (List.mem_of_getElem? (i := 238) rfl)
set_option maxRecDepth 100000 in
theorem pl183 : Cond.fieldLink RX13 1011 "TongueHouseModel" "treeN" "I" ∈ lw_tbl := pk_t10 _ (List.mem_of_getElem? (i := 117) rfl)
set_option maxRecDepth 100000 in
theorem pl184 : Cond.methodLink RX13 1020 yX13_noTree ∈ lw_tbl := pk_t14 _ (List.mem_of_getElem? (i := 122) rfl)
set_option maxRecDepth 100000 in
theorem pl185 : Cond.code yX13_noTree cX13_noTree 4 (some .boolean) ∈ lw_tbl := pk_t14 _ (List.mem_of_getElem? (i := 125) rfl)
set_option maxRecDepth 100000 in
theorem pl186 : Cond.instanceMethod yX13_noTree ∈ lw_tbl := pk_t14 _ (List.mem_of_getElem? (i := 124) rfl)
set_option maxRecDepth 100000 in
theorem pl187 : Cond.selects RX13 yX13_noTree yX13_noTree ∈ lw_tbl := List.mem_append_left _ (List.mem_of_getElem? (i := 178) (by decide +kernel))
set_option maxRecDepth 100000 in
theorem pl188 : Cond.fieldLink RX12 85 "TongueHouse" "plantedSize" "[I" ∈ lw_tbl := pk_t3 _ (List.mem_of_getElem? (i := 167) rfl)
set_option maxRecDepth 100000 in
theorem pl189 : Cond.fieldLink RX13 467 "TongueHouseModel" "placeN" "[I" ∈ lw_tbl := pk_t10 _ (List.mem_of_getElem? (i := 119) rfl)
set_option maxRecDepth 100000 in
theorem pl190 : Cond.methodLink RX13 1030 yX13_takes ∈ lw_tbl := pk_t14 _ (List.mem_of_getElem? (i := 130) rfl)
set_option maxRecDepth 100000 in
theorem pl191 : Cond.code yX13_takes cX13_takes 3 (some .int) ∈ lw_tbl := pk_t14 _ (List.mem_of_getElem? (i := 133) rfl)
set_option maxRecDepth 100000 in
theorem pl192 : Cond.instanceMethod yX13_takes ∈ lw_tbl := pk_t14 _ (List.mem_of_getElem? (i := 132) rfl)
set_option maxRecDepth 100000 in
theorem pl193 : Cond.selects RX13 yX13_takes yX13_takes ∈ lw_tbl := List.mem_append_left _ (List.mem_of_getElem? (i := 179) (by decide +kernel))
set_option maxRecDepth 100000 in
theorem pl194 : Cond.methodLink RX12 278 yX12_meaningOf ∈ lw_tbl := pk_t8 _ (List.mem_of_getElem? (i := 89) rfl)
set_option maxRecDepth 100000 in
theorem pl195 : Cond.code yX12_meaningOf cX12_meaningOf 2 (some .int) ∈ lw_tbl := pk_t8 _ (List.mem_of_getElem? (i := 92) rfl)
set_option maxRecDepth 100000 in
theorem pl196 : Cond.instanceMethod yX12_meaningOf ∈ lw_tbl := pk_t8 _ (List.mem_of_getElem? (i := 91) rfl)
set_option maxRecDepth 100000 in
theorem pl197 : Cond.selects RX12 yX12_meaningOf yX12_meaningOf ∈ lw_tbl := List.mem_append_left _ (List.mem_of_getElem? (i := 78) (by decide +kernel))
set_option maxRecDepth 100000 in
theorem pl198 : Cond.methodLink RX12 355 yX8_sizeOf ∈ lw_tbl := pk_t9 _ (List.mem_of_getElem? (i := 75) rfl)
set_option maxRecDepth 100000 in
theorem pl199 : Cond.code yX8_sizeOf cX8_sizeOf 2 (some .int) ∈ lw_tbl := pk_t9 _ (List.mem_of_getElem? (i := 78) rfl)
set_option maxRecDepth 100000 in
theorem pl200 : Cond.instanceMethod yX8_sizeOf ∈ lw_tbl := pk_t9 _ (List.mem_of_getElem? (i := 76) rfl)
set_option maxRecDepth 100000 in
theorem pl201 : Cond.selects RX8 yX8_sizeOf yX8_sizeOf ∈ lw_tbl := pk_t9 _ (List.mem_of_getElem? (i := 77) rfl)
set_option maxRecDepth 100000 in
theorem pl202 : Cond.fieldLink RX12 46 "TongueHouse" "chart" "LTongueHouse$Chart;" ∈ lw_tbl := pk_t3 _ (List.mem_of_getElem? (i := 161) rfl)
set_option maxRecDepth 100000 in
theorem pl203 : Cond.fieldLink RX12 346 "TongueHouse$Chart" "nodes" "I" ∈ lw_tbl := pk_t2 _ (List.mem_of_getElem? (i := 72) rfl)
set_option maxRecDepth 100000 in
theorem pl204 : Cond.fieldLink RX12 349 "TongueHouse$Chart" "ways" "I" ∈ lw_tbl := pk_t2 _ (List.mem_of_getElem? (i := 79) rfl)
set_option maxRecDepth 100000 in
theorem pl205 : Cond.fieldLink RX12 352 "TongueHouse$Finder" "collected" "I" ∈ lw_tbl := pk_t3 _ (List.mem_of_getElem? (i := 103) rfl)
set_option maxRecDepth 100000 in
theorem pl206 : Cond.fieldLink RX13 989 "TongueHouseModel" "noted" "I" ∈ lw_tbl := pk_t10 _ (List.mem_of_getElem? (i := 109) rfl)
set_option maxRecDepth 100000 in
theorem pl207 : Cond.fieldLink RX13 992 "TongueHouseModel" "notedWays" "I" ∈ lw_tbl := pk_t10 _ (List.mem_of_getElem? (i := 110) rfl)
set_option maxRecDepth 100000 in
theorem pl208 : Cond.fieldLink RX13 1049 "TongueHouseModel" "collected" "I" ∈ lw_tbl := pk_t10 _ (List.mem_of_getElem? (i := 135) rfl)
set_option maxRecDepth 100000 in
theorem pl209 : Cond.methodLink RX13 845 yX13_noTongue ∈ lw_tbl := pk_t13 _ (List.mem_of_getElem? (i := 158) rfl)
set_option maxRecDepth 100000 in
theorem pl210 : Cond.code yX13_noTongue cX13_noTongue 2 (some .boolean) ∈ lw_tbl := pk_t13 _ (List.mem_of_getElem? (i := 161) rfl)
set_option maxRecDepth 100000 in
theorem pl211 : Cond.instanceMethod yX13_noTongue ∈ lw_tbl := pk_t13 _ (List.mem_of_getElem? (i := 160) rfl)
set_option maxRecDepth 100000 in
theorem pl212 : Cond.selects RX13 yX13_noTongue yX13_noTongue ∈ lw_tbl := List.mem_append_left _ (List.mem_of_getElem? (i := 143) (by decide +kernel))
set_option maxRecDepth 100000 in
theorem pl213 : Cond.methodLink RL 7 yX12_feed ∈ lw_tbl := pk_t6 _ (List.mem_of_getElem? (i := 104) rfl)
set_option maxRecDepth 100000 in
theorem pl214 : Cond.code yX12_feed cX12_feed 6 (some .int) ∈ lw_tbl := pk_t6 _ (List.mem_of_getElem? (i := 107) rfl)
set_option maxRecDepth 100000 in
theorem pl215 : Cond.instanceMethod yX12_feed ∈ lw_tbl := pk_t6 _ (List.mem_of_getElem? (i := 105) rfl)
set_option maxRecDepth 100000 in
theorem pl216 : Cond.selects RX12 yX12_feed yX12_feed ∈ lw_tbl := pk_t6 _ (List.mem_of_getElem? (i := 106) rfl)
set_option maxRecDepth 100000 in
theorem pl217 : Cond.methodLink RL 15 yX12_end ∈ lw_tbl := pk_t6 _ (List.mem_of_getElem? (i := 182) rfl)
set_option maxRecDepth 100000 in
theorem pl218 : Cond.code yX12_end cX12_end 2 (some .int) ∈ lw_tbl := pk_t6 _ (List.mem_of_getElem? (i := 185) rfl)
set_option maxRecDepth 100000 in
theorem pl219 : Cond.instanceMethod yX12_end ∈ lw_tbl := pk_t6 _ (List.mem_of_getElem? (i := 183) rfl)
set_option maxRecDepth 100000 in
theorem pl220 : Cond.selects RX12 yX12_end yX12_end ∈ lw_tbl := pk_t6 _ (List.mem_of_getElem? (i := 184) rfl)
set_option maxRecDepth 100000 in
theorem pl221 : Cond.classLink RL 19 "java/lang/IllegalArgumentException" ∈ lw_tbl := pk_t6 _ (List.mem_of_getElem? (i := 181) rfl)
set_option maxRecDepth 100000 in
theorem pl222 : Cond.methodLink RL 21 yX12_number ∈ lw_tbl := pk_t6 _ (List.mem_of_getElem? (i := 205) rfl)
set_option maxRecDepth 100000 in
theorem pl223 : Cond.code yX12_number cX12_number 6 (some .int) ∈ lw_tbl := pk_t6 _ (List.mem_of_getElem? (i := 208) rfl)
set_option maxRecDepth 100000 in
theorem pl224 : Cond.instanceMethod yX12_number ∈ lw_tbl := pk_t6 _ (List.mem_of_getElem? (i := 206) rfl)
set_option maxRecDepth 100000 in
theorem pl225 : Cond.selects RX12 yX12_number yX12_number ∈ lw_tbl := pk_t6 _ (List.mem_of_getElem? (i := 207) rfl)
set_option maxRecDepth 100000 in
theorem pl226 : Cond.methodLink RL 31 yX12_analysis ∈ lw_tbl := pk_t7 _ (List.mem_of_getElem? (i := 65) rfl)
set_option maxRecDepth 100000 in
theorem pl227 : Cond.code yX12_analysis cX12_analysis 3 (some .int) ∈ lw_tbl := pk_t7 _ (List.mem_of_getElem? (i := 68) rfl)
set_option maxRecDepth 100000 in
theorem pl228 : Cond.instanceMethod yX12_analysis ∈ lw_tbl := pk_t7 _ (List.mem_of_getElem? (i := 66) rfl)
set_option maxRecDepth 100000 in
theorem pl229 : Cond.selects RX12 yX12_analysis yX12_analysis ∈ lw_tbl := pk_t7 _ (List.mem_of_getElem? (i := 67) rfl)
set_option maxRecDepth 100000 in
theorem pl230 : Cond.methodLink RL 41 yX12_guessed ∈ lw_tbl := pk_t7 _ (List.mem_of_getElem? (i := 113) rfl)
set_option maxRecDepth 100000 in
theorem pl231 : Cond.code yX12_guessed cX12_guessed 3 (some .int) ∈ lw_tbl := pk_t7 _ (List.mem_of_getElem? (i := 116) rfl)
set_option maxRecDepth 100000 in
theorem pl232 : Cond.instanceMethod yX12_guessed ∈ lw_tbl := pk_t7 _ (List.mem_of_getElem? (i := 114) rfl)
set_option maxRecDepth 100000 in
theorem pl233 : Cond.selects RX12 yX12_guessed yX12_guessed ∈ lw_tbl := pk_t7 _ (List.mem_of_getElem? (i := 115) rfl)
set_option maxRecDepth 100000 in
theorem pl234 : Cond.methodLink RL 82 yX12_hit ∈ lw_tbl := pk_t9 _ (List.mem_of_getElem? (i := 22) rfl)
set_option maxRecDepth 100000 in
theorem pl235 : Cond.code yX12_hit cX12_hit 3 (some .int) ∈ lw_tbl := pk_t9 _ (List.mem_of_getElem? (i := 25) rfl)
set_option maxRecDepth 100000 in
theorem pl236 : Cond.instanceMethod yX12_hit ∈ lw_tbl := pk_t9 _ (List.mem_of_getElem? (i := 23) rfl)
set_option maxRecDepth 100000 in
theorem pl237 : Cond.selects RX12 yX12_hit yX12_hit ∈ lw_tbl := pk_t9 _ (List.mem_of_getElem? (i := 24) rfl)
set_option maxRecDepth 100000 in
theorem pl238 : Cond.methodLink RL 51 yX12_reading ∈ lw_tbl := pk_t7 _ (List.mem_of_getElem? (i := 216) rfl)
set_option maxRecDepth 100000 in
theorem pl239 : Cond.code yX12_reading cX12_reading 4 (some .int) ∈ lw_tbl := pk_t7 _ (List.mem_of_getElem? (i := 219) rfl)
set_option maxRecDepth 100000 in
theorem pl240 : Cond.instanceMethod yX12_reading ∈ lw_tbl := pk_t7 _ (List.mem_of_getElem? (i := 217) rfl)
set_option maxRecDepth 100000 in
theorem pl241 : Cond.selects RX12 yX12_reading yX12_reading ∈ lw_tbl := pk_t7 _ (List.mem_of_getElem? (i := 218) rfl)
set_option maxRecDepth 100000 in
theorem pl242 : Cond.methodLink RL 54 yX12_tree ∈ lw_tbl := pk_t7 _ (List.mem_of_getElem? (i := 232) rfl)
set_option maxRecDepth 100000 in
theorem pl243 : Cond.code yX12_tree cX12_tree 3 (some .int) ∈ lw_tbl := pk_t7 _ (List.mem_of_getElem? (i := 235) rfl)
set_option maxRecDepth 100000 in
theorem pl244 : Cond.instanceMethod yX12_tree ∈ lw_tbl := pk_t7 _ (List.mem_of_getElem? (i := 233) rfl)
set_option maxRecDepth 100000 in
theorem pl245 : Cond.selects RX12 yX12_tree yX12_tree ∈ lw_tbl := pk_t7 _ (List.mem_of_getElem? (i := 234) rfl)
set_option maxRecDepth 100000 in
theorem pl246 : Cond.methodLink RL 57 yX12_show ∈ lw_tbl := pk_t8 _ (List.mem_of_getElem? (i := 11) rfl)
set_option maxRecDepth 100000 in
theorem pl247 : Cond.code yX12_show cX12_show 2 (some .int) ∈ lw_tbl := pk_t8 _ (List.mem_of_getElem? (i := 14) rfl)
set_option maxRecDepth 100000 in
theorem pl248 : Cond.instanceMethod yX12_show ∈ lw_tbl := pk_t8 _ (List.mem_of_getElem? (i := 12) rfl)
set_option maxRecDepth 100000 in
theorem pl249 : Cond.selects RX12 yX12_show yX12_show ∈ lw_tbl := pk_t8 _ (List.mem_of_getElem? (i := 13) rfl)
set_option maxRecDepth 100000 in
theorem pl250 : Cond.methodLink RL 60 yX12_same ∈ lw_tbl := pk_t8 _ (List.mem_of_getElem? (i := 27) rfl)
set_option maxRecDepth 100000 in
theorem pl251 : Cond.code yX12_same cX12_same 4 (some .boolean) ∈ lw_tbl := pk_t8 _ (List.mem_of_getElem? (i := 30) rfl)
set_option maxRecDepth 100000 in
theorem pl252 : Cond.instanceMethod yX12_same ∈ lw_tbl := pk_t8 _ (List.mem_of_getElem? (i := 28) rfl)
set_option maxRecDepth 100000 in
theorem pl253 : Cond.selects RX12 yX12_same yX12_same ∈ lw_tbl := pk_t8 _ (List.mem_of_getElem? (i := 29) rfl)
set_option maxRecDepth 100000 in
theorem pl254 : Cond.methodLink RL 67 yX12_mean ∈ lw_tbl := pk_t8 _ (List.mem_of_getElem? (i := 85) rfl)
set_option maxRecDepth 100000 in
theorem pl255 : Cond.code yX12_mean cX12_mean 3 (some .int) ∈ lw_tbl := pk_t8 _ (List.mem_of_getElem? (i := 88) rfl)
set_option maxRecDepth 100000 in
theorem pl256 : Cond.instanceMethod yX12_mean ∈ lw_tbl := pk_t8 _ (List.mem_of_getElem? (i := 86) rfl)
set_option maxRecDepth 100000 in
theorem pl257 : Cond.selects RX12 yX12_mean yX12_mean ∈ lw_tbl := pk_t8 _ (List.mem_of_getElem? (i := 87) rfl)
set_option maxRecDepth 100000 in
theorem pl258 : Cond.methodLink RL 70 yX12_truth ∈ lw_tbl := pk_t8 _ (List.mem_of_getElem? (i := 142) rfl)
set_option maxRecDepth 100000 in
theorem pl259 : Cond.code yX12_truth cX12_truth 3 (some .int) ∈ lw_tbl := pk_t8 _ (List.mem_of_getElem? (i := 145) rfl)
set_option maxRecDepth 100000 in
theorem pl260 : Cond.instanceMethod yX12_truth ∈ lw_tbl := pk_t8 _ (List.mem_of_getElem? (i := 143) rfl)
set_option maxRecDepth 100000 in
theorem pl261 : Cond.selects RX12 yX12_truth yX12_truth ∈ lw_tbl := pk_t8 _ (List.mem_of_getElem? (i := 144) rfl)
set_option maxRecDepth 100000 in
theorem pl262 : Cond.methodLink RL 88 yX12_count ∈ lw_tbl := pk_t9 _ (List.mem_of_getElem? (i := 67) rfl)
set_option maxRecDepth 100000 in
theorem pl263 : Cond.code yX12_count cX12_count 3 (some .int) ∈ lw_tbl := pk_t9 _ (List.mem_of_getElem? (i := 70) rfl)
set_option maxRecDepth 100000 in
theorem pl264 : Cond.instanceMethod yX12_count ∈ lw_tbl := pk_t9 _ (List.mem_of_getElem? (i := 68) rfl)
set_option maxRecDepth 100000 in
theorem pl265 : Cond.selects RX12 yX12_count yX12_count ∈ lw_tbl := pk_t9 _ (List.mem_of_getElem? (i := 69) rfl)
set_option maxRecDepth 100000 in
theorem pl266 : Cond.methodLink RL 25 yX12_sounds ∈ lw_tbl := pk_t6 _ (List.mem_of_getElem? (i := 228) rfl)
set_option maxRecDepth 100000 in
theorem pl267 : Cond.code yX12_sounds cX12_sounds 4 (some .int) ∈ lw_tbl := pk_t6 _ (List.mem_of_getElem? (i := 231) rfl)
set_option maxRecDepth 100000 in
theorem pl268 : Cond.instanceMethod yX12_sounds ∈ lw_tbl := pk_t6 _ (List.mem_of_getElem? (i := 229) rfl)
set_option maxRecDepth 100000 in
theorem pl269 : Cond.selects RX12 yX12_sounds yX12_sounds ∈ lw_tbl := pk_t6 _ (List.mem_of_getElem? (i := 230) rfl)
set_option maxRecDepth 100000 in
theorem pl270 : Cond.methodLink RL 28 yX12_analyse ∈ lw_tbl := pk_t7 _ (List.mem_of_getElem? (i := 24) rfl)
set_option maxRecDepth 100000 in
theorem pl271 : Cond.code yX12_analyse cX12_analyse 4 (some .int) ∈ lw_tbl := pk_t7 _ (List.mem_of_getElem? (i := 27) rfl)
set_option maxRecDepth 100000 in
theorem pl272 : Cond.instanceMethod yX12_analyse ∈ lw_tbl := pk_t7 _ (List.mem_of_getElem? (i := 25) rfl)
set_option maxRecDepth 100000 in
theorem pl273 : Cond.selects RX12 yX12_analyse yX12_analyse ∈ lw_tbl := pk_t7 _ (List.mem_of_getElem? (i := 26) rfl)
set_option maxRecDepth 100000 in
theorem pl274 : Cond.methodLink RL 34 yX12_cell ∈ lw_tbl := pk_t7 _ (List.mem_of_getElem? (i := 83) rfl)
set_option maxRecDepth 100000 in
theorem pl275 : Cond.code yX12_cell cX12_cell 7 (some .int) ∈ lw_tbl := pk_t7 _ (List.mem_of_getElem? (i := 86) rfl)
set_option maxRecDepth 100000 in
theorem pl276 : Cond.instanceMethod yX12_cell ∈ lw_tbl := pk_t7 _ (List.mem_of_getElem? (i := 84) rfl)
set_option maxRecDepth 100000 in
theorem pl277 : Cond.selects RX12 yX12_cell yX12_cell ∈ lw_tbl := pk_t7 _ (List.mem_of_getElem? (i := 85) rfl)
set_option maxRecDepth 100000 in
theorem pl278 : Cond.methodLink RL 38 yX12_guess ∈ lw_tbl := pk_t7 _ (List.mem_of_getElem? (i := 93) rfl)
set_option maxRecDepth 100000 in
theorem pl279 : Cond.code yX12_guess cX12_guess 4 (some .int) ∈ lw_tbl := pk_t7 _ (List.mem_of_getElem? (i := 96) rfl)
set_option maxRecDepth 100000 in
theorem pl280 : Cond.instanceMethod yX12_guess ∈ lw_tbl := pk_t7 _ (List.mem_of_getElem? (i := 94) rfl)
set_option maxRecDepth 100000 in
theorem pl281 : Cond.selects RX12 yX12_guess yX12_guess ∈ lw_tbl := pk_t7 _ (List.mem_of_getElem? (i := 95) rfl)
set_option maxRecDepth 100000 in
theorem pl282 : Cond.methodLink RL 44 yX12_parse ∈ lw_tbl := pk_t7 _ (List.mem_of_getElem? (i := 124) rfl)
set_option maxRecDepth 100000 in
theorem pl283 : Cond.code yX12_parse cX12_parse 5 (some .int) ∈ lw_tbl := pk_t7 _ (List.mem_of_getElem? (i := 127) rfl)
set_option maxRecDepth 100000 in
theorem pl284 : Cond.instanceMethod yX12_parse ∈ lw_tbl := pk_t7 _ (List.mem_of_getElem? (i := 125) rfl)
set_option maxRecDepth 100000 in
theorem pl285 : Cond.selects RX12 yX12_parse yX12_parse ∈ lw_tbl := pk_t7 _ (List.mem_of_getElem? (i := 126) rfl)
set_option maxRecDepth 100000 in
theorem pl286 : Cond.methodLink RL 47 yX12_bar ∈ lw_tbl := pk_t7 _ (List.mem_of_getElem? (i := 204) rfl)
set_option maxRecDepth 100000 in
theorem pl287 : Cond.code yX12_bar cX12_bar 3 (some .long) ∈ lw_tbl := pk_t7 _ (List.mem_of_getElem? (i := 207) rfl)
set_option maxRecDepth 100000 in
theorem pl288 : Cond.instanceMethod yX12_bar ∈ lw_tbl := pk_t7 _ (List.mem_of_getElem? (i := 205) rfl)
set_option maxRecDepth 100000 in
theorem pl289 : Cond.selects RX12 yX12_bar yX12_bar ∈ lw_tbl := pk_t7 _ (List.mem_of_getElem? (i := 206) rfl)
set_option maxRecDepth 100000 in
theorem pl290 : Cond.methodLink RL 64 yX12_say ∈ lw_tbl := pk_t8 _ (List.mem_of_getElem? (i := 34) rfl)
set_option maxRecDepth 100000 in
theorem pl291 : Cond.code yX12_say cX12_say 5 (some .int) ∈ lw_tbl := pk_t8 _ (List.mem_of_getElem? (i := 37) rfl)
set_option maxRecDepth 100000 in
theorem pl292 : Cond.instanceMethod yX12_say ∈ lw_tbl := pk_t8 _ (List.mem_of_getElem? (i := 35) rfl)
set_option maxRecDepth 100000 in
theorem pl293 : Cond.selects RX12 yX12_say yX12_say ∈ lw_tbl := pk_t8 _ (List.mem_of_getElem? (i := 36) rfl)
set_option maxRecDepth 100000 in
theorem pl294 : Cond.methodLink RL 73 yX12_swap ∈ lw_tbl := pk_t8 _ (List.mem_of_getElem? (i := 186) rfl)
set_option maxRecDepth 100000 in
theorem pl295 : Cond.code yX12_swap cX12_swap 9 (some .int) ∈ lw_tbl := pk_t8 _ (List.mem_of_getElem? (i := 189) rfl)
set_option maxRecDepth 100000 in
theorem pl296 : Cond.instanceMethod yX12_swap ∈ lw_tbl := pk_t8 _ (List.mem_of_getElem? (i := 187) rfl)
set_option maxRecDepth 100000 in
theorem pl297 : Cond.selects RX12 yX12_swap yX12_swap ∈ lw_tbl := pk_t8 _ (List.mem_of_getElem? (i := 188) rfl)
set_option maxRecDepth 100000 in
theorem pl298 : Cond.methodLink RL 76 yX12_add ∈ lw_tbl := pk_t8 _ (List.mem_of_getElem? (i := 201) rfl)
set_option maxRecDepth 100000 in
theorem pl299 : Cond.code yX12_add cX12_add 3 (some .int) ∈ lw_tbl := pk_t8 _ (List.mem_of_getElem? (i := 204) rfl)
set_option maxRecDepth 100000 in
theorem pl300 : Cond.instanceMethod yX12_add ∈ lw_tbl := pk_t8 _ (List.mem_of_getElem? (i := 202) rfl)
set_option maxRecDepth 100000 in
theorem pl301 : Cond.selects RX12 yX12_add yX12_add ∈ lw_tbl := pk_t8 _ (List.mem_of_getElem? (i := 203) rfl)
set_option maxRecDepth 100000 in
theorem pl302 : Cond.methodLink RL 79 yX12_ask ∈ lw_tbl := pk_t8 _ (List.mem_of_getElem? (i := 229) rfl)
set_option maxRecDepth 100000 in
theorem pl303 : Cond.code yX12_ask cX12_ask 4 (some .int) ∈ lw_tbl := pk_t8 _ (List.mem_of_getElem? (i := 232) rfl)
set_option maxRecDepth 100000 in
theorem pl304 : Cond.instanceMethod yX12_ask ∈ lw_tbl := pk_t8 _ (List.mem_of_getElem? (i := 230) rfl)
set_option maxRecDepth 100000 in
theorem pl305 : Cond.selects RX12 yX12_ask yX12_ask ∈ lw_tbl := pk_t8 _ (List.mem_of_getElem? (i := 231) rfl)
set_option maxRecDepth 100000 in
theorem pl306 : Cond.methodLink RL 85 yX12_mend ∈ lw_tbl := pk_t9 _ (List.mem_of_getElem? (i := 33) rfl)
set_option maxRecDepth 100000 in
theorem pl307 : Cond.code yX12_mend cX12_mend 10 (some .int) ∈ lw_tbl := pk_t9 _ (List.mem_of_getElem? (i := 36) rfl)
set_option maxRecDepth 100000 in
theorem pl308 : Cond.instanceMethod yX12_mend ∈ lw_tbl := pk_t9 _ (List.mem_of_getElem? (i := 34) rfl)
set_option maxRecDepth 100000 in
theorem pl309 : Cond.selects RX12 yX12_mend yX12_mend ∈ lw_tbl := pk_t9 _ (List.mem_of_getElem? (i := 35) rfl)
set_option maxRecDepth 100000 in
theorem pl310 : Cond.fieldLink RJ0 38 "java/lang/String" "COMPACT_STRINGS" "Z" ∈ lw_tbl := pk_t9 _ (List.mem_of_getElem? (i := 103) rfl)
set_option maxRecDepth 100000 in
theorem pl311 : Cond.fieldLink RJ0 15 "java/lang/String" "coder" "B" ∈ lw_tbl := pk_t15 _ (List.mem_of_getElem? (i := 37) rfl)
set_option maxRecDepth 100000 in
theorem pl312 : Cond.fieldLink RJ0 9 "java/lang/String" "value" "[B" ∈ lw_tbl := pk_t15 _ (List.mem_of_getElem? (i := 36) rfl)
set_option maxRecDepth 100000 in
theorem pl313 : Cond.code yJ0_coder_7d493 cJ0_coder_7d493 1 (some .byte) ∈ lw_tbl := pk_t9 _ (List.mem_of_getElem? (i := 102) rfl)
set_option maxRecDepth 100000 in
theorem pl314 : Cond.methodLink RJ0 335 yJ0_coder_7d493 ∈ lw_tbl := pk_t9 _ (List.mem_of_getElem? (i := 99) rfl)
set_option maxRecDepth 100000 in
theorem pl315 : Cond.instanceMethod yJ0_coder_7d493 ∈ lw_tbl := pk_t9 _ (List.mem_of_getElem? (i := 100) rfl)
set_option maxRecDepth 100000 in
theorem pl316 : Cond.selects RJ0 yJ0_coder_7d493 yJ0_coder_7d493 ∈ lw_tbl := pk_t9 _ (List.mem_of_getElem? (i := 101) rfl)
set_option maxRecDepth 100000 in
theorem pl317 : Cond.initialized RJ0 ∈ lw_tbl := pk_t1 _ (List.mem_of_getElem? (i := 12) rfl)
set_option maxRecDepth 100000 in
theorem pl318 : Cond.fieldLink RJ0 1053 "jdk/internal/util/Preconditions" "SIOOBE_FORMATTER" "Ljava/util/function/BiFunction;" ∈ lw_tbl := pk_t9 _ (List.mem_of_getElem? (i := 119) rfl)
set_option maxRecDepth 100000 in
theorem pl319 : Cond.code yJ3_checkIndex_8e157 cJ3_checkIndex_8e157 3 (some .int) ∈ lw_tbl := pk_t9 _ (List.mem_of_getElem? (i := 123) rfl)
set_option maxRecDepth 100000 in
theorem pl320 : Cond.methodLink RJ0 1059 yJ3_checkIndex_8e157 ∈ lw_tbl := pk_t9 _ (List.mem_of_getElem? (i := 121) rfl)
set_option maxRecDepth 100000 in
theorem pl321 : Cond.static yJ3_checkIndex_8e157 ∈ lw_tbl := pk_t9 _ (List.mem_of_getElem? (i := 122) rfl)
set_option maxRecDepth 100000 in
theorem pl322 : Cond.initialized RJ3 ∈ lw_tbl := pk_t1 _ (List.mem_of_getElem? (i := 14) rfl)
set_option maxRecDepth 100000 in
theorem pl323 : Cond.code yJ0_checkIndex_df160 cJ0_checkIndex_df160 2 none ∈ lw_tbl := pk_t9 _ (List.mem_of_getElem? (i := 118) rfl)
set_option maxRecDepth 100000 in
theorem pl324 : Cond.methodLink RJ1 9 yJ0_checkIndex_df160 ∈ lw_tbl := pk_t9 _ (List.mem_of_getElem? (i := 116) rfl)
set_option maxRecDepth 100000 in
theorem pl325 : Cond.static yJ0_checkIndex_df160 ∈ lw_tbl := pk_t9 _ (List.mem_of_getElem? (i := 117) rfl)
set_option maxRecDepth 100000 in
theorem pl326 : Cond.code yJ0_isLatin1_aae02 cJ0_isLatin1_aae02 1 (some .boolean) ∈ lw_tbl := pk_t9 _ (List.mem_of_getElem? (i := 112) rfl)
set_option maxRecDepth 100000 in
theorem pl327 : Cond.methodLink RJ0 492 yJ0_isLatin1_aae02 ∈ lw_tbl := pk_t9 _ (List.mem_of_getElem? (i := 109) rfl)
set_option maxRecDepth 100000 in
theorem pl328 : Cond.instanceMethod yJ0_isLatin1_aae02 ∈ lw_tbl := pk_t9 _ (List.mem_of_getElem? (i := 110) rfl)
set_option maxRecDepth 100000 in
theorem pl329 : Cond.selects RJ0 yJ0_isLatin1_aae02 yJ0_isLatin1_aae02 ∈ lw_tbl := pk_t9 _ (List.mem_of_getElem? (i := 111) rfl)
set_option maxRecDepth 100000 in
theorem pl330 : Cond.code yJ1_charAt_3b067 cJ1_charAt_3b067 2 (some .char) ∈ lw_tbl := pk_t9 _ (List.mem_of_getElem? (i := 115) rfl)
set_option maxRecDepth 100000 in
theorem pl331 : Cond.methodLink RJ0 495 yJ1_charAt_3b067 ∈ lw_tbl := pk_t9 _ (List.mem_of_getElem? (i := 113) rfl)
set_option maxRecDepth 100000 in
theorem pl332 : Cond.static yJ1_charAt_3b067 ∈ lw_tbl := pk_t9 _ (List.mem_of_getElem? (i := 114) rfl)
set_option maxRecDepth 100000 in
theorem pl333 : Cond.initialized RJ1 ∈ lw_tbl := pk_t1 _ (List.mem_of_getElem? (i := 13) rfl)
set_option maxRecDepth 100000 in
theorem pl334 : Cond.code yJ0_length_8abf5 cJ0_length_8abf5 1 (some .int) ∈ lw_tbl := pk_t9 _ (List.mem_of_getElem? (i := 98) rfl)
set_option maxRecDepth 100000 in
theorem pl335 : Cond.methodLink RX13 627 yJ0_length_8abf5 ∈ lw_tbl := pk_t9 _ (List.mem_of_getElem? (i := 95) rfl)
set_option maxRecDepth 100000 in
theorem pl336 : Cond.instanceMethod yJ0_length_8abf5 ∈ lw_tbl := pk_t9 _ (List.mem_of_getElem? (i := 96) rfl)
set_option maxRecDepth 100000 in
theorem pl337 : Cond.selects RJ0 yJ0_length_8abf5 yJ0_length_8abf5 ∈ lw_tbl := pk_t9 _ (List.mem_of_getElem? (i := 97) rfl)
set_option maxRecDepth 100000 in
theorem pl338 : Cond.code yJ0_charAt_5068e cJ0_charAt_5068e 2 (some .char) ∈ lw_tbl := pk_t9 _ (List.mem_of_getElem? (i := 108) rfl)
set_option maxRecDepth 100000 in
theorem pl339 : Cond.methodLink RX13 630 yJ0_charAt_5068e ∈ lw_tbl := pk_t9 _ (List.mem_of_getElem? (i := 105) rfl)
set_option maxRecDepth 100000 in
theorem pl340 : Cond.instanceMethod yJ0_charAt_5068e ∈ lw_tbl := pk_t9 _ (List.mem_of_getElem? (i := 106) rfl)
set_option maxRecDepth 100000 in
theorem pl341 : Cond.selects RJ0 yJ0_charAt_5068e yJ0_charAt_5068e ∈ lw_tbl := pk_t9 _ (List.mem_of_getElem? (i := 107) rfl)
set_option maxRecDepth 100000 in
theorem pl342 : Cond.code yX13_word cX13_word 4 (some .long) ∈ lw_tbl := pk_t9 _ (List.mem_of_getElem? (i := 94) rfl)
set_option maxRecDepth 100000 in
theorem pl343 : Cond.methodLink RX13 199 yX13_word ∈ lw_tbl := pk_t9 _ (List.mem_of_getElem? (i := 92) rfl)
set_option maxRecDepth 100000 in
theorem pl344 : Cond.static yX13_word ∈ lw_tbl := pk_t9 _ (List.mem_of_getElem? (i := 93) rfl)
set_option maxRecDepth 100000 in
theorem pl345 : Cond.methodLink RX13 9 objectInit ∈ lw_tbl := pk_t9 _ (List.mem_of_getElem? (i := 88) rfl)
set_option maxRecDepth 100000 in
theorem pl346 : Cond.instanceMethod objectInit ∈ lw_tbl := pk_t1 _ (List.mem_of_getElem? (i := 34) rfl)
set_option maxRecDepth 100000 in
theorem pl347 : Cond.code objectInit ⟨#[0xb1]⟩ 1 none ∈ lw_tbl := pk_t1 _ (List.mem_of_getElem? (i := 35) rfl)
set_option maxRecDepth 100000 in
theorem pl348 : Cond.arrayClass .long ∈ lw_tbl := pk_t1 _ (List.mem_of_getElem? (i := 63) rfl)
set_option maxRecDepth 100000 in
theorem pl349 : Cond.fieldLink RX13 18 "TongueHouseModel" "tongueName" "[J" ∈ lw_tbl := pk_t9 _ (List.mem_of_getElem? (i := 178) rfl)
set_option maxRecDepth 100000 in
theorem pl350 : Cond.fieldLink RX13 22 "TongueHouseModel" "kindName" "[J" ∈ lw_tbl := pk_t9 _ (List.mem_of_getElem? (i := 179) rfl)
set_option maxRecDepth 100000 in
theorem pl351 : Cond.fieldLink RX13 25 "TongueHouseModel" "funName" "[J" ∈ lw_tbl := pk_t9 _ (List.mem_of_getElem? (i := 180) rfl)
set_option maxRecDepth 100000 in
theorem pl352 : Cond.fieldLink RX13 28 "TongueHouseModel" "thingName" "[J" ∈ lw_tbl := pk_t9 _ (List.mem_of_getElem? (i := 181) rfl)
set_option maxRecDepth 100000 in
theorem pl353 : Cond.fieldLink RX13 31 "TongueHouseModel" "factName" "[J" ∈ lw_tbl := pk_t9 _ (List.mem_of_getElem? (i := 182) rfl)
set_option maxRecDepth 100000 in
theorem pl354 : Cond.arrayClass .int ∈ lw_tbl := pk_t1 _ (List.mem_of_getElem? (i := 168) rfl)
set_option maxRecDepth 100000 in
theorem pl355 : Cond.fieldLink RX13 34 "TongueHouseModel" "funArgs" "[I" ∈ lw_tbl := pk_t9 _ (List.mem_of_getElem? (i := 183) rfl)
set_option maxRecDepth 100000 in
theorem pl356 : Cond.fieldLink RX13 38 "TongueHouseModel" "funArg" "[I" ∈ lw_tbl := pk_t9 _ (List.mem_of_getElem? (i := 184) rfl)
set_option maxRecDepth 100000 in
theorem pl357 : Cond.fieldLink RX13 41 "TongueHouseModel" "funKind" "[I" ∈ lw_tbl := pk_t9 _ (List.mem_of_getElem? (i := 185) rfl)
set_option maxRecDepth 100000 in
theorem pl358 : Cond.fieldLink RX13 44 "TongueHouseModel" "funPrice" "[I" ∈ lw_tbl := pk_t9 _ (List.mem_of_getElem? (i := 186) rfl)
set_option maxRecDepth 100000 in
theorem pl359 : Cond.fieldLink RX13 47 "TongueHouseModel" "funMean" "[I" ∈ lw_tbl := pk_t9 _ (List.mem_of_getElem? (i := 187) rfl)
set_option maxRecDepth 100000 in
theorem pl360 : Cond.fieldLink RX13 50 "TongueHouseModel" "factA" "[I" ∈ lw_tbl := pk_t9 _ (List.mem_of_getElem? (i := 188) rfl)
set_option maxRecDepth 100000 in
theorem pl361 : Cond.fieldLink RX13 53 "TongueHouseModel" "factB" "[I" ∈ lw_tbl := pk_t9 _ (List.mem_of_getElem? (i := 189) rfl)
set_option maxRecDepth 100000 in
theorem pl362 : Cond.fieldLink RX13 77 "TongueHouseModel" "featureName" "[J" ∈ lw_tbl := pk_t9 _ (List.mem_of_getElem? (i := 197) rfl)
set_option maxRecDepth 100000 in
theorem pl363 : Cond.fieldLink RX13 80 "TongueHouseModel" "valueName" "[J" ∈ lw_tbl := pk_t9 _ (List.mem_of_getElem? (i := 198) rfl)
set_option maxRecDepth 100000 in
theorem pl364 : Cond.fieldLink RX13 83 "TongueHouseModel" "className" "[J" ∈ lw_tbl := pk_t9 _ (List.mem_of_getElem? (i := 199) rfl)
set_option maxRecDepth 100000 in
theorem pl365 : Cond.fieldLink RX13 86 "TongueHouseModel" "patternName" "[J" ∈ lw_tbl := pk_t9 _ (List.mem_of_getElem? (i := 200) rfl)
set_option maxRecDepth 100000 in
theorem pl366 : Cond.fieldLink RX13 89 "TongueHouseModel" "valueFeature" "[I" ∈ lw_tbl := pk_t9 _ (List.mem_of_getElem? (i := 201) rfl)
set_option maxRecDepth 100000 in
theorem pl367 : Cond.fieldLink RX13 92 "TongueHouseModel" "valueNumber" "[I" ∈ lw_tbl := pk_t9 _ (List.mem_of_getElem? (i := 202) rfl)
set_option maxRecDepth 100000 in
theorem pl368 : Cond.fieldLink RX13 95 "TongueHouseModel" "classLetters" "[I" ∈ lw_tbl := pk_t9 _ (List.mem_of_getElem? (i := 203) rfl)
set_option maxRecDepth 100000 in
theorem pl369 : Cond.fieldLink RX13 98 "TongueHouseModel" "soundFrom" "[I" ∈ lw_tbl := pk_t9 _ (List.mem_of_getElem? (i := 204) rfl)
set_option maxRecDepth 100000 in
theorem pl370 : Cond.fieldLink RX13 101 "TongueHouseModel" "soundTo" "[I" ∈ lw_tbl := pk_t9 _ (List.mem_of_getElem? (i := 205) rfl)
set_option maxRecDepth 100000 in
theorem pl371 : Cond.fieldLink RX13 104 "TongueHouseModel" "soundLeft" "[I" ∈ lw_tbl := pk_t9 _ (List.mem_of_getElem? (i := 206) rfl)
set_option maxRecDepth 100000 in
theorem pl372 : Cond.fieldLink RX13 107 "TongueHouseModel" "soundRight" "[I" ∈ lw_tbl := pk_t9 _ (List.mem_of_getElem? (i := 207) rfl)
set_option maxRecDepth 100000 in
theorem pl373 : Cond.fieldLink RX13 110 "TongueHouseModel" "cells" "[I" ∈ lw_tbl := pk_t9 _ (List.mem_of_getElem? (i := 208) rfl)
set_option maxRecDepth 100000 in
theorem pl374 : Cond.fieldLink RX13 113 "TongueHouseModel" "cellValues" "[I" ∈ lw_tbl := pk_t9 _ (List.mem_of_getElem? (i := 209) rfl)
set_option maxRecDepth 100000 in
theorem pl375 : Cond.fieldLink RX13 116 "TongueHouseModel" "cellParts" "[I" ∈ lw_tbl := pk_t9 _ (List.mem_of_getElem? (i := 210) rfl)
set_option maxRecDepth 100000 in
theorem pl376 : Cond.fieldLink RX13 119 "TongueHouseModel" "cellMany" "[I" ∈ lw_tbl := pk_t9 _ (List.mem_of_getElem? (i := 211) rfl)
set_option maxRecDepth 100000 in
theorem pl377 : Cond.constant RX13 122 (42000) ∈ lw_tbl := pk_t9 _ (List.mem_of_getElem? (i := 89) rfl)
set_option maxRecDepth 100000 in
theorem pl378 : Cond.fieldLink RX13 123 "TongueHouseModel" "part" "[I" ∈ lw_tbl := pk_t9 _ (List.mem_of_getElem? (i := 212) rfl)
set_option maxRecDepth 100000 in
theorem pl379 : Cond.fieldLink RX13 126 "TongueHouseModel" "wordFun" "[I" ∈ lw_tbl := pk_t9 _ (List.mem_of_getElem? (i := 214) rfl)
set_option maxRecDepth 100000 in
theorem pl380 : Cond.fieldLink RX13 129 "TongueHouseModel" "wordPattern" "[I" ∈ lw_tbl := pk_t9 _ (List.mem_of_getElem? (i := 215) rfl)
set_option maxRecDepth 100000 in
theorem pl381 : Cond.fieldLink RX13 132 "TongueHouseModel" "wordStem" "[I" ∈ lw_tbl := pk_t9 _ (List.mem_of_getElem? (i := 216) rfl)
set_option maxRecDepth 100000 in
theorem pl382 : Cond.fieldLink RX13 135 "TongueHouseModel" "wordValues" "[I" ∈ lw_tbl := pk_t9 _ (List.mem_of_getElem? (i := 217) rfl)
set_option maxRecDepth 100000 in
theorem pl383 : Cond.fieldLink RX13 138 "TongueHouseModel" "wordPrice" "[I" ∈ lw_tbl := pk_t9 _ (List.mem_of_getElem? (i := 218) rfl)
set_option maxRecDepth 100000 in
theorem pl384 : Cond.fieldLink RX13 141 "TongueHouseModel" "linFun" "[I" ∈ lw_tbl := pk_t9 _ (List.mem_of_getElem? (i := 219) rfl)
set_option maxRecDepth 100000 in
theorem pl385 : Cond.fieldLink RX13 144 "TongueHouseModel" "linItems" "[I" ∈ lw_tbl := pk_t9 _ (List.mem_of_getElem? (i := 220) rfl)
set_option maxRecDepth 100000 in
theorem pl386 : Cond.fieldLink RX13 147 "TongueHouseModel" "linItem" "[I" ∈ lw_tbl := pk_t9 _ (List.mem_of_getElem? (i := 221) rfl)
set_option maxRecDepth 100000 in
theorem pl387 : Cond.fieldLink RX13 150 "TongueHouseModel" "linAsked" "[I" ∈ lw_tbl := pk_t9 _ (List.mem_of_getElem? (i := 222) rfl)
set_option maxRecDepth 100000 in
theorem pl388 : Cond.fieldLink RX13 153 "TongueHouseModel" "linSaid" "[I" ∈ lw_tbl := pk_t9 _ (List.mem_of_getElem? (i := 223) rfl)
set_option maxRecDepth 100000 in
theorem pl389 : Cond.fieldLink RX13 156 "TongueHouseModel" "linHow" "[I" ∈ lw_tbl := pk_t9 _ (List.mem_of_getElem? (i := 224) rfl)
set_option maxRecDepth 100000 in
theorem pl390 : Cond.fieldLink RX13 159 "TongueHouseModel" "linA" "[I" ∈ lw_tbl := pk_t9 _ (List.mem_of_getElem? (i := 225) rfl)
set_option maxRecDepth 100000 in
theorem pl391 : Cond.fieldLink RX13 162 "TongueHouseModel" "linB" "[I" ∈ lw_tbl := pk_t9 _ (List.mem_of_getElem? (i := 226) rfl)
set_option maxRecDepth 100000 in
theorem pl392 : Cond.fieldLink RX13 165 "TongueHouseModel" "linF" "[I" ∈ lw_tbl := pk_t9 _ (List.mem_of_getElem? (i := 227) rfl)
set_option maxRecDepth 100000 in
theorem pl393 : Cond.fieldLink RX13 168 "TongueHouseModel" "linPrice" "[I" ∈ lw_tbl := pk_t9 _ (List.mem_of_getElem? (i := 228) rfl)
set_option maxRecDepth 100000 in
theorem pl394 : Cond.constant RX13 171 (82000) ∈ lw_tbl := pk_t9 _ (List.mem_of_getElem? (i := 90) rfl)
set_option maxRecDepth 100000 in
theorem pl395 : Cond.arrayClass .byte ∈ lw_tbl := pk_t1 _ (List.mem_of_getElem? (i := 169) rfl)
set_option maxRecDepth 100000 in
theorem pl396 : Cond.fieldLink RX13 172 "TongueHouseModel" "letter" "[B" ∈ lw_tbl := pk_t9 _ (List.mem_of_getElem? (i := 229) rfl)
set_option maxRecDepth 100000 in
theorem pl397 : Cond.fieldLink RX13 176 "TongueHouseModel" "termKind" "[I" ∈ lw_tbl := pk_t9 _ (List.mem_of_getElem? (i := 231) rfl)
set_option maxRecDepth 100000 in
theorem pl398 : Cond.fieldLink RX13 179 "TongueHouseModel" "termA" "[I" ∈ lw_tbl := pk_t9 _ (List.mem_of_getElem? (i := 232) rfl)
set_option maxRecDepth 100000 in
theorem pl399 : Cond.fieldLink RX13 182 "TongueHouseModel" "termB" "[I" ∈ lw_tbl := pk_t9 _ (List.mem_of_getElem? (i := 233) rfl)
set_option maxRecDepth 100000 in
theorem pl400 : Cond.fieldLink RX13 185 "TongueHouseModel" "termName" "[J" ∈ lw_tbl := pk_t9 _ (List.mem_of_getElem? (i := 234) rfl)
set_option maxRecDepth 100000 in
theorem pl401 : Cond.fieldLink RX13 191 "TongueHouseModel" "text" "[B" ∈ lw_tbl := pk_t9 _ (List.mem_of_getElem? (i := 237) rfl)
set_option maxRecDepth 100000 in
theorem pl402 : Cond.fieldLink RX13 194 "TongueHouseModel" "out" "[B" ∈ lw_tbl := pk_t9 _ (List.mem_of_getElem? (i := 238) rfl)
set_option maxRecDepth 100000 in
theorem pl403 : Cond.fieldLink RX13 203 "TongueHouseModel" "W_TONGUE" "J" ∈ lw_tbl := pk_t10 _ (List.mem_of_getElem? (i := 11) rfl)
set_option maxRecDepth 100000 in
theorem pl404 : Cond.fieldLink RX13 209 "TongueHouseModel" "W_KIND" "J" ∈ lw_tbl := pk_t10 _ (List.mem_of_getElem? (i := 12) rfl)
set_option maxRecDepth 100000 in
theorem pl405 : Cond.fieldLink RX13 214 "TongueHouseModel" "W_FUN" "J" ∈ lw_tbl := pk_t10 _ (List.mem_of_getElem? (i := 13) rfl)
set_option maxRecDepth 100000 in
theorem pl406 : Cond.fieldLink RX13 219 "TongueHouseModel" "W_FEATURE" "J" ∈ lw_tbl := pk_t10 _ (List.mem_of_getElem? (i := 14) rfl)
set_option maxRecDepth 100000 in
theorem pl407 : Cond.fieldLink RX13 224 "TongueHouseModel" "W_LETTERS" "J" ∈ lw_tbl := pk_t10 _ (List.mem_of_getElem? (i := 15) rfl)
set_option maxRecDepth 100000 in
theorem pl408 : Cond.fieldLink RX13 229 "TongueHouseModel" "W_SOUND" "J" ∈ lw_tbl := pk_t10 _ (List.mem_of_getElem? (i := 16) rfl)
set_option maxRecDepth 100000 in
theorem pl409 : Cond.fieldLink RX13 234 "TongueHouseModel" "W_PATTERN" "J" ∈ lw_tbl := pk_t10 _ (List.mem_of_getElem? (i := 17) rfl)
set_option maxRecDepth 100000 in
theorem pl410 : Cond.fieldLink RX13 238 "TongueHouseModel" "W_WORD" "J" ∈ lw_tbl := pk_t10 _ (List.mem_of_getElem? (i := 18) rfl)
set_option maxRecDepth 100000 in
theorem pl411 : Cond.fieldLink RX13 243 "TongueHouseModel" "W_LIN" "J" ∈ lw_tbl := pk_t10 _ (List.mem_of_getElem? (i := 19) rfl)
set_option maxRecDepth 100000 in
theorem pl412 : Cond.fieldLink RX13 248 "TongueHouseModel" "W_MEAN" "J" ∈ lw_tbl := pk_t10 _ (List.mem_of_getElem? (i := 20) rfl)
set_option maxRecDepth 100000 in
theorem pl413 : Cond.fieldLink RX13 253 "TongueHouseModel" "W_THING" "J" ∈ lw_tbl := pk_t10 _ (List.mem_of_getElem? (i := 21) rfl)
set_option maxRecDepth 100000 in
theorem pl414 : Cond.fieldLink RX13 258 "TongueHouseModel" "W_FACT" "J" ∈ lw_tbl := pk_t10 _ (List.mem_of_getElem? (i := 22) rfl)
set_option maxRecDepth 100000 in
theorem pl415 : Cond.fieldLink RX13 263 "TongueHouseModel" "W_COST" "J" ∈ lw_tbl := pk_t10 _ (List.mem_of_getElem? (i := 23) rfl)
set_option maxRecDepth 100000 in
theorem pl416 : Cond.fieldLink RX13 268 "TongueHouseModel" "W_HAS" "J" ∈ lw_tbl := pk_t10 _ (List.mem_of_getElem? (i := 24) rfl)
set_option maxRecDepth 100000 in
theorem pl417 : Cond.fieldLink RX13 273 "TongueHouseModel" "W_OF" "J" ∈ lw_tbl := pk_t10 _ (List.mem_of_getElem? (i := 25) rfl)
set_option maxRecDepth 100000 in
theorem pl418 : Cond.fieldLink RX13 278 "TongueHouseModel" "W_AGREE" "J" ∈ lw_tbl := pk_t10 _ (List.mem_of_getElem? (i := 26) rfl)
set_option maxRecDepth 100000 in
theorem pl419 : Cond.fieldLink RX13 283 "TongueHouseModel" "W_GIVE" "J" ∈ lw_tbl := pk_t10 _ (List.mem_of_getElem? (i := 27) rfl)
set_option maxRecDepth 100000 in
theorem pl420 : Cond.fieldLink RX13 289 "TongueHouseModel" "meant" "[I" ∈ lw_tbl := pk_t10 _ (List.mem_of_getElem? (i := 29) rfl)
set_option maxRecDepth 100000 in
theorem pl421 : Cond.fieldLink RX13 292 "TongueHouseModel" "four" "[I" ∈ lw_tbl := pk_t10 _ (List.mem_of_getElem? (i := 33) rfl)
set_option maxRecDepth 100000 in
theorem pl422 : Cond.fieldLink RX13 295 "TongueHouseModel" "six" "[J" ∈ lw_tbl := pk_t10 _ (List.mem_of_getElem? (i := 34) rfl)
set_option maxRecDepth 100000 in
theorem pl423 : Cond.fieldLink RX13 298 "TongueHouseModel" "sides" "[I" ∈ lw_tbl := pk_t10 _ (List.mem_of_getElem? (i := 36) rfl)
set_option maxRecDepth 100000 in
theorem pl424 : Cond.fieldLink RX13 301 "TongueHouseModel" "newValues" "[I" ∈ lw_tbl := pk_t10 _ (List.mem_of_getElem? (i := 38) rfl)
set_option maxRecDepth 100000 in
theorem pl425 : Cond.fieldLink RX13 304 "TongueHouseModel" "newParts" "[I" ∈ lw_tbl := pk_t10 _ (List.mem_of_getElem? (i := 39) rfl)
set_option maxRecDepth 100000 in
theorem pl426 : Cond.fieldLink RX13 307 "TongueHouseModel" "newMany" "[I" ∈ lw_tbl := pk_t10 _ (List.mem_of_getElem? (i := 40) rfl)
set_option maxRecDepth 100000 in
theorem pl427 : Cond.fieldLink RX13 310 "TongueHouseModel" "stems" "[I" ∈ lw_tbl := pk_t10 _ (List.mem_of_getElem? (i := 41) rfl)
set_option maxRecDepth 100000 in
theorem pl428 : Cond.fieldLink RX13 313 "TongueHouseModel" "itemIs" "[I" ∈ lw_tbl := pk_t10 _ (List.mem_of_getElem? (i := 42) rfl)
set_option maxRecDepth 100000 in
theorem pl429 : Cond.fieldLink RX13 316 "TongueHouseModel" "itemAsks" "[I" ∈ lw_tbl := pk_t10 _ (List.mem_of_getElem? (i := 43) rfl)
set_option maxRecDepth 100000 in
theorem pl430 : Cond.fieldLink RX13 319 "TongueHouseModel" "saidHow" "[I" ∈ lw_tbl := pk_t10 _ (List.mem_of_getElem? (i := 44) rfl)
set_option maxRecDepth 100000 in
theorem pl431 : Cond.fieldLink RX13 322 "TongueHouseModel" "saidA" "[I" ∈ lw_tbl := pk_t10 _ (List.mem_of_getElem? (i := 45) rfl)
set_option maxRecDepth 100000 in
theorem pl432 : Cond.fieldLink RX13 325 "TongueHouseModel" "saidB" "[I" ∈ lw_tbl := pk_t10 _ (List.mem_of_getElem? (i := 46) rfl)
set_option maxRecDepth 100000 in
theorem pl433 : Cond.fieldLink RX13 328 "TongueHouseModel" "saidF" "[I" ∈ lw_tbl := pk_t10 _ (List.mem_of_getElem? (i := 47) rfl)
set_option maxRecDepth 100000 in
theorem pl434 : Cond.fieldLink RX13 331 "TongueHouseModel" "argAt" "[I" ∈ lw_tbl := pk_t10 _ (List.mem_of_getElem? (i := 48) rfl)
set_option maxRecDepth 100000 in
theorem pl435 : Cond.fieldLink RX13 334 "TongueHouseModel" "binder" "[J" ∈ lw_tbl := pk_t10 _ (List.mem_of_getElem? (i := 52) rfl)
set_option maxRecDepth 100000 in
theorem pl436 : Cond.fieldLink RX13 337 "TongueHouseModel" "buf" "[B" ∈ lw_tbl := pk_t10 _ (List.mem_of_getElem? (i := 55) rfl)
set_option maxRecDepth 100000 in
theorem pl437 : Cond.fieldLink RX13 340 "TongueHouseModel" "made" "[B" ∈ lw_tbl := pk_t10 _ (List.mem_of_getElem? (i := 56) rfl)
set_option maxRecDepth 100000 in
theorem pl438 : Cond.fieldLink RX13 343 "TongueHouseModel" "formsOf" "I" ∈ lw_tbl := pk_t10 _ (List.mem_of_getElem? (i := 58) rfl)
set_option maxRecDepth 100000 in
theorem pl439 : Cond.fieldLink RX13 346 "TongueHouseModel" "formsAt" "I" ∈ lw_tbl := pk_t10 _ (List.mem_of_getElem? (i := 59) rfl)
set_option maxRecDepth 100000 in
theorem pl440 : Cond.constant RX13 349 (36864) ∈ lw_tbl := pk_t9 _ (List.mem_of_getElem? (i := 159) rfl)
set_option maxRecDepth 100000 in
theorem pl441 : Cond.fieldLink RX13 350 "TongueHouseModel" "formLetter" "[B" ∈ lw_tbl := pk_t10 _ (List.mem_of_getElem? (i := 60) rfl)
set_option maxRecDepth 100000 in
theorem pl442 : Cond.fieldLink RX13 353 "TongueHouseModel" "formSize" "[I" ∈ lw_tbl := pk_t10 _ (List.mem_of_getElem? (i := 61) rfl)
set_option maxRecDepth 100000 in
theorem pl443 : Cond.fieldLink RX13 356 "TongueHouseModel" "found" "[I" ∈ lw_tbl := pk_t10 _ (List.mem_of_getElem? (i := 62) rfl)
set_option maxRecDepth 100000 in
theorem pl444 : Cond.fieldLink RX13 359 "TongueHouseModel" "guessP" "[I" ∈ lw_tbl := pk_t10 _ (List.mem_of_getElem? (i := 65) rfl)
set_option maxRecDepth 100000 in
theorem pl445 : Cond.fieldLink RX13 362 "TongueHouseModel" "guessN" "[I" ∈ lw_tbl := pk_t10 _ (List.mem_of_getElem? (i := 66) rfl)
set_option maxRecDepth 100000 in
theorem pl446 : Cond.fieldLink RX13 365 "TongueHouseModel" "said" "[B" ∈ lw_tbl := pk_t10 _ (List.mem_of_getElem? (i := 70) rfl)
set_option maxRecDepth 100000 in
theorem pl447 : Cond.fieldLink RX13 368 "TongueHouseModel" "other" "[B" ∈ lw_tbl := pk_t10 _ (List.mem_of_getElem? (i := 71) rfl)
set_option maxRecDepth 100000 in
theorem pl448 : Cond.fieldLink RX13 371 "TongueHouseModel" "saidN" "[I" ∈ lw_tbl := pk_t10 _ (List.mem_of_getElem? (i := 72) rfl)
set_option maxRecDepth 100000 in
theorem pl449 : Cond.fieldLink RX13 374 "TongueHouseModel" "otherN" "[I" ∈ lw_tbl := pk_t10 _ (List.mem_of_getElem? (i := 73) rfl)
set_option maxRecDepth 100000 in
theorem pl450 : Cond.fieldLink RX13 377 "TongueHouseModel" "nKind" "[I" ∈ lw_tbl := pk_t10 _ (List.mem_of_getElem? (i := 75) rfl)
set_option maxRecDepth 100000 in
theorem pl451 : Cond.fieldLink RX13 380 "TongueHouseModel" "nTo" "[I" ∈ lw_tbl := pk_t10 _ (List.mem_of_getElem? (i := 76) rfl)
set_option maxRecDepth 100000 in
theorem pl452 : Cond.fieldLink RX13 383 "TongueHouseModel" "nValues" "[I" ∈ lw_tbl := pk_t10 _ (List.mem_of_getElem? (i := 77) rfl)
set_option maxRecDepth 100000 in
theorem pl453 : Cond.fieldLink RX13 386 "TongueHouseModel" "nNext" "[I" ∈ lw_tbl := pk_t10 _ (List.mem_of_getElem? (i := 78) rfl)
set_option maxRecDepth 100000 in
theorem pl454 : Cond.fieldLink RX13 389 "TongueHouseModel" "nAt" "[I" ∈ lw_tbl := pk_t10 _ (List.mem_of_getElem? (i := 79) rfl)
set_option maxRecDepth 100000 in
theorem pl455 : Cond.fieldLink RX13 392 "TongueHouseModel" "nMany" "[I" ∈ lw_tbl := pk_t10 _ (List.mem_of_getElem? (i := 80) rfl)
set_option maxRecDepth 100000 in
theorem pl456 : Cond.fieldLink RX13 395 "TongueHouseModel" "span" "[I" ∈ lw_tbl := pk_t10 _ (List.mem_of_getElem? (i := 81) rfl)
set_option maxRecDepth 100000 in
theorem pl457 : Cond.fieldLink RX13 398 "TongueHouseModel" "yNode" "[I" ∈ lw_tbl := pk_t10 _ (List.mem_of_getElem? (i := 82) rfl)
set_option maxRecDepth 100000 in
theorem pl458 : Cond.fieldLink RX13 401 "TongueHouseModel" "yA" "[I" ∈ lw_tbl := pk_t10 _ (List.mem_of_getElem? (i := 83) rfl)
set_option maxRecDepth 100000 in
theorem pl459 : Cond.fieldLink RX13 404 "TongueHouseModel" "yB" "[I" ∈ lw_tbl := pk_t10 _ (List.mem_of_getElem? (i := 84) rfl)
set_option maxRecDepth 100000 in
theorem pl460 : Cond.fieldLink RX13 407 "TongueHouseModel" "yLin" "[I" ∈ lw_tbl := pk_t10 _ (List.mem_of_getElem? (i := 85) rfl)
set_option maxRecDepth 100000 in
theorem pl461 : Cond.constant RX13 410 (36000) ∈ lw_tbl := pk_t9 _ (List.mem_of_getElem? (i := 160) rfl)
set_option maxRecDepth 100000 in
theorem pl462 : Cond.fieldLink RX13 411 "TongueHouseModel" "yArg" "[I" ∈ lw_tbl := pk_t10 _ (List.mem_of_getElem? (i := 86) rfl)
set_option maxRecDepth 100000 in
theorem pl463 : Cond.fieldLink RX13 414 "TongueHouseModel" "yOrder" "[I" ∈ lw_tbl := pk_t10 _ (List.mem_of_getElem? (i := 87) rfl)
set_option maxRecDepth 100000 in
theorem pl464 : Cond.fieldLink RX13 417 "TongueHouseModel" "eff" "[I" ∈ lw_tbl := pk_t10 _ (List.mem_of_getElem? (i := 93) rfl)
set_option maxRecDepth 100000 in
theorem pl465 : Cond.fieldLink RX13 420 "TongueHouseModel" "fin" "[I" ∈ lw_tbl := pk_t10 _ (List.mem_of_getElem? (i := 94) rfl)
set_option maxRecDepth 100000 in
theorem pl466 : Cond.fieldLink RX13 423 "TongueHouseModel" "argNode" "[I" ∈ lw_tbl := pk_t10 _ (List.mem_of_getElem? (i := 95) rfl)
set_option maxRecDepth 100000 in
theorem pl467 : Cond.fieldLink RX13 426 "TongueHouseModel" "itemNode" "[I" ∈ lw_tbl := pk_t10 _ (List.mem_of_getElem? (i := 96) rfl)
set_option maxRecDepth 100000 in
theorem pl468 : Cond.fieldLink RX13 429 "TongueHouseModel" "nTrees" "[J" ∈ lw_tbl := pk_t10 _ (List.mem_of_getElem? (i := 102) rfl)
set_option maxRecDepth 100000 in
theorem pl469 : Cond.fieldLink RX13 432 "TongueHouseModel" "topN" "[I" ∈ lw_tbl := pk_t10 _ (List.mem_of_getElem? (i := 103) rfl)
set_option maxRecDepth 100000 in
theorem pl470 : Cond.constant RX13 435 (48000) ∈ lw_tbl := pk_t9 _ (List.mem_of_getElem? (i := 161) rfl)
set_option maxRecDepth 100000 in
theorem pl471 : Cond.fieldLink RX13 436 "TongueHouseModel" "topPrice" "[I" ∈ lw_tbl := pk_t10 _ (List.mem_of_getElem? (i := 104) rfl)
set_option maxRecDepth 100000 in
theorem pl472 : Cond.fieldLink RX13 439 "TongueHouseModel" "topWay" "[I" ∈ lw_tbl := pk_t10 _ (List.mem_of_getElem? (i := 105) rfl)
set_option maxRecDepth 100000 in
theorem pl473 : Cond.fieldLink RX13 442 "TongueHouseModel" "topRanks" "[I" ∈ lw_tbl := pk_t10 _ (List.mem_of_getElem? (i := 106) rfl)
set_option maxRecDepth 100000 in
theorem pl474 : Cond.arrayClass .boolean ∈ lw_tbl := pk_t2 _ (List.mem_of_getElem? (i := 209) rfl)
set_option maxRecDepth 100000 in
theorem pl475 : Cond.fieldLink RX13 445 "TongueHouseModel" "barred" "[Z" ∈ lw_tbl := pk_t10 _ (List.mem_of_getElem? (i := 107) rfl)
set_option maxRecDepth 100000 in
theorem pl476 : Cond.fieldLink RX13 449 "TongueHouseModel" "forest" "I" ∈ lw_tbl := pk_t10 _ (List.mem_of_getElem? (i := 108) rfl)
set_option maxRecDepth 100000 in
theorem pl477 : Cond.fieldLink RX13 452 "TongueHouseModel" "readNode" "[I" ∈ lw_tbl := pk_t10 _ (List.mem_of_getElem? (i := 112) rfl)
set_option maxRecDepth 100000 in
theorem pl478 : Cond.fieldLink RX13 455 "TongueHouseModel" "readRank" "[I" ∈ lw_tbl := pk_t10 _ (List.mem_of_getElem? (i := 113) rfl)
set_option maxRecDepth 100000 in
theorem pl479 : Cond.fieldLink RX13 458 "TongueHouseModel" "readPrice" "[I" ∈ lw_tbl := pk_t10 _ (List.mem_of_getElem? (i := 114) rfl)
set_option maxRecDepth 100000 in
theorem pl480 : Cond.fieldLink RX13 461 "TongueHouseModel" "tree" "[I" ∈ lw_tbl := pk_t10 _ (List.mem_of_getElem? (i := 116) rfl)
set_option maxRecDepth 100000 in
theorem pl481 : Cond.fieldLink RX13 464 "TongueHouseModel" "placeFun" "[I" ∈ lw_tbl := pk_t10 _ (List.mem_of_getElem? (i := 118) rfl)
set_option maxRecDepth 100000 in
theorem pl482 : Cond.constant RX13 470 (288000) ∈ lw_tbl := pk_t9 _ (List.mem_of_getElem? (i := 162) rfl)
set_option maxRecDepth 100000 in
theorem pl483 : Cond.fieldLink RX13 471 "TongueHouseModel" "optText" "[B" ∈ lw_tbl := pk_t10 _ (List.mem_of_getElem? (i := 120) rfl)
set_option maxRecDepth 100000 in
theorem pl484 : Cond.fieldLink RX13 474 "TongueHouseModel" "optSize" "[I" ∈ lw_tbl := pk_t10 _ (List.mem_of_getElem? (i := 121) rfl)
set_option maxRecDepth 100000 in
theorem pl485 : Cond.fieldLink RX13 477 "TongueHouseModel" "optValues" "[I" ∈ lw_tbl := pk_t10 _ (List.mem_of_getElem? (i := 122) rfl)
set_option maxRecDepth 100000 in
theorem pl486 : Cond.fieldLink RX13 480 "TongueHouseModel" "optPrice" "[I" ∈ lw_tbl := pk_t10 _ (List.mem_of_getElem? (i := 123) rfl)
set_option maxRecDepth 100000 in
theorem pl487 : Cond.fieldLink RX13 483 "TongueHouseModel" "optOrder" "[I" ∈ lw_tbl := pk_t10 _ (List.mem_of_getElem? (i := 124) rfl)
set_option maxRecDepth 100000 in
theorem pl488 : Cond.fieldLink RX13 486 "TongueHouseModel" "optN" "[I" ∈ lw_tbl := pk_t10 _ (List.mem_of_getElem? (i := 125) rfl)
set_option maxRecDepth 100000 in
theorem pl489 : Cond.fieldLink RX13 489 "TongueHouseModel" "argTree" "[I" ∈ lw_tbl := pk_t10 _ (List.mem_of_getElem? (i := 126) rfl)
set_option maxRecDepth 100000 in
theorem pl490 : Cond.fieldLink RX13 492 "TongueHouseModel" "picked" "[I" ∈ lw_tbl := pk_t10 _ (List.mem_of_getElem? (i := 127) rfl)
set_option maxRecDepth 100000 in
theorem pl491 : Cond.fieldLink RX13 495 "TongueHouseModel" "candidate" "[B" ∈ lw_tbl := pk_t10 _ (List.mem_of_getElem? (i := 128) rfl)
set_option maxRecDepth 100000 in
theorem pl492 : Cond.fieldLink RX13 498 "TongueHouseModel" "candidateN" "[I" ∈ lw_tbl := pk_t10 _ (List.mem_of_getElem? (i := 129) rfl)
set_option maxRecDepth 100000 in
theorem pl493 : Cond.constant RX13 501 (57600) ∈ lw_tbl := pk_t9 _ (List.mem_of_getElem? (i := 163) rfl)
set_option maxRecDepth 100000 in
theorem pl494 : Cond.fieldLink RX13 502 "TongueHouseModel" "kept" "[B" ∈ lw_tbl := pk_t10 _ (List.mem_of_getElem? (i := 131) rfl)
set_option maxRecDepth 100000 in
theorem pl495 : Cond.fieldLink RX13 505 "TongueHouseModel" "keptN" "[I" ∈ lw_tbl := pk_t10 _ (List.mem_of_getElem? (i := 132) rfl)
set_option maxRecDepth 100000 in
theorem pl496 : Cond.fieldLink RX13 508 "TongueHouseModel" "keptTongue" "[I" ∈ lw_tbl := pk_t10 _ (List.mem_of_getElem? (i := 133) rfl)
set_option maxRecDepth 100000 in
theorem pl497 : Cond.fieldLink RX13 511 "TongueHouseModel" "keptSize" "[I" ∈ lw_tbl := pk_t10 _ (List.mem_of_getElem? (i := 134) rfl)
set_option maxRecDepth 100000 in
theorem pl498 : Cond.fieldLink RX13 514 "TongueHouseModel" "asked" "[I" ∈ lw_tbl := pk_t10 _ (List.mem_of_getElem? (i := 136) rfl)
set_option maxRecDepth 100000 in
theorem pl499 : Cond.fieldLink RX13 517 "TongueHouseModel" "askedN" "[I" ∈ lw_tbl := pk_t10 _ (List.mem_of_getElem? (i := 137) rfl)
set_option maxRecDepth 100000 in
theorem pl500 : Cond.fieldLink RX13 520 "TongueHouseModel" "hitAt" "[I" ∈ lw_tbl := pk_t10 _ (List.mem_of_getElem? (i := 138) rfl)
set_option maxRecDepth 100000 in
theorem pl501 : Cond.fieldLink RX13 523 "TongueHouseModel" "hitWord" "[I" ∈ lw_tbl := pk_t10 _ (List.mem_of_getElem? (i := 139) rfl)
set_option maxRecDepth 100000 in
theorem pl502 : Cond.fieldLink RX13 526 "TongueHouseModel" "hKind" "[I" ∈ lw_tbl := pk_t10 _ (List.mem_of_getElem? (i := 141) rfl)
set_option maxRecDepth 100000 in
theorem pl503 : Cond.fieldLink RX13 529 "TongueHouseModel" "hA" "[I" ∈ lw_tbl := pk_t10 _ (List.mem_of_getElem? (i := 142) rfl)
set_option maxRecDepth 100000 in
theorem pl504 : Cond.fieldLink RX13 532 "TongueHouseModel" "hB" "[I" ∈ lw_tbl := pk_t10 _ (List.mem_of_getElem? (i := 143) rfl)
set_option maxRecDepth 100000 in
theorem pl505 : Cond.fieldLink RX13 535 "TongueHouseModel" "hName" "[J" ∈ lw_tbl := pk_t10 _ (List.mem_of_getElem? (i := 144) rfl)
set_option maxRecDepth 100000 in
theorem pl506 : Cond.fieldLink RX13 538 "TongueHouseModel" "bound" "[I" ∈ lw_tbl := pk_t10 _ (List.mem_of_getElem? (i := 148) rfl)
set_option maxRecDepth 100000 in
theorem pl507 : Cond.fieldLink RX13 543 "TongueHouseModel" "W_AND" "J" ∈ lw_tbl := pk_t10 _ (List.mem_of_getElem? (i := 151) rfl)
set_option maxRecDepth 100000 in
theorem pl508 : Cond.fieldLink RX13 548 "TongueHouseModel" "W_OR" "J" ∈ lw_tbl := pk_t10 _ (List.mem_of_getElem? (i := 152) rfl)
set_option maxRecDepth 100000 in
theorem pl509 : Cond.fieldLink RX13 553 "TongueHouseModel" "W_IF" "J" ∈ lw_tbl := pk_t10 _ (List.mem_of_getElem? (i := 153) rfl)
set_option maxRecDepth 100000 in
theorem pl510 : Cond.fieldLink RX13 558 "TongueHouseModel" "W_NOT" "J" ∈ lw_tbl := pk_t10 _ (List.mem_of_getElem? (i := 154) rfl)
set_option maxRecDepth 100000 in
theorem pl511 : Cond.fieldLink RX13 563 "TongueHouseModel" "W_ALL" "J" ∈ lw_tbl := pk_t10 _ (List.mem_of_getElem? (i := 155) rfl)
set_option maxRecDepth 100000 in
theorem pl512 : Cond.fieldLink RX13 568 "TongueHouseModel" "W_SOME" "J" ∈ lw_tbl := pk_t10 _ (List.mem_of_getElem? (i := 156) rfl)
set_option maxRecDepth 100000 in
theorem pl513 : Cond.fieldLink RX13 573 "TongueHouseModel" "W_IS" "J" ∈ lw_tbl := pk_t10 _ (List.mem_of_getElem? (i := 157) rfl)
set_option maxRecDepth 100000 in
theorem pl514 : Cond.classLink RL 8 RX12 ∈ lw_tbl := pk_t1 _ (List.mem_of_getElem? (i := 28) rfl)
set_option maxRecDepth 100000 in
theorem pl515 : Cond.instantiable RX12 17 ∈ lw_tbl := pk_t1 _ (List.mem_of_getElem? (i := 29) rfl)
set_option maxRecDepth 100000 in
theorem pl516 : Cond.classLink RL 92 RX13 ∈ lw_tbl := pk_t9 _ (List.mem_of_getElem? (i := 83) rfl)
set_option maxRecDepth 100000 in
theorem pl517 : Cond.instantiable RX13 229 ∈ lw_tbl := pk_t9 _ (List.mem_of_getElem? (i := 84) rfl)
set_option maxRecDepth 100000 in
theorem pl518 : Cond.methodLink RL 94 yX13_init ∈ lw_tbl := pk_t9 _ (List.mem_of_getElem? (i := 85) rfl)
set_option maxRecDepth 100000 in
theorem pl519 : Cond.instanceMethod yX13_init ∈ lw_tbl := pk_t9 _ (List.mem_of_getElem? (i := 86) rfl)
set_option maxRecDepth 100000 in
theorem pl520 : Cond.code yX13_init cX13_init 2 none ∈ lw_tbl := pk_t9 _ (List.mem_of_getElem? (i := 87) rfl)
set_option maxRecDepth 100000 in
theorem pl521 : Cond.codeWith yL_feed cL_feed 8 (some .int) [(0, 16, 19, 13)] ∈ lw_tbl := pk_t6 _ (List.mem_of_getElem? (i := 102) rfl)
set_option maxRecDepth 100000 in
theorem pl522 : Cond.methodLink RL 95 yL_feed ∈ lw_tbl := pk_t6 _ (List.mem_of_getElem? (i := 100) rfl)
set_option maxRecDepth 100000 in
theorem pl523 : Cond.static yL_feed ∈ lw_tbl := pk_t6 _ (List.mem_of_getElem? (i := 101) rfl)
set_option maxRecDepth 100000 in
theorem pl524 : Cond.initialized RL ∈ lw_tbl := pk_t1 _ (List.mem_of_getElem? (i := 0) rfl)
set_option maxRecDepth 100000 in
theorem pl525 : Cond.code yX13_feed cX13_feed 6 (some .int) ∈ lw_tbl := pk_t12 _ (List.mem_of_getElem? (i := 140) rfl)
set_option maxRecDepth 100000 in
theorem pl526 : Cond.methodLink RL 100 yX13_feed ∈ lw_tbl := pk_t12 _ (List.mem_of_getElem? (i := 137) rfl)
set_option maxRecDepth 100000 in
theorem pl527 : Cond.instanceMethod yX13_feed ∈ lw_tbl := pk_t12 _ (List.mem_of_getElem? (i := 138) rfl)
set_option maxRecDepth 100000 in
theorem pl528 : Cond.selects RX13 yX13_feed yX13_feed ∈ lw_tbl := pk_t12 _ (List.mem_of_getElem? (i := 139) rfl)
set_option maxRecDepth 100000 in
theorem pl529 : Cond.code yX13_thrown cX13_thrown 1 (some .int) ∈ lw_tbl := pk_t9 _ (List.mem_of_getElem? (i := 82) rfl)
set_option maxRecDepth 100000 in
theorem pl530 : Cond.methodLink RL 101 yX13_thrown ∈ lw_tbl := pk_t9 _ (List.mem_of_getElem? (i := 79) rfl)
set_option maxRecDepth 100000 in
theorem pl531 : Cond.instanceMethod yX13_thrown ∈ lw_tbl := pk_t9 _ (List.mem_of_getElem? (i := 80) rfl)
set_option maxRecDepth 100000 in
theorem pl532 : Cond.selects RX13 yX13_thrown yX13_thrown ∈ lw_tbl := pk_t9 _ (List.mem_of_getElem? (i := 81) rfl)
set_option maxRecDepth 100000 in
theorem pl533 : Cond.codeWith yL_end cL_end 4 (some .int) [(0, 9, 12, 19)] ∈ lw_tbl := pk_t6 _ (List.mem_of_getElem? (i := 180) rfl)
set_option maxRecDepth 100000 in
theorem pl534 : Cond.methodLink RL 105 yL_end ∈ lw_tbl := pk_t6 _ (List.mem_of_getElem? (i := 178) rfl)
set_option maxRecDepth 100000 in
theorem pl535 : Cond.static yL_end ∈ lw_tbl := pk_t6 _ (List.mem_of_getElem? (i := 179) rfl)
set_option maxRecDepth 100000 in
theorem pl536 : Cond.code yX13_end cX13_end 2 (some .int) ∈ lw_tbl := pk_t12 _ (List.mem_of_getElem? (i := 152) rfl)
set_option maxRecDepth 100000 in
theorem pl537 : Cond.methodLink RL 108 yX13_end ∈ lw_tbl := pk_t12 _ (List.mem_of_getElem? (i := 149) rfl)
set_option maxRecDepth 100000 in
theorem pl538 : Cond.instanceMethod yX13_end ∈ lw_tbl := pk_t12 _ (List.mem_of_getElem? (i := 150) rfl)
set_option maxRecDepth 100000 in
theorem pl539 : Cond.selects RX13 yX13_end yX13_end ∈ lw_tbl := pk_t12 _ (List.mem_of_getElem? (i := 151) rfl)
set_option maxRecDepth 100000 in
theorem pl540 : Cond.code yX12_module cX12_module 2 (some .int) ∈ lw_tbl := pk_t3 _ (List.mem_of_getElem? (i := 210) rfl)
set_option maxRecDepth 100000 in
theorem pl541 : Cond.methodLink RL 109 yX12_module ∈ lw_tbl := pk_t3 _ (List.mem_of_getElem? (i := 207) rfl)
set_option maxRecDepth 100000 in
theorem pl542 : Cond.instanceMethod yX12_module ∈ lw_tbl := pk_t3 _ (List.mem_of_getElem? (i := 208) rfl)
set_option maxRecDepth 100000 in
theorem pl543 : Cond.selects RX12 yX12_module yX12_module ∈ lw_tbl := pk_t3 _ (List.mem_of_getElem? (i := 209) rfl)
set_option maxRecDepth 100000 in
theorem pl544 : Cond.code yX13_module cX13_module 2 (some .int) ∈ lw_tbl := pk_t12 _ (List.mem_of_getElem? (i := 160) rfl)
set_option maxRecDepth 100000 in
theorem pl545 : Cond.methodLink RL 112 yX13_module ∈ lw_tbl := pk_t12 _ (List.mem_of_getElem? (i := 157) rfl)
set_option maxRecDepth 100000 in
theorem pl546 : Cond.instanceMethod yX13_module ∈ lw_tbl := pk_t12 _ (List.mem_of_getElem? (i := 158) rfl)
set_option maxRecDepth 100000 in
theorem pl547 : Cond.selects RX13 yX13_module yX13_module ∈ lw_tbl := pk_t12 _ (List.mem_of_getElem? (i := 159) rfl)
set_option maxRecDepth 100000 in
theorem pl548 : Cond.code yX12_rule cX12_rule 1 (some .int) ∈ lw_tbl := pk_t5 _ (List.mem_of_getElem? (i := 237) rfl)
set_option maxRecDepth 100000 in
theorem pl549 : Cond.methodLink RL 113 yX12_rule ∈ lw_tbl := pk_t5 _ (List.mem_of_getElem? (i := 234) rfl)
set_option maxRecDepth 100000 in
theorem pl550 : Cond.instanceMethod yX12_rule ∈ lw_tbl := pk_t5 _ (List.mem_of_getElem? (i := 235) rfl)
set_option maxRecDepth 100000 in
theorem pl551 : Cond.selects RX12 yX12_rule yX12_rule ∈ lw_tbl := pk_t5 _ (List.mem_of_getElem? (i := 236) rfl)
set_option maxRecDepth 100000 in
theorem pl552 : Cond.code yX13_rule cX13_rule 1 (some .int) ∈ lw_tbl := pk_t13 _ (List.mem_of_getElem? (i := 153) rfl)
set_option maxRecDepth 100000 in
theorem pl553 : Cond.methodLink RL 116 yX13_rule ∈ lw_tbl := pk_t13 _ (List.mem_of_getElem? (i := 150) rfl)
set_option maxRecDepth 100000 in
theorem pl554 : Cond.instanceMethod yX13_rule ∈ lw_tbl := pk_t13 _ (List.mem_of_getElem? (i := 151) rfl)
set_option maxRecDepth 100000 in
theorem pl555 : Cond.selects RX13 yX13_rule yX13_rule ∈ lw_tbl := pk_t13 _ (List.mem_of_getElem? (i := 152) rfl)
set_option maxRecDepth 100000 in
theorem pl556 : Cond.code yX12_out cX12_out 2 (some .int) ∈ lw_tbl := pk_t6 _ (List.mem_of_getElem? (i := 1) rfl)
set_option maxRecDepth 100000 in
theorem pl557 : Cond.methodLink RL 117 yX12_out ∈ lw_tbl := pk_t5 _ (List.mem_of_getElem? (i := 238) rfl)
set_option maxRecDepth 100000 in
theorem pl558 : Cond.instanceMethod yX12_out ∈ lw_tbl := pk_t5 _ (List.mem_of_getElem? (i := 239) rfl)
set_option maxRecDepth 100000 in
theorem pl559 : Cond.selects RX12 yX12_out yX12_out ∈ lw_tbl := pk_t6 _ (List.mem_of_getElem? (i := 0) rfl)
set_option maxRecDepth 100000 in
theorem pl560 : Cond.code yX13_out cX13_out 2 (some .int) ∈ lw_tbl := pk_t12 _ (List.mem_of_getElem? (i := 156) rfl)
set_option maxRecDepth 100000 in
theorem pl561 : Cond.methodLink RL 120 yX13_out ∈ lw_tbl := pk_t12 _ (List.mem_of_getElem? (i := 153) rfl)
set_option maxRecDepth 100000 in
theorem pl562 : Cond.instanceMethod yX13_out ∈ lw_tbl := pk_t12 _ (List.mem_of_getElem? (i := 154) rfl)
set_option maxRecDepth 100000 in
theorem pl563 : Cond.selects RX13 yX13_out yX13_out ∈ lw_tbl := pk_t12 _ (List.mem_of_getElem? (i := 155) rfl)
set_option maxRecDepth 100000 in
theorem pl564 : Cond.codeWith yL_number cL_number 5 (some .int) [(0, 10, 13, 19)] ∈ lw_tbl := pk_t6 _ (List.mem_of_getElem? (i := 204) rfl)
set_option maxRecDepth 100000 in
theorem pl565 : Cond.methodLink RL 121 yL_number ∈ lw_tbl := pk_t6 _ (List.mem_of_getElem? (i := 202) rfl)
set_option maxRecDepth 100000 in
theorem pl566 : Cond.static yL_number ∈ lw_tbl := pk_t6 _ (List.mem_of_getElem? (i := 203) rfl)
set_option maxRecDepth 100000 in
theorem pl567 : Cond.code yX13_number cX13_number 5 (some .int) ∈ lw_tbl := pk_t14 _ (List.mem_of_getElem? (i := 2) rfl)
set_option maxRecDepth 100000 in
theorem pl568 : Cond.methodLink RL 124 yX13_number ∈ lw_tbl := pk_t13 _ (List.mem_of_getElem? (i := 239) rfl)
set_option maxRecDepth 100000 in
theorem pl569 : Cond.instanceMethod yX13_number ∈ lw_tbl := pk_t14 _ (List.mem_of_getElem? (i := 0) rfl)
set_option maxRecDepth 100000 in
theorem pl570 : Cond.selects RX13 yX13_number yX13_number ∈ lw_tbl := pk_t14 _ (List.mem_of_getElem? (i := 1) rfl)
set_option maxRecDepth 100000 in
theorem pl571 : Cond.codeWith yL_sounds cL_sounds 4 (some .int) [(0, 9, 12, 19)] ∈ lw_tbl := pk_t6 _ (List.mem_of_getElem? (i := 227) rfl)
set_option maxRecDepth 100000 in
theorem pl572 : Cond.methodLink RL 125 yL_sounds ∈ lw_tbl := pk_t6 _ (List.mem_of_getElem? (i := 225) rfl)
set_option maxRecDepth 100000 in
theorem pl573 : Cond.static yL_sounds ∈ lw_tbl := pk_t6 _ (List.mem_of_getElem? (i := 226) rfl)
set_option maxRecDepth 100000 in
theorem pl574 : Cond.code yX13_sounds cX13_sounds 3 (some .int) ∈ lw_tbl := pk_t13 _ (List.mem_of_getElem? (i := 157) rfl)
set_option maxRecDepth 100000 in
theorem pl575 : Cond.methodLink RL 127 yX13_sounds ∈ lw_tbl := pk_t13 _ (List.mem_of_getElem? (i := 154) rfl)
set_option maxRecDepth 100000 in
theorem pl576 : Cond.instanceMethod yX13_sounds ∈ lw_tbl := pk_t13 _ (List.mem_of_getElem? (i := 155) rfl)
set_option maxRecDepth 100000 in
theorem pl577 : Cond.selects RX13 yX13_sounds yX13_sounds ∈ lw_tbl := pk_t13 _ (List.mem_of_getElem? (i := 156) rfl)
set_option maxRecDepth 100000 in
theorem pl578 : Cond.codeWith yL_analyse cL_analyse 4 (some .int) [(0, 9, 12, 19)] ∈ lw_tbl := pk_t7 _ (List.mem_of_getElem? (i := 23) rfl)
set_option maxRecDepth 100000 in
theorem pl579 : Cond.methodLink RL 128 yL_analyse ∈ lw_tbl := pk_t7 _ (List.mem_of_getElem? (i := 21) rfl)
set_option maxRecDepth 100000 in
theorem pl580 : Cond.static yL_analyse ∈ lw_tbl := pk_t7 _ (List.mem_of_getElem? (i := 22) rfl)
set_option maxRecDepth 100000 in
theorem pl581 : Cond.code yX13_analyse cX13_analyse 5 (some .int) ∈ lw_tbl := pk_t13 _ (List.mem_of_getElem? (i := 197) rfl)
set_option maxRecDepth 100000 in
theorem pl582 : Cond.methodLink RL 130 yX13_analyse ∈ lw_tbl := pk_t13 _ (List.mem_of_getElem? (i := 194) rfl)
set_option maxRecDepth 100000 in
theorem pl583 : Cond.instanceMethod yX13_analyse ∈ lw_tbl := pk_t13 _ (List.mem_of_getElem? (i := 195) rfl)
set_option maxRecDepth 100000 in
theorem pl584 : Cond.selects RX13 yX13_analyse yX13_analyse ∈ lw_tbl := pk_t13 _ (List.mem_of_getElem? (i := 196) rfl)
set_option maxRecDepth 100000 in
theorem pl585 : Cond.codeWith yL_analysis cL_analysis 5 (some .int) [(0, 10, 13, 19)] ∈ lw_tbl := pk_t7 _ (List.mem_of_getElem? (i := 64) rfl)
set_option maxRecDepth 100000 in
theorem pl586 : Cond.methodLink RL 131 yL_analysis ∈ lw_tbl := pk_t7 _ (List.mem_of_getElem? (i := 62) rfl)
set_option maxRecDepth 100000 in
theorem pl587 : Cond.static yL_analysis ∈ lw_tbl := pk_t7 _ (List.mem_of_getElem? (i := 63) rfl)
set_option maxRecDepth 100000 in
theorem pl588 : Cond.code yX13_analysis cX13_analysis 6 (some .int) ∈ lw_tbl := pk_t13 _ (List.mem_of_getElem? (i := 217) rfl)
set_option maxRecDepth 100000 in
theorem pl589 : Cond.methodLink RL 133 yX13_analysis ∈ lw_tbl := pk_t13 _ (List.mem_of_getElem? (i := 214) rfl)
set_option maxRecDepth 100000 in
theorem pl590 : Cond.instanceMethod yX13_analysis ∈ lw_tbl := pk_t13 _ (List.mem_of_getElem? (i := 215) rfl)
set_option maxRecDepth 100000 in
theorem pl591 : Cond.selects RX13 yX13_analysis yX13_analysis ∈ lw_tbl := pk_t13 _ (List.mem_of_getElem? (i := 216) rfl)
set_option maxRecDepth 100000 in
theorem pl592 : Cond.codeWith yL_cell cL_cell 6 (some .int) [(0, 12, 15, 19)] ∈ lw_tbl := pk_t7 _ (List.mem_of_getElem? (i := 82) rfl)
set_option maxRecDepth 100000 in
theorem pl593 : Cond.methodLink RL 134 yL_cell ∈ lw_tbl := pk_t7 _ (List.mem_of_getElem? (i := 80) rfl)
set_option maxRecDepth 100000 in
theorem pl594 : Cond.static yL_cell ∈ lw_tbl := pk_t7 _ (List.mem_of_getElem? (i := 81) rfl)
set_option maxRecDepth 100000 in
theorem pl595 : Cond.code yX13_cell cX13_cell 5 (some .int) ∈ lw_tbl := pk_t13 _ (List.mem_of_getElem? (i := 225) rfl)
set_option maxRecDepth 100000 in
theorem pl596 : Cond.methodLink RL 137 yX13_cell ∈ lw_tbl := pk_t13 _ (List.mem_of_getElem? (i := 222) rfl)
set_option maxRecDepth 100000 in
theorem pl597 : Cond.instanceMethod yX13_cell ∈ lw_tbl := pk_t13 _ (List.mem_of_getElem? (i := 223) rfl)
set_option maxRecDepth 100000 in
theorem pl598 : Cond.selects RX13 yX13_cell yX13_cell ∈ lw_tbl := pk_t13 _ (List.mem_of_getElem? (i := 224) rfl)
set_option maxRecDepth 100000 in
theorem pl599 : Cond.codeWith yL_guess cL_guess 4 (some .int) [(0, 9, 12, 19)] ∈ lw_tbl := pk_t7 _ (List.mem_of_getElem? (i := 92) rfl)
set_option maxRecDepth 100000 in
theorem pl600 : Cond.methodLink RL 138 yL_guess ∈ lw_tbl := pk_t7 _ (List.mem_of_getElem? (i := 90) rfl)
set_option maxRecDepth 100000 in
theorem pl601 : Cond.static yL_guess ∈ lw_tbl := pk_t7 _ (List.mem_of_getElem? (i := 91) rfl)
set_option maxRecDepth 100000 in
theorem pl602 : Cond.code yX13_guess cX13_guess 8 (some .int) ∈ lw_tbl := pk_t13 _ (List.mem_of_getElem? (i := 229) rfl)
set_option maxRecDepth 100000 in
theorem pl603 : Cond.methodLink RL 140 yX13_guess ∈ lw_tbl := pk_t13 _ (List.mem_of_getElem? (i := 226) rfl)
set_option maxRecDepth 100000 in
theorem pl604 : Cond.instanceMethod yX13_guess ∈ lw_tbl := pk_t13 _ (List.mem_of_getElem? (i := 227) rfl)
set_option maxRecDepth 100000 in
theorem pl605 : Cond.selects RX13 yX13_guess yX13_guess ∈ lw_tbl := pk_t13 _ (List.mem_of_getElem? (i := 228) rfl)
set_option maxRecDepth 100000 in
theorem pl606 : Cond.codeWith yL_guessed cL_guessed 5 (some .int) [(0, 10, 13, 19)] ∈ lw_tbl := pk_t7 _ (List.mem_of_getElem? (i := 112) rfl)
set_option maxRecDepth 100000 in
theorem pl607 : Cond.methodLink RL 141 yL_guessed ∈ lw_tbl := pk_t7 _ (List.mem_of_getElem? (i := 110) rfl)
set_option maxRecDepth 100000 in
theorem pl608 : Cond.static yL_guessed ∈ lw_tbl := pk_t7 _ (List.mem_of_getElem? (i := 111) rfl)
set_option maxRecDepth 100000 in
theorem pl609 : Cond.code yX13_guessed cX13_guessed 3 (some .int) ∈ lw_tbl := pk_t13 _ (List.mem_of_getElem? (i := 238) rfl)
set_option maxRecDepth 100000 in
theorem pl610 : Cond.methodLink RL 143 yX13_guessed ∈ lw_tbl := pk_t13 _ (List.mem_of_getElem? (i := 235) rfl)
set_option maxRecDepth 100000 in
theorem pl611 : Cond.instanceMethod yX13_guessed ∈ lw_tbl := pk_t13 _ (List.mem_of_getElem? (i := 236) rfl)
set_option maxRecDepth 100000 in
theorem pl612 : Cond.selects RX13 yX13_guessed yX13_guessed ∈ lw_tbl := pk_t13 _ (List.mem_of_getElem? (i := 237) rfl)
set_option maxRecDepth 100000 in
theorem pl613 : Cond.codeWith yL_parse cL_parse 5 (some .int) [(0, 10, 13, 19)] ∈ lw_tbl := pk_t7 _ (List.mem_of_getElem? (i := 123) rfl)
set_option maxRecDepth 100000 in
theorem pl614 : Cond.methodLink RL 144 yL_parse ∈ lw_tbl := pk_t7 _ (List.mem_of_getElem? (i := 121) rfl)
set_option maxRecDepth 100000 in
theorem pl615 : Cond.static yL_parse ∈ lw_tbl := pk_t7 _ (List.mem_of_getElem? (i := 122) rfl)
set_option maxRecDepth 100000 in
theorem pl616 : Cond.code yX13_parse cX13_parse 3 (some .int) ∈ lw_tbl := pk_t14 _ (List.mem_of_getElem? (i := 6) rfl)
set_option maxRecDepth 100000 in
theorem pl617 : Cond.methodLink RL 146 yX13_parse ∈ lw_tbl := pk_t14 _ (List.mem_of_getElem? (i := 3) rfl)
set_option maxRecDepth 100000 in
theorem pl618 : Cond.instanceMethod yX13_parse ∈ lw_tbl := pk_t14 _ (List.mem_of_getElem? (i := 4) rfl)
set_option maxRecDepth 100000 in
theorem pl619 : Cond.selects RX13 yX13_parse yX13_parse ∈ lw_tbl := pk_t14 _ (List.mem_of_getElem? (i := 5) rfl)
set_option maxRecDepth 100000 in
theorem pl620 : Cond.code yX12_trees cX12_trees 1 (some .long) ∈ lw_tbl := pk_t6 _ (List.mem_of_getElem? (i := 5) rfl)
set_option maxRecDepth 100000 in
theorem pl621 : Cond.methodLink RL 147 yX12_trees ∈ lw_tbl := pk_t6 _ (List.mem_of_getElem? (i := 2) rfl)
set_option maxRecDepth 100000 in
theorem pl622 : Cond.instanceMethod yX12_trees ∈ lw_tbl := pk_t6 _ (List.mem_of_getElem? (i := 3) rfl)
set_option maxRecDepth 100000 in
theorem pl623 : Cond.selects RX12 yX12_trees yX12_trees ∈ lw_tbl := pk_t6 _ (List.mem_of_getElem? (i := 4) rfl)
set_option maxRecDepth 100000 in
theorem pl624 : Cond.code yX13_trees cX13_trees 1 (some .long) ∈ lw_tbl := pk_t14 _ (List.mem_of_getElem? (i := 97) rfl)
set_option maxRecDepth 100000 in
theorem pl625 : Cond.methodLink RL 151 yX13_trees ∈ lw_tbl := pk_t14 _ (List.mem_of_getElem? (i := 94) rfl)
set_option maxRecDepth 100000 in
theorem pl626 : Cond.instanceMethod yX13_trees ∈ lw_tbl := pk_t14 _ (List.mem_of_getElem? (i := 95) rfl)
set_option maxRecDepth 100000 in
theorem pl627 : Cond.selects RX13 yX13_trees yX13_trees ∈ lw_tbl := pk_t14 _ (List.mem_of_getElem? (i := 96) rfl)
set_option maxRecDepth 100000 in
theorem pl628 : Cond.codeWith yL_bar cL_bar 5 (some .int) [(0, 9, 12, 19)] ∈ lw_tbl := pk_t7 _ (List.mem_of_getElem? (i := 203) rfl)
set_option maxRecDepth 100000 in
theorem pl629 : Cond.methodLink RL 152 yL_bar ∈ lw_tbl := pk_t7 _ (List.mem_of_getElem? (i := 201) rfl)
set_option maxRecDepth 100000 in
theorem pl630 : Cond.static yL_bar ∈ lw_tbl := pk_t7 _ (List.mem_of_getElem? (i := 202) rfl)
set_option maxRecDepth 100000 in
theorem pl631 : Cond.code yX13_bar cX13_bar 3 (some .long) ∈ lw_tbl := pk_t14 _ (List.mem_of_getElem? (i := 101) rfl)
set_option maxRecDepth 100000 in
theorem pl632 : Cond.methodLink RL 155 yX13_bar ∈ lw_tbl := pk_t14 _ (List.mem_of_getElem? (i := 98) rfl)
set_option maxRecDepth 100000 in
theorem pl633 : Cond.instanceMethod yX13_bar ∈ lw_tbl := pk_t14 _ (List.mem_of_getElem? (i := 99) rfl)
set_option maxRecDepth 100000 in
theorem pl634 : Cond.selects RX13 yX13_bar yX13_bar ∈ lw_tbl := pk_t14 _ (List.mem_of_getElem? (i := 100) rfl)
set_option maxRecDepth 100000 in
theorem pl635 : Cond.code yX12_price cX12_price 2 (some .int) ∈ lw_tbl := pk_t6 _ (List.mem_of_getElem? (i := 32) rfl)
set_option maxRecDepth 100000 in
theorem pl636 : Cond.methodLink RL 156 yX12_price ∈ lw_tbl := pk_t6 _ (List.mem_of_getElem? (i := 29) rfl)
set_option maxRecDepth 100000 in
theorem pl637 : Cond.instanceMethod yX12_price ∈ lw_tbl := pk_t6 _ (List.mem_of_getElem? (i := 30) rfl)
set_option maxRecDepth 100000 in
theorem pl638 : Cond.selects RX12 yX12_price yX12_price ∈ lw_tbl := pk_t6 _ (List.mem_of_getElem? (i := 31) rfl)
set_option maxRecDepth 100000 in
theorem pl639 : Cond.code yX13_price cX13_price 2 (some .int) ∈ lw_tbl := pk_t14 _ (List.mem_of_getElem? (i := 105) rfl)
set_option maxRecDepth 100000 in
theorem pl640 : Cond.methodLink RL 159 yX13_price ∈ lw_tbl := pk_t14 _ (List.mem_of_getElem? (i := 102) rfl)
set_option maxRecDepth 100000 in
theorem pl641 : Cond.instanceMethod yX13_price ∈ lw_tbl := pk_t14 _ (List.mem_of_getElem? (i := 103) rfl)
set_option maxRecDepth 100000 in
theorem pl642 : Cond.selects RX13 yX13_price yX13_price ∈ lw_tbl := pk_t14 _ (List.mem_of_getElem? (i := 104) rfl)
set_option maxRecDepth 100000 in
theorem pl643 : Cond.codeWith yL_reading cL_reading 5 (some .int) [(0, 10, 13, 19)] ∈ lw_tbl := pk_t7 _ (List.mem_of_getElem? (i := 215) rfl)
set_option maxRecDepth 100000 in
theorem pl644 : Cond.methodLink RL 160 yL_reading ∈ lw_tbl := pk_t7 _ (List.mem_of_getElem? (i := 213) rfl)
set_option maxRecDepth 100000 in
theorem pl645 : Cond.static yL_reading ∈ lw_tbl := pk_t7 _ (List.mem_of_getElem? (i := 214) rfl)
set_option maxRecDepth 100000 in
theorem pl646 : Cond.code yX13_reading cX13_reading 4 (some .int) ∈ lw_tbl := pk_t14 _ (List.mem_of_getElem? (i := 109) rfl)
set_option maxRecDepth 100000 in
theorem pl647 : Cond.methodLink RL 162 yX13_reading ∈ lw_tbl := pk_t14 _ (List.mem_of_getElem? (i := 106) rfl)
set_option maxRecDepth 100000 in
theorem pl648 : Cond.instanceMethod yX13_reading ∈ lw_tbl := pk_t14 _ (List.mem_of_getElem? (i := 107) rfl)
set_option maxRecDepth 100000 in
theorem pl649 : Cond.selects RX13 yX13_reading yX13_reading ∈ lw_tbl := pk_t14 _ (List.mem_of_getElem? (i := 108) rfl)
set_option maxRecDepth 100000 in
theorem pl650 : Cond.codeWith yL_tree cL_tree 4 (some .int) [(0, 9, 12, 19)] ∈ lw_tbl := pk_t7 _ (List.mem_of_getElem? (i := 231) rfl)
set_option maxRecDepth 100000 in
theorem pl651 : Cond.methodLink RL 163 yL_tree ∈ lw_tbl := pk_t7 _ (List.mem_of_getElem? (i := 229) rfl)
set_option maxRecDepth 100000 in
theorem pl652 : Cond.static yL_tree ∈ lw_tbl := pk_t7 _ (List.mem_of_getElem? (i := 230) rfl)
set_option maxRecDepth 100000 in
theorem pl653 : Cond.code yX13_tree cX13_tree 3 (some .int) ∈ lw_tbl := pk_t14 _ (List.mem_of_getElem? (i := 121) rfl)
set_option maxRecDepth 100000 in
theorem pl654 : Cond.methodLink RL 165 yX13_tree ∈ lw_tbl := pk_t14 _ (List.mem_of_getElem? (i := 118) rfl)
set_option maxRecDepth 100000 in
theorem pl655 : Cond.instanceMethod yX13_tree ∈ lw_tbl := pk_t14 _ (List.mem_of_getElem? (i := 119) rfl)
set_option maxRecDepth 100000 in
theorem pl656 : Cond.selects RX13 yX13_tree yX13_tree ∈ lw_tbl := pk_t14 _ (List.mem_of_getElem? (i := 120) rfl)
set_option maxRecDepth 100000 in
theorem pl657 : Cond.codeWith yL_show cL_show 4 (some .int) [(0, 9, 12, 19)] ∈ lw_tbl := pk_t8 _ (List.mem_of_getElem? (i := 10) rfl)
set_option maxRecDepth 100000 in
theorem pl658 : Cond.methodLink RL 166 yL_show ∈ lw_tbl := pk_t8 _ (List.mem_of_getElem? (i := 8) rfl)
set_option maxRecDepth 100000 in
theorem pl659 : Cond.static yL_show ∈ lw_tbl := pk_t8 _ (List.mem_of_getElem? (i := 9) rfl)
set_option maxRecDepth 100000 in
theorem pl660 : Cond.code yX13_show cX13_show 2 (some .int) ∈ lw_tbl := pk_t14 _ (List.mem_of_getElem? (i := 129) rfl)
set_option maxRecDepth 100000 in
theorem pl661 : Cond.methodLink RL 168 yX13_show ∈ lw_tbl := pk_t14 _ (List.mem_of_getElem? (i := 126) rfl)
set_option maxRecDepth 100000 in
theorem pl662 : Cond.instanceMethod yX13_show ∈ lw_tbl := pk_t14 _ (List.mem_of_getElem? (i := 127) rfl)
set_option maxRecDepth 100000 in
theorem pl663 : Cond.selects RX13 yX13_show yX13_show ∈ lw_tbl := pk_t14 _ (List.mem_of_getElem? (i := 128) rfl)
set_option maxRecDepth 100000 in
theorem pl664 : Cond.codeWith yL_same cL_same 5 (some .int) [(0, 17, 20, 19)] ∈ lw_tbl := pk_t8 _ (List.mem_of_getElem? (i := 26) rfl)
set_option maxRecDepth 100000 in
theorem pl665 : Cond.methodLink RL 169 yL_same ∈ lw_tbl := pk_t8 _ (List.mem_of_getElem? (i := 24) rfl)
set_option maxRecDepth 100000 in
theorem pl666 : Cond.static yL_same ∈ lw_tbl := pk_t8 _ (List.mem_of_getElem? (i := 25) rfl)
set_option maxRecDepth 100000 in
theorem pl667 : Cond.code yX13_same cX13_same 4 (some .boolean) ∈ lw_tbl := pk_t14 _ (List.mem_of_getElem? (i := 146) rfl)
set_option maxRecDepth 100000 in
theorem pl668 : Cond.methodLink RL 171 yX13_same ∈ lw_tbl := pk_t14 _ (List.mem_of_getElem? (i := 143) rfl)
set_option maxRecDepth 100000 in
theorem pl669 : Cond.instanceMethod yX13_same ∈ lw_tbl := pk_t14 _ (List.mem_of_getElem? (i := 144) rfl)
set_option maxRecDepth 100000 in
theorem pl670 : Cond.selects RX13 yX13_same yX13_same ∈ lw_tbl := pk_t14 _ (List.mem_of_getElem? (i := 145) rfl)
set_option maxRecDepth 100000 in
theorem pl671 : Cond.codeWith yL_say cL_say 6 (some .int) [(0, 12, 15, 19)] ∈ lw_tbl := pk_t8 _ (List.mem_of_getElem? (i := 33) rfl)
set_option maxRecDepth 100000 in
theorem pl672 : Cond.methodLink RL 172 yL_say ∈ lw_tbl := pk_t8 _ (List.mem_of_getElem? (i := 31) rfl)
set_option maxRecDepth 100000 in
theorem pl673 : Cond.static yL_say ∈ lw_tbl := pk_t8 _ (List.mem_of_getElem? (i := 32) rfl)
set_option maxRecDepth 100000 in
theorem pl674 : Cond.code yX13_say cX13_say 6 (some .int) ∈ lw_tbl := pk_t14 _ (List.mem_of_getElem? (i := 150) rfl)
set_option maxRecDepth 100000 in
theorem pl675 : Cond.methodLink RL 174 yX13_say ∈ lw_tbl := pk_t14 _ (List.mem_of_getElem? (i := 147) rfl)
set_option maxRecDepth 100000 in
theorem pl676 : Cond.instanceMethod yX13_say ∈ lw_tbl := pk_t14 _ (List.mem_of_getElem? (i := 148) rfl)
set_option maxRecDepth 100000 in
theorem pl677 : Cond.selects RX13 yX13_say yX13_say ∈ lw_tbl := pk_t14 _ (List.mem_of_getElem? (i := 149) rfl)
set_option maxRecDepth 100000 in
theorem pl678 : Cond.codeWith yL_mean cL_mean 4 (some .int) [(0, 9, 12, 19)] ∈ lw_tbl := pk_t8 _ (List.mem_of_getElem? (i := 84) rfl)
set_option maxRecDepth 100000 in
theorem pl679 : Cond.methodLink RL 175 yL_mean ∈ lw_tbl := pk_t8 _ (List.mem_of_getElem? (i := 82) rfl)
set_option maxRecDepth 100000 in
theorem pl680 : Cond.static yL_mean ∈ lw_tbl := pk_t8 _ (List.mem_of_getElem? (i := 83) rfl)
set_option maxRecDepth 100000 in
theorem pl681 : Cond.code yX13_mean_ cX13_mean_ 3 (some .int) ∈ lw_tbl := pk_t14 _ (List.mem_of_getElem? (i := 214) rfl)
set_option maxRecDepth 100000 in
theorem pl682 : Cond.methodLink RL 177 yX13_mean_ ∈ lw_tbl := pk_t14 _ (List.mem_of_getElem? (i := 211) rfl)
set_option maxRecDepth 100000 in
theorem pl683 : Cond.instanceMethod yX13_mean_ ∈ lw_tbl := pk_t14 _ (List.mem_of_getElem? (i := 212) rfl)
set_option maxRecDepth 100000 in
theorem pl684 : Cond.selects RX13 yX13_mean_ yX13_mean_ ∈ lw_tbl := pk_t14 _ (List.mem_of_getElem? (i := 213) rfl)
set_option maxRecDepth 100000 in
theorem pl685 : Cond.codeWith yL_truth cL_truth 4 (some .int) [(0, 9, 12, 19)] ∈ lw_tbl := pk_t8 _ (List.mem_of_getElem? (i := 141) rfl)
set_option maxRecDepth 100000 in
theorem pl686 : Cond.methodLink RL 178 yL_truth ∈ lw_tbl := pk_t8 _ (List.mem_of_getElem? (i := 139) rfl)
set_option maxRecDepth 100000 in
theorem pl687 : Cond.static yL_truth ∈ lw_tbl := pk_t8 _ (List.mem_of_getElem? (i := 140) rfl)
set_option maxRecDepth 100000 in
theorem pl688 : Cond.code yX13_truth cX13_truth 3 (some .int) ∈ lw_tbl := pk_t15 _ (List.mem_of_getElem? (i := 22) rfl)
set_option maxRecDepth 100000 in
theorem pl689 : Cond.methodLink RL 180 yX13_truth ∈ lw_tbl := pk_t15 _ (List.mem_of_getElem? (i := 19) rfl)
set_option maxRecDepth 100000 in
theorem pl690 : Cond.instanceMethod yX13_truth ∈ lw_tbl := pk_t15 _ (List.mem_of_getElem? (i := 20) rfl)
set_option maxRecDepth 100000 in
theorem pl691 : Cond.selects RX13 yX13_truth yX13_truth ∈ lw_tbl := pk_t15 _ (List.mem_of_getElem? (i := 21) rfl)
set_option maxRecDepth 100000 in
theorem pl692 : Cond.codeWith yL_swap cL_swap 6 (some .int) [(0, 12, 15, 19)] ∈ lw_tbl := pk_t8 _ (List.mem_of_getElem? (i := 185) rfl)
set_option maxRecDepth 100000 in
theorem pl693 : Cond.methodLink RL 181 yL_swap ∈ lw_tbl := pk_t8 _ (List.mem_of_getElem? (i := 183) rfl)
set_option maxRecDepth 100000 in
theorem pl694 : Cond.static yL_swap ∈ lw_tbl := pk_t8 _ (List.mem_of_getElem? (i := 184) rfl)
set_option maxRecDepth 100000 in
theorem pl695 : Cond.code yX13_swap cX13_swap 9 (some .int) ∈ lw_tbl := pk_t14 _ (List.mem_of_getElem? (i := 170) rfl)
set_option maxRecDepth 100000 in
theorem pl696 : Cond.methodLink RL 183 yX13_swap ∈ lw_tbl := pk_t14 _ (List.mem_of_getElem? (i := 167) rfl)
set_option maxRecDepth 100000 in
theorem pl697 : Cond.instanceMethod yX13_swap ∈ lw_tbl := pk_t14 _ (List.mem_of_getElem? (i := 168) rfl)
set_option maxRecDepth 100000 in
theorem pl698 : Cond.selects RX13 yX13_swap yX13_swap ∈ lw_tbl := pk_t14 _ (List.mem_of_getElem? (i := 169) rfl)
set_option maxRecDepth 100000 in
theorem pl699 : Cond.code yX12_candidate cX12_candidate 2 (some .int) ∈ lw_tbl := pk_t6 _ (List.mem_of_getElem? (i := 91) rfl)
set_option maxRecDepth 100000 in
theorem pl700 : Cond.methodLink RL 184 yX12_candidate ∈ lw_tbl := pk_t6 _ (List.mem_of_getElem? (i := 88) rfl)
set_option maxRecDepth 100000 in
theorem pl701 : Cond.instanceMethod yX12_candidate ∈ lw_tbl := pk_t6 _ (List.mem_of_getElem? (i := 89) rfl)
set_option maxRecDepth 100000 in
theorem pl702 : Cond.selects RX12 yX12_candidate yX12_candidate ∈ lw_tbl := pk_t6 _ (List.mem_of_getElem? (i := 90) rfl)
set_option maxRecDepth 100000 in
theorem pl703 : Cond.code yX13_candidate cX13_candidate 3 (some .int) ∈ lw_tbl := pk_t14 _ (List.mem_of_getElem? (i := 174) rfl)
set_option maxRecDepth 100000 in
theorem pl704 : Cond.methodLink RL 187 yX13_candidate ∈ lw_tbl := pk_t14 _ (List.mem_of_getElem? (i := 171) rfl)
set_option maxRecDepth 100000 in
theorem pl705 : Cond.instanceMethod yX13_candidate ∈ lw_tbl := pk_t14 _ (List.mem_of_getElem? (i := 172) rfl)
set_option maxRecDepth 100000 in
theorem pl706 : Cond.selects RX13 yX13_candidate yX13_candidate ∈ lw_tbl := pk_t14 _ (List.mem_of_getElem? (i := 173) rfl)
set_option maxRecDepth 100000 in
theorem pl707 : Cond.codeWith yL_add cL_add 4 (some .int) [(0, 9, 12, 19), (0, 9, 15, 13)] ∈ lw_tbl := pk_t8 _ (List.mem_of_getElem? (i := 200) rfl)
set_option maxRecDepth 100000 in
theorem pl708 : Cond.methodLink RL 188 yL_add ∈ lw_tbl := pk_t8 _ (List.mem_of_getElem? (i := 198) rfl)
set_option maxRecDepth 100000 in
theorem pl709 : Cond.static yL_add ∈ lw_tbl := pk_t8 _ (List.mem_of_getElem? (i := 199) rfl)
set_option maxRecDepth 100000 in
theorem pl710 : Cond.code yX13_add cX13_add 4 (some .int) ∈ lw_tbl := pk_t14 _ (List.mem_of_getElem? (i := 178) rfl)
set_option maxRecDepth 100000 in
theorem pl711 : Cond.methodLink RL 190 yX13_add ∈ lw_tbl := pk_t14 _ (List.mem_of_getElem? (i := 175) rfl)
set_option maxRecDepth 100000 in
theorem pl712 : Cond.instanceMethod yX13_add ∈ lw_tbl := pk_t14 _ (List.mem_of_getElem? (i := 176) rfl)
set_option maxRecDepth 100000 in
theorem pl713 : Cond.selects RX13 yX13_add yX13_add ∈ lw_tbl := pk_t14 _ (List.mem_of_getElem? (i := 177) rfl)
set_option maxRecDepth 100000 in
theorem pl714 : Cond.codeWith yL_ask cL_ask 4 (some .int) [(0, 9, 12, 19)] ∈ lw_tbl := pk_t8 _ (List.mem_of_getElem? (i := 228) rfl)
set_option maxRecDepth 100000 in
theorem pl715 : Cond.methodLink RL 191 yL_ask ∈ lw_tbl := pk_t8 _ (List.mem_of_getElem? (i := 226) rfl)
set_option maxRecDepth 100000 in
theorem pl716 : Cond.static yL_ask ∈ lw_tbl := pk_t8 _ (List.mem_of_getElem? (i := 227) rfl)
set_option maxRecDepth 100000 in
theorem pl717 : Cond.code yX13_ask cX13_ask 7 (some .int) ∈ lw_tbl := pk_t14 _ (List.mem_of_getElem? (i := 182) rfl)
set_option maxRecDepth 100000 in
theorem pl718 : Cond.methodLink RL 193 yX13_ask ∈ lw_tbl := pk_t14 _ (List.mem_of_getElem? (i := 179) rfl)
set_option maxRecDepth 100000 in
theorem pl719 : Cond.instanceMethod yX13_ask ∈ lw_tbl := pk_t14 _ (List.mem_of_getElem? (i := 180) rfl)
set_option maxRecDepth 100000 in
theorem pl720 : Cond.selects RX13 yX13_ask yX13_ask ∈ lw_tbl := pk_t14 _ (List.mem_of_getElem? (i := 181) rfl)
set_option maxRecDepth 100000 in
theorem pl721 : Cond.codeWith yL_hit cL_hit 5 (some .int) [(0, 10, 13, 19)] ∈ lw_tbl := pk_t9 _ (List.mem_of_getElem? (i := 21) rfl)
set_option maxRecDepth 100000 in
theorem pl722 : Cond.methodLink RL 194 yL_hit ∈ lw_tbl := pk_t9 _ (List.mem_of_getElem? (i := 19) rfl)
set_option maxRecDepth 100000 in
theorem pl723 : Cond.static yL_hit ∈ lw_tbl := pk_t9 _ (List.mem_of_getElem? (i := 20) rfl)
set_option maxRecDepth 100000 in
theorem pl724 : Cond.code yX13_hit cX13_hit 3 (some .int) ∈ lw_tbl := pk_t14 _ (List.mem_of_getElem? (i := 190) rfl)
set_option maxRecDepth 100000 in
theorem pl725 : Cond.methodLink RL 196 yX13_hit ∈ lw_tbl := pk_t14 _ (List.mem_of_getElem? (i := 187) rfl)
set_option maxRecDepth 100000 in
theorem pl726 : Cond.instanceMethod yX13_hit ∈ lw_tbl := pk_t14 _ (List.mem_of_getElem? (i := 188) rfl)
set_option maxRecDepth 100000 in
theorem pl727 : Cond.selects RX13 yX13_hit yX13_hit ∈ lw_tbl := pk_t14 _ (List.mem_of_getElem? (i := 189) rfl)
set_option maxRecDepth 100000 in
theorem pl728 : Cond.codeWith yL_mend cL_mend 5 (some .int) [(0, 10, 13, 19)] ∈ lw_tbl := pk_t9 _ (List.mem_of_getElem? (i := 32) rfl)
set_option maxRecDepth 100000 in
theorem pl729 : Cond.methodLink RL 197 yL_mend ∈ lw_tbl := pk_t9 _ (List.mem_of_getElem? (i := 30) rfl)
set_option maxRecDepth 100000 in
theorem pl730 : Cond.static yL_mend ∈ lw_tbl := pk_t9 _ (List.mem_of_getElem? (i := 31) rfl)
set_option maxRecDepth 100000 in
theorem pl731 : Cond.code yX13_mend cX13_mend 4 (some .int) ∈ lw_tbl := pk_t14 _ (List.mem_of_getElem? (i := 194) rfl)
set_option maxRecDepth 100000 in
theorem pl732 : Cond.methodLink RL 199 yX13_mend ∈ lw_tbl := pk_t14 _ (List.mem_of_getElem? (i := 191) rfl)
set_option maxRecDepth 100000 in
theorem pl733 : Cond.instanceMethod yX13_mend ∈ lw_tbl := pk_t14 _ (List.mem_of_getElem? (i := 192) rfl)
set_option maxRecDepth 100000 in
theorem pl734 : Cond.selects RX13 yX13_mend yX13_mend ∈ lw_tbl := pk_t14 _ (List.mem_of_getElem? (i := 193) rfl)
set_option maxRecDepth 100000 in
theorem pl735 : Cond.codeWith yL_count cL_count 5 (some .int) [(0, 10, 13, 19)] ∈ lw_tbl := pk_t9 _ (List.mem_of_getElem? (i := 66) rfl)
set_option maxRecDepth 100000 in
theorem pl736 : Cond.methodLink RL 200 yL_count ∈ lw_tbl := pk_t9 _ (List.mem_of_getElem? (i := 64) rfl)
set_option maxRecDepth 100000 in
theorem pl737 : Cond.static yL_count ∈ lw_tbl := pk_t9 _ (List.mem_of_getElem? (i := 65) rfl)
set_option maxRecDepth 100000 in
theorem pl738 : Cond.code yX13_count cX13_count 3 (some .int) ∈ lw_tbl := pk_t15 _ (List.mem_of_getElem? (i := 34) rfl)
set_option maxRecDepth 100000 in
theorem pl739 : Cond.methodLink RL 202 yX13_count ∈ lw_tbl := pk_t15 _ (List.mem_of_getElem? (i := 31) rfl)
set_option maxRecDepth 100000 in
theorem pl740 : Cond.instanceMethod yX13_count ∈ lw_tbl := pk_t15 _ (List.mem_of_getElem? (i := 32) rfl)
set_option maxRecDepth 100000 in
theorem pl741 : Cond.selects RX13 yX13_count yX13_count ∈ lw_tbl := pk_t15 _ (List.mem_of_getElem? (i := 33) rfl)
def pb0 : List Cond := [Cond.fieldLink RX12 19 "TongueHouse" "tape" "LTongueHouse$Text;", Cond.fieldLink RX12 100 "TongueHouse$Text" "size" "I", Cond.fieldLink RX9 22 "TongueHouse$Text" "size" "I", Cond.fieldLink RX9 11 "TongueHouse$Text" "bytes" "[B", Cond.methodLink RX9 26 yX9_put, Cond.code yX9_put cX9_put 2 none, Cond.instanceMethod yX9_put, Cond.selects RX9 yX9_put yX9_put, Cond.initialized RX9, Cond.methodLink RX12 111 yX9_putFour, Cond.code yX9_putFour cX9_putFour 2 none, Cond.instanceMethod yX9_putFour, Cond.selects RX9 yX9_putFour yX9_putFour, Cond.fieldLink RX13 3 "TongueHouseModel" "thrown" "I", Cond.fieldLink RX13 576 "TongueHouseModel" "taped" "I", Cond.fieldLink RX13 188 "TongueHouseModel" "tape" "[B", Cond.methodLink RX13 583 yX13_four, Cond.code yX13_four cX13_four 3 none, Cond.instanceMethod yX13_four, Cond.selects RX13 yX13_four yX13_four, Cond.initialized RX13, Cond.classLink RX12 115 "java/lang/IllegalArgumentException", Cond.initialized "java/lang/IllegalArgumentException", Cond.methodLink RX13 579 yX13_bad, Cond.code yX13_bad cX13_bad 1 (some .int), Cond.instanceMethod yX13_bad, Cond.selects RX13 yX13_bad yX13_bad, Cond.fieldLink RX12 37 "TongueHouse" "reader" "LTongueHouse$Reader;", Cond.fieldLink RX6 47 "TongueHouse$Reader" "rule" "I", Cond.fieldLink RX6 39 "TongueHouse$Reader" "store" "LTongueHouse$Store;"]
set_option maxRecDepth 100000 in
theorem pb0_in : ∀ w ∈ pb0, w ∈ lw_tbl := List.forall_mem_cons.mpr ⟨pl0, List.forall_mem_cons.mpr ⟨pl1, List.forall_mem_cons.mpr ⟨pl2, List.forall_mem_cons.mpr ⟨pl3, List.forall_mem_cons.mpr ⟨pl4, List.forall_mem_cons.mpr ⟨pl5, List.forall_mem_cons.mpr ⟨pl6, List.forall_mem_cons.mpr ⟨pl7, List.forall_mem_cons.mpr ⟨pl8, List.forall_mem_cons.mpr ⟨pl9, List.forall_mem_cons.mpr ⟨pl10, List.forall_mem_cons.mpr ⟨pl11, List.forall_mem_cons.mpr ⟨pl12, List.forall_mem_cons.mpr ⟨pl13, List.forall_mem_cons.mpr ⟨pl14, List.forall_mem_cons.mpr ⟨pl15, List.forall_mem_cons.mpr ⟨pl16, List.forall_mem_cons.mpr ⟨pl17, List.forall_mem_cons.mpr ⟨pl18, List.forall_mem_cons.mpr ⟨pl19, List.forall_mem_cons.mpr ⟨pl20, List.forall_mem_cons.mpr ⟨pl21, List.forall_mem_cons.mpr ⟨pl22, List.forall_mem_cons.mpr ⟨pl23, List.forall_mem_cons.mpr ⟨pl24, List.forall_mem_cons.mpr ⟨pl25, List.forall_mem_cons.mpr ⟨pl26, List.forall_mem_cons.mpr ⟨pl27, List.forall_mem_cons.mpr ⟨pl28, List.forall_mem_cons.mpr ⟨pl29, fun _ h => absurd h List.not_mem_nil⟩⟩⟩⟩⟩⟩⟩⟩⟩⟩⟩⟩⟩⟩⟩⟩⟩⟩⟩⟩⟩⟩⟩⟩⟩⟩⟩⟩⟩⟩
def pb1 : List Cond := [Cond.fieldLink RX8 78 "TongueHouse$Store" "isFull" "Z", Cond.fieldLink RX8 72 "TongueHouse$Store" "marks" "[I", Cond.fieldLink RX8 18 "TongueHouse$Store" "kinds" "LTongueHouse$Names;", Cond.fieldLink RX8 82 "TongueHouse$Names" "size" "I", Cond.fieldLink RX8 22 "TongueHouse$Store" "funs" "LTongueHouse$Names;", Cond.fieldLink RX8 25 "TongueHouse$Store" "things" "LTongueHouse$Names;", Cond.fieldLink RX8 28 "TongueHouse$Store" "tongueNames" "LTongueHouse$Names;", Cond.fieldLink RX8 85 "TongueHouse$Store" "factCount" "I", Cond.fieldLink RX8 88 "TongueHouse$Store" "poolSize" "I", Cond.fieldLink RX8 35 "TongueHouse$Store" "current" "I", Cond.fieldLink RX8 52 "TongueHouse$Store" "meanSize" "[I", Cond.methodLink RX8 95 arraycopyName, Cond.native arraycopyName, Cond.static arraycopyName, Cond.initialized "java/lang/System", Cond.methodLink RX6 51 yX8_mark, Cond.code yX8_mark cX8_mark 2 none, Cond.instanceMethod yX8_mark, Cond.selects RX8 yX8_mark yX8_mark, Cond.initialized RX8, Cond.fieldLink RX6 43 "TongueHouse$Reader" "tape" "LTongueHouse$Text;", Cond.fieldLink RX9 49 "TongueHouse$Text" "next" "I", Cond.fieldLink RX9 55 "TongueHouse$Text" "at" "I", Cond.fieldLink RX9 58 "TongueHouse$Text" "type" "I", Cond.methodLink RX9 52 yX9_advance, Cond.code yX9_advance cX9_advance 3 none, Cond.instanceMethod yX9_advance, Cond.selects RX9 yX9_advance yX9_advance, Cond.methodLink RX6 56 yX9_rewind, Cond.code yX9_rewind cX9_rewind 1 none]
set_option maxRecDepth 100000 in
theorem pb1_in : ∀ w ∈ pb1, w ∈ lw_tbl := List.forall_mem_cons.mpr ⟨pl30, List.forall_mem_cons.mpr ⟨pl31, List.forall_mem_cons.mpr ⟨pl32, List.forall_mem_cons.mpr ⟨pl33, List.forall_mem_cons.mpr ⟨pl34, List.forall_mem_cons.mpr ⟨pl35, List.forall_mem_cons.mpr ⟨pl36, List.forall_mem_cons.mpr ⟨pl37, List.forall_mem_cons.mpr ⟨pl38, List.forall_mem_cons.mpr ⟨pl39, List.forall_mem_cons.mpr ⟨pl40, List.forall_mem_cons.mpr ⟨pl41, List.forall_mem_cons.mpr ⟨pl42, List.forall_mem_cons.mpr ⟨pl43, List.forall_mem_cons.mpr ⟨pl44, List.forall_mem_cons.mpr ⟨pl45, List.forall_mem_cons.mpr ⟨pl46, List.forall_mem_cons.mpr ⟨pl47, List.forall_mem_cons.mpr ⟨pl48, List.forall_mem_cons.mpr ⟨pl49, List.forall_mem_cons.mpr ⟨pl50, List.forall_mem_cons.mpr ⟨pl51, List.forall_mem_cons.mpr ⟨pl52, List.forall_mem_cons.mpr ⟨pl53, List.forall_mem_cons.mpr ⟨pl54, List.forall_mem_cons.mpr ⟨pl55, List.forall_mem_cons.mpr ⟨pl56, List.forall_mem_cons.mpr ⟨pl57, List.forall_mem_cons.mpr ⟨pl58, List.forall_mem_cons.mpr ⟨pl59, fun _ h => absurd h List.not_mem_nil⟩⟩⟩⟩⟩⟩⟩⟩⟩⟩⟩⟩⟩⟩⟩⟩⟩⟩⟩⟩⟩⟩⟩⟩⟩⟩⟩⟩⟩⟩
def pb2 : List Cond := [Cond.instanceMethod yX9_rewind, Cond.selects RX9 yX9_rewind yX9_rewind, Cond.methodLink RX12 120 yX6_begin, Cond.code yX6_begin cX6_begin 1 none, Cond.instanceMethod yX6_begin, Cond.selects RX6 yX6_begin yX6_begin, Cond.initialized RX6, Cond.fieldLink RX12 123 "TongueHouse$Text" "type" "I", Cond.fieldLink RX13 586 "TongueHouseModel" "textN" "I", Cond.methodLink RX13 682 yX13_reads, Cond.code yX13_reads cX13_reads 2 none, Cond.instanceMethod yX13_reads, Cond.selects RX13 yX13_reads yX13_reads, Cond.fieldLink RX13 286 "TongueHouseModel" "had" "[I", Cond.fieldLink RX13 658 "TongueHouseModel" "tongues" "I", Cond.fieldLink RX13 661 "TongueHouseModel" "kinds" "I", Cond.fieldLink RX13 664 "TongueHouseModel" "funs" "I", Cond.fieldLink RX13 667 "TongueHouseModel" "things" "I", Cond.fieldLink RX13 670 "TongueHouseModel" "facts" "I", Cond.fieldLink RX13 15 "TongueHouseModel" "current" "I", Cond.fieldLink RX13 673 "TongueHouseModel" "parts" "I", Cond.fieldLink RX13 637 "TongueHouseModel" "letters" "I", Cond.fieldLink RX13 676 "TongueHouseModel" "terms" "I", Cond.fieldLink RX13 56 "TongueHouseModel" "features" "[I", Cond.fieldLink RX13 59 "TongueHouseModel" "values" "[I", Cond.fieldLink RX13 62 "TongueHouseModel" "classes" "[I", Cond.fieldLink RX13 65 "TongueHouseModel" "sounds" "[I", Cond.fieldLink RX13 68 "TongueHouseModel" "patterns" "[I", Cond.fieldLink RX13 71 "TongueHouseModel" "words" "[I", Cond.fieldLink RX13 74 "TongueHouseModel" "lins" "[I"]
set_option maxRecDepth 100000 in
theorem pb2_in : ∀ w ∈ pb2, w ∈ lw_tbl := List.forall_mem_cons.mpr ⟨pl60, List.forall_mem_cons.mpr ⟨pl61, List.forall_mem_cons.mpr ⟨pl62, List.forall_mem_cons.mpr ⟨pl63, List.forall_mem_cons.mpr ⟨pl64, List.forall_mem_cons.mpr ⟨pl65, List.forall_mem_cons.mpr ⟨pl66, List.forall_mem_cons.mpr ⟨pl67, List.forall_mem_cons.mpr ⟨pl68, List.forall_mem_cons.mpr ⟨pl69, List.forall_mem_cons.mpr ⟨pl70, List.forall_mem_cons.mpr ⟨pl71, List.forall_mem_cons.mpr ⟨pl72, List.forall_mem_cons.mpr ⟨pl73, List.forall_mem_cons.mpr ⟨pl74, List.forall_mem_cons.mpr ⟨pl75, List.forall_mem_cons.mpr ⟨pl76, List.forall_mem_cons.mpr ⟨pl77, List.forall_mem_cons.mpr ⟨pl78, List.forall_mem_cons.mpr ⟨pl79, List.forall_mem_cons.mpr ⟨pl80, List.forall_mem_cons.mpr ⟨pl81, List.forall_mem_cons.mpr ⟨pl82, List.forall_mem_cons.mpr ⟨pl83, List.forall_mem_cons.mpr ⟨pl84, List.forall_mem_cons.mpr ⟨pl85, List.forall_mem_cons.mpr ⟨pl86, List.forall_mem_cons.mpr ⟨pl87, List.forall_mem_cons.mpr ⟨pl88, List.forall_mem_cons.mpr ⟨pl89, fun _ h => absurd h List.not_mem_nil⟩⟩⟩⟩⟩⟩⟩⟩⟩⟩⟩⟩⟩⟩⟩⟩⟩⟩⟩⟩⟩⟩⟩⟩⟩⟩⟩⟩⟩⟩
def pb3 : List Cond := [Cond.fieldLink RX13 679 "TongueHouseModel" "meants" "I", Cond.methodLink RX13 685 yX13_remember, Cond.code yX13_remember cX13_remember 3 none, Cond.instanceMethod yX13_remember, Cond.selects RX13 yX13_remember yX13_remember, Cond.fieldLink RX13 597 "TongueHouseModel" "tkEnd" "I", Cond.fieldLink RX13 639 "TongueHouseModel" "wrong" "I", Cond.fieldLink RX13 600 "TongueHouseModel" "tkAt" "I", Cond.fieldLink RX13 603 "TongueHouseModel" "tkNumber" "I", Cond.fieldLink RX13 606 "TongueHouseModel" "tkName" "J", Cond.fieldLink RX13 609 "TongueHouseModel" "tk" "I", Cond.methodLink RX13 655 yX13_next, Cond.code yX13_next cX13_next 2 none, Cond.instanceMethod yX13_next, Cond.selects RX13 yX13_next yX13_next, Cond.fieldLink RX13 695 "TongueHouseModel" "lastRule" "I", Cond.fieldLink RX13 698 "TongueHouseModel" "version" "I", Cond.fieldLink RX12 136 "TongueHouse$Reader" "rule" "I", Cond.fieldLink RX12 23 "TongueHouse" "out" "LTongueHouse$Text;", Cond.fieldLink RX13 589 "TongueHouseModel" "outN" "I", Cond.fieldLink RX12 12 "TongueHouse" "store" "LTongueHouse$Store;", Cond.fieldLink RX12 145 "TongueHouse$Store" "kinds" "LTongueHouse$Names;", Cond.methodLink RX9 80 yX9_rewind, Cond.methodLink RX12 165 yX9_onlyName, Cond.code yX9_onlyName cX9_onlyName 3 (some .long), Cond.instanceMethod yX9_onlyName, Cond.selects RX9 yX9_onlyName yX9_onlyName, Cond.fieldLink RX12 149 "TongueHouse$Store" "tongueNames" "LTongueHouse$Names;", Cond.fieldLink RX12 239 "TongueHouse$Names" "size" "I", Cond.methodLink RX12 155 yX12_tongueAt]
set_option maxRecDepth 100000 in
theorem pb3_in : ∀ w ∈ pb3, w ∈ lw_tbl := List.forall_mem_cons.mpr ⟨pl90, List.forall_mem_cons.mpr ⟨pl91, List.forall_mem_cons.mpr ⟨pl92, List.forall_mem_cons.mpr ⟨pl93, List.forall_mem_cons.mpr ⟨pl94, List.forall_mem_cons.mpr ⟨pl95, List.forall_mem_cons.mpr ⟨pl96, List.forall_mem_cons.mpr ⟨pl97, List.forall_mem_cons.mpr ⟨pl98, List.forall_mem_cons.mpr ⟨pl99, List.forall_mem_cons.mpr ⟨pl100, List.forall_mem_cons.mpr ⟨pl101, List.forall_mem_cons.mpr ⟨pl102, List.forall_mem_cons.mpr ⟨pl103, List.forall_mem_cons.mpr ⟨pl104, List.forall_mem_cons.mpr ⟨pl105, List.forall_mem_cons.mpr ⟨pl106, List.forall_mem_cons.mpr ⟨pl107, List.forall_mem_cons.mpr ⟨pl108, List.forall_mem_cons.mpr ⟨pl109, List.forall_mem_cons.mpr ⟨pl110, List.forall_mem_cons.mpr ⟨pl111, List.forall_mem_cons.mpr ⟨pl112, List.forall_mem_cons.mpr ⟨pl113, List.forall_mem_cons.mpr ⟨pl114, List.forall_mem_cons.mpr ⟨pl115, List.forall_mem_cons.mpr ⟨pl116, List.forall_mem_cons.mpr ⟨pl117, List.forall_mem_cons.mpr ⟨pl118, List.forall_mem_cons.mpr ⟨pl119, fun _ h => absurd h List.not_mem_nil⟩⟩⟩⟩⟩⟩⟩⟩⟩⟩⟩⟩⟩⟩⟩⟩⟩⟩⟩⟩⟩⟩⟩⟩⟩⟩⟩⟩⟩⟩
def pb4 : List Cond := [Cond.code yX12_tongueAt cX12_tongueAt 2 (some (.object "TongueHouse$Tongue")), Cond.instanceMethod yX12_tongueAt, Cond.selects RX12 yX12_tongueAt yX12_tongueAt, Cond.initialized RX12, Cond.fieldLink RX12 152 "TongueHouse$Store" "funs" "LTongueHouse$Names;", Cond.fieldLink RX12 76 "TongueHouse" "finder" "LTongueHouse$Finder;", Cond.fieldLink RX1 53 "TongueHouse$Finder" "analyses" "I", Cond.methodLink RX12 203 yX1_tellAnalysis, Cond.code yX1_tellAnalysis cX1_tellAnalysis 6 (some .int), Cond.instanceMethod yX1_tellAnalysis, Cond.selects RX1 yX1_tellAnalysis yX1_tellAnalysis, Cond.initialized RX1, Cond.fieldLink RX13 854 "TongueHouseModel" "foundN" "I", Cond.fieldLink RX1 113 "TongueHouse$Finder" "guesses" "I", Cond.methodLink RX12 226 yX1_tellGuess, Cond.code yX1_tellGuess cX1_tellGuess 3 (some .int), Cond.instanceMethod yX1_tellGuess, Cond.selects RX1 yX1_tellGuess yX1_tellGuess, Cond.fieldLink RX13 870 "TongueHouseModel" "guesses" "I", Cond.fieldLink RX1 165 "TongueHouse$Finder" "hits" "I", Cond.methodLink RX12 310 yX1_tellHit, Cond.code yX1_tellHit cX1_tellHit 3 (some .int), Cond.instanceMethod yX1_tellHit, Cond.selects RX1 yX1_tellHit yX1_tellHit, Cond.fieldLink RX13 1052 "TongueHouseModel" "hits" "I", Cond.fieldLink RX12 55 "TongueHouse" "ranking" "LTongueHouse$Ranking;", Cond.fieldLink RX5 61 "TongueHouse$Ranking" "isOpen" "Z", Cond.methodLink RX12 236 yX5_total, Cond.code yX5_total cX5_total 5 (some .long), Cond.instanceMethod yX5_total]
set_option maxRecDepth 100000 in
theorem pb4_in : ∀ w ∈ pb4, w ∈ lw_tbl := List.forall_mem_cons.mpr ⟨pl120, List.forall_mem_cons.mpr ⟨pl121, List.forall_mem_cons.mpr ⟨pl122, List.forall_mem_cons.mpr ⟨pl123, List.forall_mem_cons.mpr ⟨pl124, List.forall_mem_cons.mpr ⟨pl125, List.forall_mem_cons.mpr ⟨pl126, List.forall_mem_cons.mpr ⟨pl127, List.forall_mem_cons.mpr ⟨pl128, List.forall_mem_cons.mpr ⟨pl129, List.forall_mem_cons.mpr ⟨pl130, List.forall_mem_cons.mpr ⟨pl131, List.forall_mem_cons.mpr ⟨pl132, List.forall_mem_cons.mpr ⟨pl133, List.forall_mem_cons.mpr ⟨pl134, List.forall_mem_cons.mpr ⟨pl135, List.forall_mem_cons.mpr ⟨pl136, List.forall_mem_cons.mpr ⟨pl137, List.forall_mem_cons.mpr ⟨pl138, List.forall_mem_cons.mpr ⟨pl139, List.forall_mem_cons.mpr ⟨pl140, List.forall_mem_cons.mpr ⟨pl141, List.forall_mem_cons.mpr ⟨pl142, List.forall_mem_cons.mpr ⟨pl143, List.forall_mem_cons.mpr ⟨pl144, List.forall_mem_cons.mpr ⟨pl145, List.forall_mem_cons.mpr ⟨pl146, List.forall_mem_cons.mpr ⟨pl147, List.forall_mem_cons.mpr ⟨pl148, List.forall_mem_cons.mpr ⟨pl149, fun _ h => absurd h List.not_mem_nil⟩⟩⟩⟩⟩⟩⟩⟩⟩⟩⟩⟩⟩⟩⟩⟩⟩⟩⟩⟩⟩⟩⟩⟩⟩⟩⟩⟩⟩⟩
def pb5 : List Cond := [Cond.selects RX5 yX5_total yX5_total, Cond.initialized RX5, Cond.fieldLink RX13 984 "TongueHouseModel" "all" "J", Cond.methodLink RX5 146 yX5_rank, Cond.code yX5_rank cX5_rank 4 none, Cond.instanceMethod yX5_rank, Cond.selects RX5 yX5_rank yX5_rank, Cond.fieldLink RX5 68 "TongueHouse$Ranking" "topSize" "I", Cond.methodLink RX12 246 yX5_priceOf, Cond.code yX5_priceOf cX5_priceOf 2 (some .int), Cond.instanceMethod yX5_priceOf, Cond.selects RX5 yX5_priceOf yX5_priceOf, Cond.fieldLink RX13 977 "TongueHouseModel" "readings" "I", Cond.fieldLink RX12 289 "TongueHouse" "candidateCount" "I", Cond.fieldLink RX13 1046 "TongueHouseModel" "candidates" "I", Cond.methodLink RX12 249 yX12_checkPlace, Cond.code yX12_checkPlace cX12_checkPlace 1 none, Cond.static yX12_checkPlace, Cond.fieldLink RX12 82 "TongueHouse" "planted" "[[I", Cond.methodLink RX12 252 yX5_spell, Cond.code yX5_spell cX5_spell 11 (some .int), Cond.instanceMethod yX5_spell, Cond.selects RX5 yX5_spell yX5_spell, Cond.methodLink RX13 1017 yX13_noPlace, Cond.code yX13_noPlace cX13_noPlace 2 (some .boolean), Cond.instanceMethod yX13_noPlace, Cond.selects RX13 yX13_noPlace yX13_noPlace, Cond.fieldLink RX6 67 "TongueHouse$Text" "type" "I", Cond.fieldLink RX6 61 "TongueHouse$Text" "at" "I", Cond.methodLink RX12 262 yX6_readTree]
set_option maxRecDepth 100000 in
theorem pb5_in : ∀ w ∈ pb5, w ∈ lw_tbl := List.forall_mem_cons.mpr ⟨pl150, List.forall_mem_cons.mpr ⟨pl151, List.forall_mem_cons.mpr ⟨pl152, List.forall_mem_cons.mpr ⟨pl153, List.forall_mem_cons.mpr ⟨pl154, List.forall_mem_cons.mpr ⟨pl155, List.forall_mem_cons.mpr ⟨pl156, List.forall_mem_cons.mpr ⟨pl157, List.forall_mem_cons.mpr ⟨pl158, List.forall_mem_cons.mpr ⟨pl159, List.forall_mem_cons.mpr ⟨pl160, List.forall_mem_cons.mpr ⟨pl161, List.forall_mem_cons.mpr ⟨pl162, List.forall_mem_cons.mpr ⟨pl163, List.forall_mem_cons.mpr ⟨pl164, List.forall_mem_cons.mpr ⟨pl165, List.forall_mem_cons.mpr ⟨pl166, List.forall_mem_cons.mpr ⟨pl167, List.forall_mem_cons.mpr ⟨pl168, List.forall_mem_cons.mpr ⟨pl169, List.forall_mem_cons.mpr ⟨pl170, List.forall_mem_cons.mpr ⟨pl171, List.forall_mem_cons.mpr ⟨pl172, List.forall_mem_cons.mpr ⟨pl173, List.forall_mem_cons.mpr ⟨pl174, List.forall_mem_cons.mpr ⟨pl175, List.forall_mem_cons.mpr ⟨pl176, List.forall_mem_cons.mpr ⟨pl177, List.forall_mem_cons.mpr ⟨pl178, List.forall_mem_cons.mpr ⟨pl179, fun _ h => absurd h List.not_mem_nil⟩⟩⟩⟩⟩⟩⟩⟩⟩⟩⟩⟩⟩⟩⟩⟩⟩⟩⟩⟩⟩⟩⟩⟩⟩⟩⟩⟩⟩⟩
def pb6 : List Cond := [Cond.code yX6_readTree cX6_readTree 5 (some .int), Cond.instanceMethod yX6_readTree, Cond.selects RX6 yX6_readTree yX6_readTree, Cond.fieldLink RX13 1011 "TongueHouseModel" "treeN" "I", Cond.methodLink RX13 1020 yX13_noTree, Cond.code yX13_noTree cX13_noTree 4 (some .boolean), Cond.instanceMethod yX13_noTree, Cond.selects RX13 yX13_noTree yX13_noTree, Cond.fieldLink RX12 85 "TongueHouse" "plantedSize" "[I", Cond.fieldLink RX13 467 "TongueHouseModel" "placeN" "[I", Cond.methodLink RX13 1030 yX13_takes, Cond.code yX13_takes cX13_takes 3 (some .int), Cond.instanceMethod yX13_takes, Cond.selects RX13 yX13_takes yX13_takes, Cond.methodLink RX12 278 yX12_meaningOf, Cond.code yX12_meaningOf cX12_meaningOf 2 (some .int), Cond.instanceMethod yX12_meaningOf, Cond.selects RX12 yX12_meaningOf yX12_meaningOf, Cond.methodLink RX12 355 yX8_sizeOf, Cond.code yX8_sizeOf cX8_sizeOf 2 (some .int), Cond.instanceMethod yX8_sizeOf, Cond.selects RX8 yX8_sizeOf yX8_sizeOf, Cond.fieldLink RX12 46 "TongueHouse" "chart" "LTongueHouse$Chart;", Cond.fieldLink RX12 346 "TongueHouse$Chart" "nodes" "I", Cond.fieldLink RX12 349 "TongueHouse$Chart" "ways" "I", Cond.fieldLink RX12 352 "TongueHouse$Finder" "collected" "I", Cond.fieldLink RX13 989 "TongueHouseModel" "noted" "I", Cond.fieldLink RX13 992 "TongueHouseModel" "notedWays" "I", Cond.fieldLink RX13 1049 "TongueHouseModel" "collected" "I", Cond.methodLink RX13 845 yX13_noTongue]
set_option maxRecDepth 100000 in
theorem pb6_in : ∀ w ∈ pb6, w ∈ lw_tbl := List.forall_mem_cons.mpr ⟨pl180, List.forall_mem_cons.mpr ⟨pl181, List.forall_mem_cons.mpr ⟨pl182, List.forall_mem_cons.mpr ⟨pl183, List.forall_mem_cons.mpr ⟨pl184, List.forall_mem_cons.mpr ⟨pl185, List.forall_mem_cons.mpr ⟨pl186, List.forall_mem_cons.mpr ⟨pl187, List.forall_mem_cons.mpr ⟨pl188, List.forall_mem_cons.mpr ⟨pl189, List.forall_mem_cons.mpr ⟨pl190, List.forall_mem_cons.mpr ⟨pl191, List.forall_mem_cons.mpr ⟨pl192, List.forall_mem_cons.mpr ⟨pl193, List.forall_mem_cons.mpr ⟨pl194, List.forall_mem_cons.mpr ⟨pl195, List.forall_mem_cons.mpr ⟨pl196, List.forall_mem_cons.mpr ⟨pl197, List.forall_mem_cons.mpr ⟨pl198, List.forall_mem_cons.mpr ⟨pl199, List.forall_mem_cons.mpr ⟨pl200, List.forall_mem_cons.mpr ⟨pl201, List.forall_mem_cons.mpr ⟨pl202, List.forall_mem_cons.mpr ⟨pl203, List.forall_mem_cons.mpr ⟨pl204, List.forall_mem_cons.mpr ⟨pl205, List.forall_mem_cons.mpr ⟨pl206, List.forall_mem_cons.mpr ⟨pl207, List.forall_mem_cons.mpr ⟨pl208, List.forall_mem_cons.mpr ⟨pl209, fun _ h => absurd h List.not_mem_nil⟩⟩⟩⟩⟩⟩⟩⟩⟩⟩⟩⟩⟩⟩⟩⟩⟩⟩⟩⟩⟩⟩⟩⟩⟩⟩⟩⟩⟩⟩
def pb7 : List Cond := [Cond.code yX13_noTongue cX13_noTongue 2 (some .boolean), Cond.instanceMethod yX13_noTongue, Cond.selects RX13 yX13_noTongue yX13_noTongue, Cond.methodLink RL 7 yX12_feed, Cond.code yX12_feed cX12_feed 6 (some .int), Cond.instanceMethod yX12_feed, Cond.selects RX12 yX12_feed yX12_feed, Cond.methodLink RL 15 yX12_end, Cond.code yX12_end cX12_end 2 (some .int), Cond.instanceMethod yX12_end, Cond.selects RX12 yX12_end yX12_end, Cond.classLink RL 19 "java/lang/IllegalArgumentException", Cond.methodLink RL 21 yX12_number, Cond.code yX12_number cX12_number 6 (some .int), Cond.instanceMethod yX12_number, Cond.selects RX12 yX12_number yX12_number, Cond.methodLink RL 31 yX12_analysis, Cond.code yX12_analysis cX12_analysis 3 (some .int), Cond.instanceMethod yX12_analysis, Cond.selects RX12 yX12_analysis yX12_analysis, Cond.methodLink RL 41 yX12_guessed, Cond.code yX12_guessed cX12_guessed 3 (some .int), Cond.instanceMethod yX12_guessed, Cond.selects RX12 yX12_guessed yX12_guessed, Cond.methodLink RL 82 yX12_hit, Cond.code yX12_hit cX12_hit 3 (some .int), Cond.instanceMethod yX12_hit, Cond.selects RX12 yX12_hit yX12_hit, Cond.methodLink RL 51 yX12_reading, Cond.code yX12_reading cX12_reading 4 (some .int)]
set_option maxRecDepth 100000 in
theorem pb7_in : ∀ w ∈ pb7, w ∈ lw_tbl := List.forall_mem_cons.mpr ⟨pl210, List.forall_mem_cons.mpr ⟨pl211, List.forall_mem_cons.mpr ⟨pl212, List.forall_mem_cons.mpr ⟨pl213, List.forall_mem_cons.mpr ⟨pl214, List.forall_mem_cons.mpr ⟨pl215, List.forall_mem_cons.mpr ⟨pl216, List.forall_mem_cons.mpr ⟨pl217, List.forall_mem_cons.mpr ⟨pl218, List.forall_mem_cons.mpr ⟨pl219, List.forall_mem_cons.mpr ⟨pl220, List.forall_mem_cons.mpr ⟨pl221, List.forall_mem_cons.mpr ⟨pl222, List.forall_mem_cons.mpr ⟨pl223, List.forall_mem_cons.mpr ⟨pl224, List.forall_mem_cons.mpr ⟨pl225, List.forall_mem_cons.mpr ⟨pl226, List.forall_mem_cons.mpr ⟨pl227, List.forall_mem_cons.mpr ⟨pl228, List.forall_mem_cons.mpr ⟨pl229, List.forall_mem_cons.mpr ⟨pl230, List.forall_mem_cons.mpr ⟨pl231, List.forall_mem_cons.mpr ⟨pl232, List.forall_mem_cons.mpr ⟨pl233, List.forall_mem_cons.mpr ⟨pl234, List.forall_mem_cons.mpr ⟨pl235, List.forall_mem_cons.mpr ⟨pl236, List.forall_mem_cons.mpr ⟨pl237, List.forall_mem_cons.mpr ⟨pl238, List.forall_mem_cons.mpr ⟨pl239, fun _ h => absurd h List.not_mem_nil⟩⟩⟩⟩⟩⟩⟩⟩⟩⟩⟩⟩⟩⟩⟩⟩⟩⟩⟩⟩⟩⟩⟩⟩⟩⟩⟩⟩⟩⟩
def pb8 : List Cond := [Cond.instanceMethod yX12_reading, Cond.selects RX12 yX12_reading yX12_reading, Cond.methodLink RL 54 yX12_tree, Cond.code yX12_tree cX12_tree 3 (some .int), Cond.instanceMethod yX12_tree, Cond.selects RX12 yX12_tree yX12_tree, Cond.methodLink RL 57 yX12_show, Cond.code yX12_show cX12_show 2 (some .int), Cond.instanceMethod yX12_show, Cond.selects RX12 yX12_show yX12_show, Cond.methodLink RL 60 yX12_same, Cond.code yX12_same cX12_same 4 (some .boolean), Cond.instanceMethod yX12_same, Cond.selects RX12 yX12_same yX12_same, Cond.methodLink RL 67 yX12_mean, Cond.code yX12_mean cX12_mean 3 (some .int), Cond.instanceMethod yX12_mean, Cond.selects RX12 yX12_mean yX12_mean, Cond.methodLink RL 70 yX12_truth, Cond.code yX12_truth cX12_truth 3 (some .int), Cond.instanceMethod yX12_truth, Cond.selects RX12 yX12_truth yX12_truth, Cond.methodLink RL 88 yX12_count, Cond.code yX12_count cX12_count 3 (some .int), Cond.instanceMethod yX12_count, Cond.selects RX12 yX12_count yX12_count, Cond.methodLink RL 25 yX12_sounds, Cond.code yX12_sounds cX12_sounds 4 (some .int), Cond.instanceMethod yX12_sounds, Cond.selects RX12 yX12_sounds yX12_sounds]
set_option maxRecDepth 100000 in
theorem pb8_in : ∀ w ∈ pb8, w ∈ lw_tbl := List.forall_mem_cons.mpr ⟨pl240, List.forall_mem_cons.mpr ⟨pl241, List.forall_mem_cons.mpr ⟨pl242, List.forall_mem_cons.mpr ⟨pl243, List.forall_mem_cons.mpr ⟨pl244, List.forall_mem_cons.mpr ⟨pl245, List.forall_mem_cons.mpr ⟨pl246, List.forall_mem_cons.mpr ⟨pl247, List.forall_mem_cons.mpr ⟨pl248, List.forall_mem_cons.mpr ⟨pl249, List.forall_mem_cons.mpr ⟨pl250, List.forall_mem_cons.mpr ⟨pl251, List.forall_mem_cons.mpr ⟨pl252, List.forall_mem_cons.mpr ⟨pl253, List.forall_mem_cons.mpr ⟨pl254, List.forall_mem_cons.mpr ⟨pl255, List.forall_mem_cons.mpr ⟨pl256, List.forall_mem_cons.mpr ⟨pl257, List.forall_mem_cons.mpr ⟨pl258, List.forall_mem_cons.mpr ⟨pl259, List.forall_mem_cons.mpr ⟨pl260, List.forall_mem_cons.mpr ⟨pl261, List.forall_mem_cons.mpr ⟨pl262, List.forall_mem_cons.mpr ⟨pl263, List.forall_mem_cons.mpr ⟨pl264, List.forall_mem_cons.mpr ⟨pl265, List.forall_mem_cons.mpr ⟨pl266, List.forall_mem_cons.mpr ⟨pl267, List.forall_mem_cons.mpr ⟨pl268, List.forall_mem_cons.mpr ⟨pl269, fun _ h => absurd h List.not_mem_nil⟩⟩⟩⟩⟩⟩⟩⟩⟩⟩⟩⟩⟩⟩⟩⟩⟩⟩⟩⟩⟩⟩⟩⟩⟩⟩⟩⟩⟩⟩
def pb9 : List Cond := [Cond.methodLink RL 28 yX12_analyse, Cond.code yX12_analyse cX12_analyse 4 (some .int), Cond.instanceMethod yX12_analyse, Cond.selects RX12 yX12_analyse yX12_analyse, Cond.methodLink RL 34 yX12_cell, Cond.code yX12_cell cX12_cell 7 (some .int), Cond.instanceMethod yX12_cell, Cond.selects RX12 yX12_cell yX12_cell, Cond.methodLink RL 38 yX12_guess, Cond.code yX12_guess cX12_guess 4 (some .int), Cond.instanceMethod yX12_guess, Cond.selects RX12 yX12_guess yX12_guess, Cond.methodLink RL 44 yX12_parse, Cond.code yX12_parse cX12_parse 5 (some .int), Cond.instanceMethod yX12_parse, Cond.selects RX12 yX12_parse yX12_parse, Cond.methodLink RL 47 yX12_bar, Cond.code yX12_bar cX12_bar 3 (some .long), Cond.instanceMethod yX12_bar, Cond.selects RX12 yX12_bar yX12_bar, Cond.methodLink RL 64 yX12_say, Cond.code yX12_say cX12_say 5 (some .int), Cond.instanceMethod yX12_say, Cond.selects RX12 yX12_say yX12_say, Cond.methodLink RL 73 yX12_swap, Cond.code yX12_swap cX12_swap 9 (some .int), Cond.instanceMethod yX12_swap, Cond.selects RX12 yX12_swap yX12_swap, Cond.methodLink RL 76 yX12_add, Cond.code yX12_add cX12_add 3 (some .int)]
set_option maxRecDepth 100000 in
theorem pb9_in : ∀ w ∈ pb9, w ∈ lw_tbl := List.forall_mem_cons.mpr ⟨pl270, List.forall_mem_cons.mpr ⟨pl271, List.forall_mem_cons.mpr ⟨pl272, List.forall_mem_cons.mpr ⟨pl273, List.forall_mem_cons.mpr ⟨pl274, List.forall_mem_cons.mpr ⟨pl275, List.forall_mem_cons.mpr ⟨pl276, List.forall_mem_cons.mpr ⟨pl277, List.forall_mem_cons.mpr ⟨pl278, List.forall_mem_cons.mpr ⟨pl279, List.forall_mem_cons.mpr ⟨pl280, List.forall_mem_cons.mpr ⟨pl281, List.forall_mem_cons.mpr ⟨pl282, List.forall_mem_cons.mpr ⟨pl283, List.forall_mem_cons.mpr ⟨pl284, List.forall_mem_cons.mpr ⟨pl285, List.forall_mem_cons.mpr ⟨pl286, List.forall_mem_cons.mpr ⟨pl287, List.forall_mem_cons.mpr ⟨pl288, List.forall_mem_cons.mpr ⟨pl289, List.forall_mem_cons.mpr ⟨pl290, List.forall_mem_cons.mpr ⟨pl291, List.forall_mem_cons.mpr ⟨pl292, List.forall_mem_cons.mpr ⟨pl293, List.forall_mem_cons.mpr ⟨pl294, List.forall_mem_cons.mpr ⟨pl295, List.forall_mem_cons.mpr ⟨pl296, List.forall_mem_cons.mpr ⟨pl297, List.forall_mem_cons.mpr ⟨pl298, List.forall_mem_cons.mpr ⟨pl299, fun _ h => absurd h List.not_mem_nil⟩⟩⟩⟩⟩⟩⟩⟩⟩⟩⟩⟩⟩⟩⟩⟩⟩⟩⟩⟩⟩⟩⟩⟩⟩⟩⟩⟩⟩⟩
def pb10 : List Cond := [Cond.instanceMethod yX12_add, Cond.selects RX12 yX12_add yX12_add, Cond.methodLink RL 79 yX12_ask, Cond.code yX12_ask cX12_ask 4 (some .int), Cond.instanceMethod yX12_ask, Cond.selects RX12 yX12_ask yX12_ask, Cond.methodLink RL 85 yX12_mend, Cond.code yX12_mend cX12_mend 10 (some .int), Cond.instanceMethod yX12_mend, Cond.selects RX12 yX12_mend yX12_mend, Cond.fieldLink RJ0 38 "java/lang/String" "COMPACT_STRINGS" "Z", Cond.fieldLink RJ0 15 "java/lang/String" "coder" "B", Cond.fieldLink RJ0 9 "java/lang/String" "value" "[B", Cond.code yJ0_coder_7d493 cJ0_coder_7d493 1 (some .byte), Cond.methodLink RJ0 335 yJ0_coder_7d493, Cond.instanceMethod yJ0_coder_7d493, Cond.selects RJ0 yJ0_coder_7d493 yJ0_coder_7d493, Cond.initialized RJ0, Cond.fieldLink RJ0 1053 "jdk/internal/util/Preconditions" "SIOOBE_FORMATTER" "Ljava/util/function/BiFunction;", Cond.code yJ3_checkIndex_8e157 cJ3_checkIndex_8e157 3 (some .int), Cond.methodLink RJ0 1059 yJ3_checkIndex_8e157, Cond.static yJ3_checkIndex_8e157, Cond.initialized RJ3, Cond.code yJ0_checkIndex_df160 cJ0_checkIndex_df160 2 none, Cond.methodLink RJ1 9 yJ0_checkIndex_df160, Cond.static yJ0_checkIndex_df160, Cond.code yJ0_isLatin1_aae02 cJ0_isLatin1_aae02 1 (some .boolean), Cond.methodLink RJ0 492 yJ0_isLatin1_aae02, Cond.instanceMethod yJ0_isLatin1_aae02, Cond.selects RJ0 yJ0_isLatin1_aae02 yJ0_isLatin1_aae02]
set_option maxRecDepth 100000 in
theorem pb10_in : ∀ w ∈ pb10, w ∈ lw_tbl := List.forall_mem_cons.mpr ⟨pl300, List.forall_mem_cons.mpr ⟨pl301, List.forall_mem_cons.mpr ⟨pl302, List.forall_mem_cons.mpr ⟨pl303, List.forall_mem_cons.mpr ⟨pl304, List.forall_mem_cons.mpr ⟨pl305, List.forall_mem_cons.mpr ⟨pl306, List.forall_mem_cons.mpr ⟨pl307, List.forall_mem_cons.mpr ⟨pl308, List.forall_mem_cons.mpr ⟨pl309, List.forall_mem_cons.mpr ⟨pl310, List.forall_mem_cons.mpr ⟨pl311, List.forall_mem_cons.mpr ⟨pl312, List.forall_mem_cons.mpr ⟨pl313, List.forall_mem_cons.mpr ⟨pl314, List.forall_mem_cons.mpr ⟨pl315, List.forall_mem_cons.mpr ⟨pl316, List.forall_mem_cons.mpr ⟨pl317, List.forall_mem_cons.mpr ⟨pl318, List.forall_mem_cons.mpr ⟨pl319, List.forall_mem_cons.mpr ⟨pl320, List.forall_mem_cons.mpr ⟨pl321, List.forall_mem_cons.mpr ⟨pl322, List.forall_mem_cons.mpr ⟨pl323, List.forall_mem_cons.mpr ⟨pl324, List.forall_mem_cons.mpr ⟨pl325, List.forall_mem_cons.mpr ⟨pl326, List.forall_mem_cons.mpr ⟨pl327, List.forall_mem_cons.mpr ⟨pl328, List.forall_mem_cons.mpr ⟨pl329, fun _ h => absurd h List.not_mem_nil⟩⟩⟩⟩⟩⟩⟩⟩⟩⟩⟩⟩⟩⟩⟩⟩⟩⟩⟩⟩⟩⟩⟩⟩⟩⟩⟩⟩⟩⟩
def pb11 : List Cond := [Cond.code yJ1_charAt_3b067 cJ1_charAt_3b067 2 (some .char), Cond.methodLink RJ0 495 yJ1_charAt_3b067, Cond.static yJ1_charAt_3b067, Cond.initialized RJ1, Cond.code yJ0_length_8abf5 cJ0_length_8abf5 1 (some .int), Cond.methodLink RX13 627 yJ0_length_8abf5, Cond.instanceMethod yJ0_length_8abf5, Cond.selects RJ0 yJ0_length_8abf5 yJ0_length_8abf5, Cond.code yJ0_charAt_5068e cJ0_charAt_5068e 2 (some .char), Cond.methodLink RX13 630 yJ0_charAt_5068e, Cond.instanceMethod yJ0_charAt_5068e, Cond.selects RJ0 yJ0_charAt_5068e yJ0_charAt_5068e, Cond.code yX13_word cX13_word 4 (some .long), Cond.methodLink RX13 199 yX13_word, Cond.static yX13_word, Cond.methodLink RX13 9 objectInit, Cond.instanceMethod objectInit, Cond.code objectInit ⟨#[0xb1]⟩ 1 none, Cond.arrayClass .long, Cond.fieldLink RX13 18 "TongueHouseModel" "tongueName" "[J", Cond.fieldLink RX13 22 "TongueHouseModel" "kindName" "[J", Cond.fieldLink RX13 25 "TongueHouseModel" "funName" "[J", Cond.fieldLink RX13 28 "TongueHouseModel" "thingName" "[J", Cond.fieldLink RX13 31 "TongueHouseModel" "factName" "[J", Cond.arrayClass .int, Cond.fieldLink RX13 34 "TongueHouseModel" "funArgs" "[I", Cond.fieldLink RX13 38 "TongueHouseModel" "funArg" "[I", Cond.fieldLink RX13 41 "TongueHouseModel" "funKind" "[I", Cond.fieldLink RX13 44 "TongueHouseModel" "funPrice" "[I", Cond.fieldLink RX13 47 "TongueHouseModel" "funMean" "[I"]
set_option maxRecDepth 100000 in
theorem pb11_in : ∀ w ∈ pb11, w ∈ lw_tbl := List.forall_mem_cons.mpr ⟨pl330, List.forall_mem_cons.mpr ⟨pl331, List.forall_mem_cons.mpr ⟨pl332, List.forall_mem_cons.mpr ⟨pl333, List.forall_mem_cons.mpr ⟨pl334, List.forall_mem_cons.mpr ⟨pl335, List.forall_mem_cons.mpr ⟨pl336, List.forall_mem_cons.mpr ⟨pl337, List.forall_mem_cons.mpr ⟨pl338, List.forall_mem_cons.mpr ⟨pl339, List.forall_mem_cons.mpr ⟨pl340, List.forall_mem_cons.mpr ⟨pl341, List.forall_mem_cons.mpr ⟨pl342, List.forall_mem_cons.mpr ⟨pl343, List.forall_mem_cons.mpr ⟨pl344, List.forall_mem_cons.mpr ⟨pl345, List.forall_mem_cons.mpr ⟨pl346, List.forall_mem_cons.mpr ⟨pl347, List.forall_mem_cons.mpr ⟨pl348, List.forall_mem_cons.mpr ⟨pl349, List.forall_mem_cons.mpr ⟨pl350, List.forall_mem_cons.mpr ⟨pl351, List.forall_mem_cons.mpr ⟨pl352, List.forall_mem_cons.mpr ⟨pl353, List.forall_mem_cons.mpr ⟨pl354, List.forall_mem_cons.mpr ⟨pl355, List.forall_mem_cons.mpr ⟨pl356, List.forall_mem_cons.mpr ⟨pl357, List.forall_mem_cons.mpr ⟨pl358, List.forall_mem_cons.mpr ⟨pl359, fun _ h => absurd h List.not_mem_nil⟩⟩⟩⟩⟩⟩⟩⟩⟩⟩⟩⟩⟩⟩⟩⟩⟩⟩⟩⟩⟩⟩⟩⟩⟩⟩⟩⟩⟩⟩
def pb12 : List Cond := [Cond.fieldLink RX13 50 "TongueHouseModel" "factA" "[I", Cond.fieldLink RX13 53 "TongueHouseModel" "factB" "[I", Cond.fieldLink RX13 77 "TongueHouseModel" "featureName" "[J", Cond.fieldLink RX13 80 "TongueHouseModel" "valueName" "[J", Cond.fieldLink RX13 83 "TongueHouseModel" "className" "[J", Cond.fieldLink RX13 86 "TongueHouseModel" "patternName" "[J", Cond.fieldLink RX13 89 "TongueHouseModel" "valueFeature" "[I", Cond.fieldLink RX13 92 "TongueHouseModel" "valueNumber" "[I", Cond.fieldLink RX13 95 "TongueHouseModel" "classLetters" "[I", Cond.fieldLink RX13 98 "TongueHouseModel" "soundFrom" "[I", Cond.fieldLink RX13 101 "TongueHouseModel" "soundTo" "[I", Cond.fieldLink RX13 104 "TongueHouseModel" "soundLeft" "[I", Cond.fieldLink RX13 107 "TongueHouseModel" "soundRight" "[I", Cond.fieldLink RX13 110 "TongueHouseModel" "cells" "[I", Cond.fieldLink RX13 113 "TongueHouseModel" "cellValues" "[I", Cond.fieldLink RX13 116 "TongueHouseModel" "cellParts" "[I", Cond.fieldLink RX13 119 "TongueHouseModel" "cellMany" "[I", Cond.constant RX13 122 (42000), Cond.fieldLink RX13 123 "TongueHouseModel" "part" "[I", Cond.fieldLink RX13 126 "TongueHouseModel" "wordFun" "[I", Cond.fieldLink RX13 129 "TongueHouseModel" "wordPattern" "[I", Cond.fieldLink RX13 132 "TongueHouseModel" "wordStem" "[I", Cond.fieldLink RX13 135 "TongueHouseModel" "wordValues" "[I", Cond.fieldLink RX13 138 "TongueHouseModel" "wordPrice" "[I", Cond.fieldLink RX13 141 "TongueHouseModel" "linFun" "[I", Cond.fieldLink RX13 144 "TongueHouseModel" "linItems" "[I", Cond.fieldLink RX13 147 "TongueHouseModel" "linItem" "[I", Cond.fieldLink RX13 150 "TongueHouseModel" "linAsked" "[I", Cond.fieldLink RX13 153 "TongueHouseModel" "linSaid" "[I", Cond.fieldLink RX13 156 "TongueHouseModel" "linHow" "[I"]
set_option maxRecDepth 100000 in
theorem pb12_in : ∀ w ∈ pb12, w ∈ lw_tbl := List.forall_mem_cons.mpr ⟨pl360, List.forall_mem_cons.mpr ⟨pl361, List.forall_mem_cons.mpr ⟨pl362, List.forall_mem_cons.mpr ⟨pl363, List.forall_mem_cons.mpr ⟨pl364, List.forall_mem_cons.mpr ⟨pl365, List.forall_mem_cons.mpr ⟨pl366, List.forall_mem_cons.mpr ⟨pl367, List.forall_mem_cons.mpr ⟨pl368, List.forall_mem_cons.mpr ⟨pl369, List.forall_mem_cons.mpr ⟨pl370, List.forall_mem_cons.mpr ⟨pl371, List.forall_mem_cons.mpr ⟨pl372, List.forall_mem_cons.mpr ⟨pl373, List.forall_mem_cons.mpr ⟨pl374, List.forall_mem_cons.mpr ⟨pl375, List.forall_mem_cons.mpr ⟨pl376, List.forall_mem_cons.mpr ⟨pl377, List.forall_mem_cons.mpr ⟨pl378, List.forall_mem_cons.mpr ⟨pl379, List.forall_mem_cons.mpr ⟨pl380, List.forall_mem_cons.mpr ⟨pl381, List.forall_mem_cons.mpr ⟨pl382, List.forall_mem_cons.mpr ⟨pl383, List.forall_mem_cons.mpr ⟨pl384, List.forall_mem_cons.mpr ⟨pl385, List.forall_mem_cons.mpr ⟨pl386, List.forall_mem_cons.mpr ⟨pl387, List.forall_mem_cons.mpr ⟨pl388, List.forall_mem_cons.mpr ⟨pl389, fun _ h => absurd h List.not_mem_nil⟩⟩⟩⟩⟩⟩⟩⟩⟩⟩⟩⟩⟩⟩⟩⟩⟩⟩⟩⟩⟩⟩⟩⟩⟩⟩⟩⟩⟩⟩
def pb13 : List Cond := [Cond.fieldLink RX13 159 "TongueHouseModel" "linA" "[I", Cond.fieldLink RX13 162 "TongueHouseModel" "linB" "[I", Cond.fieldLink RX13 165 "TongueHouseModel" "linF" "[I", Cond.fieldLink RX13 168 "TongueHouseModel" "linPrice" "[I", Cond.constant RX13 171 (82000), Cond.arrayClass .byte, Cond.fieldLink RX13 172 "TongueHouseModel" "letter" "[B", Cond.fieldLink RX13 176 "TongueHouseModel" "termKind" "[I", Cond.fieldLink RX13 179 "TongueHouseModel" "termA" "[I", Cond.fieldLink RX13 182 "TongueHouseModel" "termB" "[I", Cond.fieldLink RX13 185 "TongueHouseModel" "termName" "[J", Cond.fieldLink RX13 191 "TongueHouseModel" "text" "[B", Cond.fieldLink RX13 194 "TongueHouseModel" "out" "[B", Cond.fieldLink RX13 203 "TongueHouseModel" "W_TONGUE" "J", Cond.fieldLink RX13 209 "TongueHouseModel" "W_KIND" "J", Cond.fieldLink RX13 214 "TongueHouseModel" "W_FUN" "J", Cond.fieldLink RX13 219 "TongueHouseModel" "W_FEATURE" "J", Cond.fieldLink RX13 224 "TongueHouseModel" "W_LETTERS" "J", Cond.fieldLink RX13 229 "TongueHouseModel" "W_SOUND" "J", Cond.fieldLink RX13 234 "TongueHouseModel" "W_PATTERN" "J", Cond.fieldLink RX13 238 "TongueHouseModel" "W_WORD" "J", Cond.fieldLink RX13 243 "TongueHouseModel" "W_LIN" "J", Cond.fieldLink RX13 248 "TongueHouseModel" "W_MEAN" "J", Cond.fieldLink RX13 253 "TongueHouseModel" "W_THING" "J", Cond.fieldLink RX13 258 "TongueHouseModel" "W_FACT" "J", Cond.fieldLink RX13 263 "TongueHouseModel" "W_COST" "J", Cond.fieldLink RX13 268 "TongueHouseModel" "W_HAS" "J", Cond.fieldLink RX13 273 "TongueHouseModel" "W_OF" "J", Cond.fieldLink RX13 278 "TongueHouseModel" "W_AGREE" "J", Cond.fieldLink RX13 283 "TongueHouseModel" "W_GIVE" "J"]
set_option maxRecDepth 100000 in
theorem pb13_in : ∀ w ∈ pb13, w ∈ lw_tbl := List.forall_mem_cons.mpr ⟨pl390, List.forall_mem_cons.mpr ⟨pl391, List.forall_mem_cons.mpr ⟨pl392, List.forall_mem_cons.mpr ⟨pl393, List.forall_mem_cons.mpr ⟨pl394, List.forall_mem_cons.mpr ⟨pl395, List.forall_mem_cons.mpr ⟨pl396, List.forall_mem_cons.mpr ⟨pl397, List.forall_mem_cons.mpr ⟨pl398, List.forall_mem_cons.mpr ⟨pl399, List.forall_mem_cons.mpr ⟨pl400, List.forall_mem_cons.mpr ⟨pl401, List.forall_mem_cons.mpr ⟨pl402, List.forall_mem_cons.mpr ⟨pl403, List.forall_mem_cons.mpr ⟨pl404, List.forall_mem_cons.mpr ⟨pl405, List.forall_mem_cons.mpr ⟨pl406, List.forall_mem_cons.mpr ⟨pl407, List.forall_mem_cons.mpr ⟨pl408, List.forall_mem_cons.mpr ⟨pl409, List.forall_mem_cons.mpr ⟨pl410, List.forall_mem_cons.mpr ⟨pl411, List.forall_mem_cons.mpr ⟨pl412, List.forall_mem_cons.mpr ⟨pl413, List.forall_mem_cons.mpr ⟨pl414, List.forall_mem_cons.mpr ⟨pl415, List.forall_mem_cons.mpr ⟨pl416, List.forall_mem_cons.mpr ⟨pl417, List.forall_mem_cons.mpr ⟨pl418, List.forall_mem_cons.mpr ⟨pl419, fun _ h => absurd h List.not_mem_nil⟩⟩⟩⟩⟩⟩⟩⟩⟩⟩⟩⟩⟩⟩⟩⟩⟩⟩⟩⟩⟩⟩⟩⟩⟩⟩⟩⟩⟩⟩
def pb14 : List Cond := [Cond.fieldLink RX13 289 "TongueHouseModel" "meant" "[I", Cond.fieldLink RX13 292 "TongueHouseModel" "four" "[I", Cond.fieldLink RX13 295 "TongueHouseModel" "six" "[J", Cond.fieldLink RX13 298 "TongueHouseModel" "sides" "[I", Cond.fieldLink RX13 301 "TongueHouseModel" "newValues" "[I", Cond.fieldLink RX13 304 "TongueHouseModel" "newParts" "[I", Cond.fieldLink RX13 307 "TongueHouseModel" "newMany" "[I", Cond.fieldLink RX13 310 "TongueHouseModel" "stems" "[I", Cond.fieldLink RX13 313 "TongueHouseModel" "itemIs" "[I", Cond.fieldLink RX13 316 "TongueHouseModel" "itemAsks" "[I", Cond.fieldLink RX13 319 "TongueHouseModel" "saidHow" "[I", Cond.fieldLink RX13 322 "TongueHouseModel" "saidA" "[I", Cond.fieldLink RX13 325 "TongueHouseModel" "saidB" "[I", Cond.fieldLink RX13 328 "TongueHouseModel" "saidF" "[I", Cond.fieldLink RX13 331 "TongueHouseModel" "argAt" "[I", Cond.fieldLink RX13 334 "TongueHouseModel" "binder" "[J", Cond.fieldLink RX13 337 "TongueHouseModel" "buf" "[B", Cond.fieldLink RX13 340 "TongueHouseModel" "made" "[B", Cond.fieldLink RX13 343 "TongueHouseModel" "formsOf" "I", Cond.fieldLink RX13 346 "TongueHouseModel" "formsAt" "I", Cond.constant RX13 349 (36864), Cond.fieldLink RX13 350 "TongueHouseModel" "formLetter" "[B", Cond.fieldLink RX13 353 "TongueHouseModel" "formSize" "[I", Cond.fieldLink RX13 356 "TongueHouseModel" "found" "[I", Cond.fieldLink RX13 359 "TongueHouseModel" "guessP" "[I", Cond.fieldLink RX13 362 "TongueHouseModel" "guessN" "[I", Cond.fieldLink RX13 365 "TongueHouseModel" "said" "[B", Cond.fieldLink RX13 368 "TongueHouseModel" "other" "[B", Cond.fieldLink RX13 371 "TongueHouseModel" "saidN" "[I", Cond.fieldLink RX13 374 "TongueHouseModel" "otherN" "[I"]
set_option maxRecDepth 100000 in
theorem pb14_in : ∀ w ∈ pb14, w ∈ lw_tbl := List.forall_mem_cons.mpr ⟨pl420, List.forall_mem_cons.mpr ⟨pl421, List.forall_mem_cons.mpr ⟨pl422, List.forall_mem_cons.mpr ⟨pl423, List.forall_mem_cons.mpr ⟨pl424, List.forall_mem_cons.mpr ⟨pl425, List.forall_mem_cons.mpr ⟨pl426, List.forall_mem_cons.mpr ⟨pl427, List.forall_mem_cons.mpr ⟨pl428, List.forall_mem_cons.mpr ⟨pl429, List.forall_mem_cons.mpr ⟨pl430, List.forall_mem_cons.mpr ⟨pl431, List.forall_mem_cons.mpr ⟨pl432, List.forall_mem_cons.mpr ⟨pl433, List.forall_mem_cons.mpr ⟨pl434, List.forall_mem_cons.mpr ⟨pl435, List.forall_mem_cons.mpr ⟨pl436, List.forall_mem_cons.mpr ⟨pl437, List.forall_mem_cons.mpr ⟨pl438, List.forall_mem_cons.mpr ⟨pl439, List.forall_mem_cons.mpr ⟨pl440, List.forall_mem_cons.mpr ⟨pl441, List.forall_mem_cons.mpr ⟨pl442, List.forall_mem_cons.mpr ⟨pl443, List.forall_mem_cons.mpr ⟨pl444, List.forall_mem_cons.mpr ⟨pl445, List.forall_mem_cons.mpr ⟨pl446, List.forall_mem_cons.mpr ⟨pl447, List.forall_mem_cons.mpr ⟨pl448, List.forall_mem_cons.mpr ⟨pl449, fun _ h => absurd h List.not_mem_nil⟩⟩⟩⟩⟩⟩⟩⟩⟩⟩⟩⟩⟩⟩⟩⟩⟩⟩⟩⟩⟩⟩⟩⟩⟩⟩⟩⟩⟩⟩
def pb15 : List Cond := [Cond.fieldLink RX13 377 "TongueHouseModel" "nKind" "[I", Cond.fieldLink RX13 380 "TongueHouseModel" "nTo" "[I", Cond.fieldLink RX13 383 "TongueHouseModel" "nValues" "[I", Cond.fieldLink RX13 386 "TongueHouseModel" "nNext" "[I", Cond.fieldLink RX13 389 "TongueHouseModel" "nAt" "[I", Cond.fieldLink RX13 392 "TongueHouseModel" "nMany" "[I", Cond.fieldLink RX13 395 "TongueHouseModel" "span" "[I", Cond.fieldLink RX13 398 "TongueHouseModel" "yNode" "[I", Cond.fieldLink RX13 401 "TongueHouseModel" "yA" "[I", Cond.fieldLink RX13 404 "TongueHouseModel" "yB" "[I", Cond.fieldLink RX13 407 "TongueHouseModel" "yLin" "[I", Cond.constant RX13 410 (36000), Cond.fieldLink RX13 411 "TongueHouseModel" "yArg" "[I", Cond.fieldLink RX13 414 "TongueHouseModel" "yOrder" "[I", Cond.fieldLink RX13 417 "TongueHouseModel" "eff" "[I", Cond.fieldLink RX13 420 "TongueHouseModel" "fin" "[I", Cond.fieldLink RX13 423 "TongueHouseModel" "argNode" "[I", Cond.fieldLink RX13 426 "TongueHouseModel" "itemNode" "[I", Cond.fieldLink RX13 429 "TongueHouseModel" "nTrees" "[J", Cond.fieldLink RX13 432 "TongueHouseModel" "topN" "[I", Cond.constant RX13 435 (48000), Cond.fieldLink RX13 436 "TongueHouseModel" "topPrice" "[I", Cond.fieldLink RX13 439 "TongueHouseModel" "topWay" "[I", Cond.fieldLink RX13 442 "TongueHouseModel" "topRanks" "[I", Cond.arrayClass .boolean, Cond.fieldLink RX13 445 "TongueHouseModel" "barred" "[Z", Cond.fieldLink RX13 449 "TongueHouseModel" "forest" "I", Cond.fieldLink RX13 452 "TongueHouseModel" "readNode" "[I", Cond.fieldLink RX13 455 "TongueHouseModel" "readRank" "[I", Cond.fieldLink RX13 458 "TongueHouseModel" "readPrice" "[I"]
set_option maxRecDepth 100000 in
theorem pb15_in : ∀ w ∈ pb15, w ∈ lw_tbl := List.forall_mem_cons.mpr ⟨pl450, List.forall_mem_cons.mpr ⟨pl451, List.forall_mem_cons.mpr ⟨pl452, List.forall_mem_cons.mpr ⟨pl453, List.forall_mem_cons.mpr ⟨pl454, List.forall_mem_cons.mpr ⟨pl455, List.forall_mem_cons.mpr ⟨pl456, List.forall_mem_cons.mpr ⟨pl457, List.forall_mem_cons.mpr ⟨pl458, List.forall_mem_cons.mpr ⟨pl459, List.forall_mem_cons.mpr ⟨pl460, List.forall_mem_cons.mpr ⟨pl461, List.forall_mem_cons.mpr ⟨pl462, List.forall_mem_cons.mpr ⟨pl463, List.forall_mem_cons.mpr ⟨pl464, List.forall_mem_cons.mpr ⟨pl465, List.forall_mem_cons.mpr ⟨pl466, List.forall_mem_cons.mpr ⟨pl467, List.forall_mem_cons.mpr ⟨pl468, List.forall_mem_cons.mpr ⟨pl469, List.forall_mem_cons.mpr ⟨pl470, List.forall_mem_cons.mpr ⟨pl471, List.forall_mem_cons.mpr ⟨pl472, List.forall_mem_cons.mpr ⟨pl473, List.forall_mem_cons.mpr ⟨pl474, List.forall_mem_cons.mpr ⟨pl475, List.forall_mem_cons.mpr ⟨pl476, List.forall_mem_cons.mpr ⟨pl477, List.forall_mem_cons.mpr ⟨pl478, List.forall_mem_cons.mpr ⟨pl479, fun _ h => absurd h List.not_mem_nil⟩⟩⟩⟩⟩⟩⟩⟩⟩⟩⟩⟩⟩⟩⟩⟩⟩⟩⟩⟩⟩⟩⟩⟩⟩⟩⟩⟩⟩⟩
def pb16 : List Cond := [Cond.fieldLink RX13 461 "TongueHouseModel" "tree" "[I", Cond.fieldLink RX13 464 "TongueHouseModel" "placeFun" "[I", Cond.constant RX13 470 (288000), Cond.fieldLink RX13 471 "TongueHouseModel" "optText" "[B", Cond.fieldLink RX13 474 "TongueHouseModel" "optSize" "[I", Cond.fieldLink RX13 477 "TongueHouseModel" "optValues" "[I", Cond.fieldLink RX13 480 "TongueHouseModel" "optPrice" "[I", Cond.fieldLink RX13 483 "TongueHouseModel" "optOrder" "[I", Cond.fieldLink RX13 486 "TongueHouseModel" "optN" "[I", Cond.fieldLink RX13 489 "TongueHouseModel" "argTree" "[I", Cond.fieldLink RX13 492 "TongueHouseModel" "picked" "[I", Cond.fieldLink RX13 495 "TongueHouseModel" "candidate" "[B", Cond.fieldLink RX13 498 "TongueHouseModel" "candidateN" "[I", Cond.constant RX13 501 (57600), Cond.fieldLink RX13 502 "TongueHouseModel" "kept" "[B", Cond.fieldLink RX13 505 "TongueHouseModel" "keptN" "[I", Cond.fieldLink RX13 508 "TongueHouseModel" "keptTongue" "[I", Cond.fieldLink RX13 511 "TongueHouseModel" "keptSize" "[I", Cond.fieldLink RX13 514 "TongueHouseModel" "asked" "[I", Cond.fieldLink RX13 517 "TongueHouseModel" "askedN" "[I", Cond.fieldLink RX13 520 "TongueHouseModel" "hitAt" "[I", Cond.fieldLink RX13 523 "TongueHouseModel" "hitWord" "[I", Cond.fieldLink RX13 526 "TongueHouseModel" "hKind" "[I", Cond.fieldLink RX13 529 "TongueHouseModel" "hA" "[I", Cond.fieldLink RX13 532 "TongueHouseModel" "hB" "[I", Cond.fieldLink RX13 535 "TongueHouseModel" "hName" "[J", Cond.fieldLink RX13 538 "TongueHouseModel" "bound" "[I", Cond.fieldLink RX13 543 "TongueHouseModel" "W_AND" "J", Cond.fieldLink RX13 548 "TongueHouseModel" "W_OR" "J", Cond.fieldLink RX13 553 "TongueHouseModel" "W_IF" "J"]
set_option maxRecDepth 100000 in
theorem pb16_in : ∀ w ∈ pb16, w ∈ lw_tbl := List.forall_mem_cons.mpr ⟨pl480, List.forall_mem_cons.mpr ⟨pl481, List.forall_mem_cons.mpr ⟨pl482, List.forall_mem_cons.mpr ⟨pl483, List.forall_mem_cons.mpr ⟨pl484, List.forall_mem_cons.mpr ⟨pl485, List.forall_mem_cons.mpr ⟨pl486, List.forall_mem_cons.mpr ⟨pl487, List.forall_mem_cons.mpr ⟨pl488, List.forall_mem_cons.mpr ⟨pl489, List.forall_mem_cons.mpr ⟨pl490, List.forall_mem_cons.mpr ⟨pl491, List.forall_mem_cons.mpr ⟨pl492, List.forall_mem_cons.mpr ⟨pl493, List.forall_mem_cons.mpr ⟨pl494, List.forall_mem_cons.mpr ⟨pl495, List.forall_mem_cons.mpr ⟨pl496, List.forall_mem_cons.mpr ⟨pl497, List.forall_mem_cons.mpr ⟨pl498, List.forall_mem_cons.mpr ⟨pl499, List.forall_mem_cons.mpr ⟨pl500, List.forall_mem_cons.mpr ⟨pl501, List.forall_mem_cons.mpr ⟨pl502, List.forall_mem_cons.mpr ⟨pl503, List.forall_mem_cons.mpr ⟨pl504, List.forall_mem_cons.mpr ⟨pl505, List.forall_mem_cons.mpr ⟨pl506, List.forall_mem_cons.mpr ⟨pl507, List.forall_mem_cons.mpr ⟨pl508, List.forall_mem_cons.mpr ⟨pl509, fun _ h => absurd h List.not_mem_nil⟩⟩⟩⟩⟩⟩⟩⟩⟩⟩⟩⟩⟩⟩⟩⟩⟩⟩⟩⟩⟩⟩⟩⟩⟩⟩⟩⟩⟩⟩
def pb17 : List Cond := [Cond.fieldLink RX13 558 "TongueHouseModel" "W_NOT" "J", Cond.fieldLink RX13 563 "TongueHouseModel" "W_ALL" "J", Cond.fieldLink RX13 568 "TongueHouseModel" "W_SOME" "J", Cond.fieldLink RX13 573 "TongueHouseModel" "W_IS" "J", Cond.classLink RL 8 RX12, Cond.instantiable RX12 17, Cond.classLink RL 92 RX13, Cond.instantiable RX13 229, Cond.methodLink RL 94 yX13_init, Cond.instanceMethod yX13_init, Cond.code yX13_init cX13_init 2 none, Cond.codeWith yL_feed cL_feed 8 (some .int) [(0, 16, 19, 13)], Cond.methodLink RL 95 yL_feed, Cond.static yL_feed, Cond.initialized RL, Cond.code yX13_feed cX13_feed 6 (some .int), Cond.methodLink RL 100 yX13_feed, Cond.instanceMethod yX13_feed, Cond.selects RX13 yX13_feed yX13_feed, Cond.code yX13_thrown cX13_thrown 1 (some .int), Cond.methodLink RL 101 yX13_thrown, Cond.instanceMethod yX13_thrown, Cond.selects RX13 yX13_thrown yX13_thrown, Cond.codeWith yL_end cL_end 4 (some .int) [(0, 9, 12, 19)], Cond.methodLink RL 105 yL_end, Cond.static yL_end, Cond.code yX13_end cX13_end 2 (some .int), Cond.methodLink RL 108 yX13_end, Cond.instanceMethod yX13_end, Cond.selects RX13 yX13_end yX13_end]
set_option maxRecDepth 100000 in
theorem pb17_in : ∀ w ∈ pb17, w ∈ lw_tbl := List.forall_mem_cons.mpr ⟨pl510, List.forall_mem_cons.mpr ⟨pl511, List.forall_mem_cons.mpr ⟨pl512, List.forall_mem_cons.mpr ⟨pl513, List.forall_mem_cons.mpr ⟨pl514, List.forall_mem_cons.mpr ⟨pl515, List.forall_mem_cons.mpr ⟨pl516, List.forall_mem_cons.mpr ⟨pl517, List.forall_mem_cons.mpr ⟨pl518, List.forall_mem_cons.mpr ⟨pl519, List.forall_mem_cons.mpr ⟨pl520, List.forall_mem_cons.mpr ⟨pl521, List.forall_mem_cons.mpr ⟨pl522, List.forall_mem_cons.mpr ⟨pl523, List.forall_mem_cons.mpr ⟨pl524, List.forall_mem_cons.mpr ⟨pl525, List.forall_mem_cons.mpr ⟨pl526, List.forall_mem_cons.mpr ⟨pl527, List.forall_mem_cons.mpr ⟨pl528, List.forall_mem_cons.mpr ⟨pl529, List.forall_mem_cons.mpr ⟨pl530, List.forall_mem_cons.mpr ⟨pl531, List.forall_mem_cons.mpr ⟨pl532, List.forall_mem_cons.mpr ⟨pl533, List.forall_mem_cons.mpr ⟨pl534, List.forall_mem_cons.mpr ⟨pl535, List.forall_mem_cons.mpr ⟨pl536, List.forall_mem_cons.mpr ⟨pl537, List.forall_mem_cons.mpr ⟨pl538, List.forall_mem_cons.mpr ⟨pl539, fun _ h => absurd h List.not_mem_nil⟩⟩⟩⟩⟩⟩⟩⟩⟩⟩⟩⟩⟩⟩⟩⟩⟩⟩⟩⟩⟩⟩⟩⟩⟩⟩⟩⟩⟩⟩
def pb18 : List Cond := [Cond.code yX12_module cX12_module 2 (some .int), Cond.methodLink RL 109 yX12_module, Cond.instanceMethod yX12_module, Cond.selects RX12 yX12_module yX12_module, Cond.code yX13_module cX13_module 2 (some .int), Cond.methodLink RL 112 yX13_module, Cond.instanceMethod yX13_module, Cond.selects RX13 yX13_module yX13_module, Cond.code yX12_rule cX12_rule 1 (some .int), Cond.methodLink RL 113 yX12_rule, Cond.instanceMethod yX12_rule, Cond.selects RX12 yX12_rule yX12_rule, Cond.code yX13_rule cX13_rule 1 (some .int), Cond.methodLink RL 116 yX13_rule, Cond.instanceMethod yX13_rule, Cond.selects RX13 yX13_rule yX13_rule, Cond.code yX12_out cX12_out 2 (some .int), Cond.methodLink RL 117 yX12_out, Cond.instanceMethod yX12_out, Cond.selects RX12 yX12_out yX12_out, Cond.code yX13_out cX13_out 2 (some .int), Cond.methodLink RL 120 yX13_out, Cond.instanceMethod yX13_out, Cond.selects RX13 yX13_out yX13_out, Cond.codeWith yL_number cL_number 5 (some .int) [(0, 10, 13, 19)], Cond.methodLink RL 121 yL_number, Cond.static yL_number, Cond.code yX13_number cX13_number 5 (some .int), Cond.methodLink RL 124 yX13_number, Cond.instanceMethod yX13_number]
set_option maxRecDepth 100000 in
theorem pb18_in : ∀ w ∈ pb18, w ∈ lw_tbl := List.forall_mem_cons.mpr ⟨pl540, List.forall_mem_cons.mpr ⟨pl541, List.forall_mem_cons.mpr ⟨pl542, List.forall_mem_cons.mpr ⟨pl543, List.forall_mem_cons.mpr ⟨pl544, List.forall_mem_cons.mpr ⟨pl545, List.forall_mem_cons.mpr ⟨pl546, List.forall_mem_cons.mpr ⟨pl547, List.forall_mem_cons.mpr ⟨pl548, List.forall_mem_cons.mpr ⟨pl549, List.forall_mem_cons.mpr ⟨pl550, List.forall_mem_cons.mpr ⟨pl551, List.forall_mem_cons.mpr ⟨pl552, List.forall_mem_cons.mpr ⟨pl553, List.forall_mem_cons.mpr ⟨pl554, List.forall_mem_cons.mpr ⟨pl555, List.forall_mem_cons.mpr ⟨pl556, List.forall_mem_cons.mpr ⟨pl557, List.forall_mem_cons.mpr ⟨pl558, List.forall_mem_cons.mpr ⟨pl559, List.forall_mem_cons.mpr ⟨pl560, List.forall_mem_cons.mpr ⟨pl561, List.forall_mem_cons.mpr ⟨pl562, List.forall_mem_cons.mpr ⟨pl563, List.forall_mem_cons.mpr ⟨pl564, List.forall_mem_cons.mpr ⟨pl565, List.forall_mem_cons.mpr ⟨pl566, List.forall_mem_cons.mpr ⟨pl567, List.forall_mem_cons.mpr ⟨pl568, List.forall_mem_cons.mpr ⟨pl569, fun _ h => absurd h List.not_mem_nil⟩⟩⟩⟩⟩⟩⟩⟩⟩⟩⟩⟩⟩⟩⟩⟩⟩⟩⟩⟩⟩⟩⟩⟩⟩⟩⟩⟩⟩⟩
def pb19 : List Cond := [Cond.selects RX13 yX13_number yX13_number, Cond.codeWith yL_sounds cL_sounds 4 (some .int) [(0, 9, 12, 19)], Cond.methodLink RL 125 yL_sounds, Cond.static yL_sounds, Cond.code yX13_sounds cX13_sounds 3 (some .int), Cond.methodLink RL 127 yX13_sounds, Cond.instanceMethod yX13_sounds, Cond.selects RX13 yX13_sounds yX13_sounds, Cond.codeWith yL_analyse cL_analyse 4 (some .int) [(0, 9, 12, 19)], Cond.methodLink RL 128 yL_analyse, Cond.static yL_analyse, Cond.code yX13_analyse cX13_analyse 5 (some .int), Cond.methodLink RL 130 yX13_analyse, Cond.instanceMethod yX13_analyse, Cond.selects RX13 yX13_analyse yX13_analyse, Cond.codeWith yL_analysis cL_analysis 5 (some .int) [(0, 10, 13, 19)], Cond.methodLink RL 131 yL_analysis, Cond.static yL_analysis, Cond.code yX13_analysis cX13_analysis 6 (some .int), Cond.methodLink RL 133 yX13_analysis, Cond.instanceMethod yX13_analysis, Cond.selects RX13 yX13_analysis yX13_analysis, Cond.codeWith yL_cell cL_cell 6 (some .int) [(0, 12, 15, 19)], Cond.methodLink RL 134 yL_cell, Cond.static yL_cell, Cond.code yX13_cell cX13_cell 5 (some .int), Cond.methodLink RL 137 yX13_cell, Cond.instanceMethod yX13_cell, Cond.selects RX13 yX13_cell yX13_cell, Cond.codeWith yL_guess cL_guess 4 (some .int) [(0, 9, 12, 19)]]
set_option maxRecDepth 100000 in
theorem pb19_in : ∀ w ∈ pb19, w ∈ lw_tbl := List.forall_mem_cons.mpr ⟨pl570, List.forall_mem_cons.mpr ⟨pl571, List.forall_mem_cons.mpr ⟨pl572, List.forall_mem_cons.mpr ⟨pl573, List.forall_mem_cons.mpr ⟨pl574, List.forall_mem_cons.mpr ⟨pl575, List.forall_mem_cons.mpr ⟨pl576, List.forall_mem_cons.mpr ⟨pl577, List.forall_mem_cons.mpr ⟨pl578, List.forall_mem_cons.mpr ⟨pl579, List.forall_mem_cons.mpr ⟨pl580, List.forall_mem_cons.mpr ⟨pl581, List.forall_mem_cons.mpr ⟨pl582, List.forall_mem_cons.mpr ⟨pl583, List.forall_mem_cons.mpr ⟨pl584, List.forall_mem_cons.mpr ⟨pl585, List.forall_mem_cons.mpr ⟨pl586, List.forall_mem_cons.mpr ⟨pl587, List.forall_mem_cons.mpr ⟨pl588, List.forall_mem_cons.mpr ⟨pl589, List.forall_mem_cons.mpr ⟨pl590, List.forall_mem_cons.mpr ⟨pl591, List.forall_mem_cons.mpr ⟨pl592, List.forall_mem_cons.mpr ⟨pl593, List.forall_mem_cons.mpr ⟨pl594, List.forall_mem_cons.mpr ⟨pl595, List.forall_mem_cons.mpr ⟨pl596, List.forall_mem_cons.mpr ⟨pl597, List.forall_mem_cons.mpr ⟨pl598, List.forall_mem_cons.mpr ⟨pl599, fun _ h => absurd h List.not_mem_nil⟩⟩⟩⟩⟩⟩⟩⟩⟩⟩⟩⟩⟩⟩⟩⟩⟩⟩⟩⟩⟩⟩⟩⟩⟩⟩⟩⟩⟩⟩
def pb20 : List Cond := [Cond.methodLink RL 138 yL_guess, Cond.static yL_guess, Cond.code yX13_guess cX13_guess 8 (some .int), Cond.methodLink RL 140 yX13_guess, Cond.instanceMethod yX13_guess, Cond.selects RX13 yX13_guess yX13_guess, Cond.codeWith yL_guessed cL_guessed 5 (some .int) [(0, 10, 13, 19)], Cond.methodLink RL 141 yL_guessed, Cond.static yL_guessed, Cond.code yX13_guessed cX13_guessed 3 (some .int), Cond.methodLink RL 143 yX13_guessed, Cond.instanceMethod yX13_guessed, Cond.selects RX13 yX13_guessed yX13_guessed, Cond.codeWith yL_parse cL_parse 5 (some .int) [(0, 10, 13, 19)], Cond.methodLink RL 144 yL_parse, Cond.static yL_parse, Cond.code yX13_parse cX13_parse 3 (some .int), Cond.methodLink RL 146 yX13_parse, Cond.instanceMethod yX13_parse, Cond.selects RX13 yX13_parse yX13_parse, Cond.code yX12_trees cX12_trees 1 (some .long), Cond.methodLink RL 147 yX12_trees, Cond.instanceMethod yX12_trees, Cond.selects RX12 yX12_trees yX12_trees, Cond.code yX13_trees cX13_trees 1 (some .long), Cond.methodLink RL 151 yX13_trees, Cond.instanceMethod yX13_trees, Cond.selects RX13 yX13_trees yX13_trees, Cond.codeWith yL_bar cL_bar 5 (some .int) [(0, 9, 12, 19)], Cond.methodLink RL 152 yL_bar]
set_option maxRecDepth 100000 in
theorem pb20_in : ∀ w ∈ pb20, w ∈ lw_tbl := List.forall_mem_cons.mpr ⟨pl600, List.forall_mem_cons.mpr ⟨pl601, List.forall_mem_cons.mpr ⟨pl602, List.forall_mem_cons.mpr ⟨pl603, List.forall_mem_cons.mpr ⟨pl604, List.forall_mem_cons.mpr ⟨pl605, List.forall_mem_cons.mpr ⟨pl606, List.forall_mem_cons.mpr ⟨pl607, List.forall_mem_cons.mpr ⟨pl608, List.forall_mem_cons.mpr ⟨pl609, List.forall_mem_cons.mpr ⟨pl610, List.forall_mem_cons.mpr ⟨pl611, List.forall_mem_cons.mpr ⟨pl612, List.forall_mem_cons.mpr ⟨pl613, List.forall_mem_cons.mpr ⟨pl614, List.forall_mem_cons.mpr ⟨pl615, List.forall_mem_cons.mpr ⟨pl616, List.forall_mem_cons.mpr ⟨pl617, List.forall_mem_cons.mpr ⟨pl618, List.forall_mem_cons.mpr ⟨pl619, List.forall_mem_cons.mpr ⟨pl620, List.forall_mem_cons.mpr ⟨pl621, List.forall_mem_cons.mpr ⟨pl622, List.forall_mem_cons.mpr ⟨pl623, List.forall_mem_cons.mpr ⟨pl624, List.forall_mem_cons.mpr ⟨pl625, List.forall_mem_cons.mpr ⟨pl626, List.forall_mem_cons.mpr ⟨pl627, List.forall_mem_cons.mpr ⟨pl628, List.forall_mem_cons.mpr ⟨pl629, fun _ h => absurd h List.not_mem_nil⟩⟩⟩⟩⟩⟩⟩⟩⟩⟩⟩⟩⟩⟩⟩⟩⟩⟩⟩⟩⟩⟩⟩⟩⟩⟩⟩⟩⟩⟩
def pb21 : List Cond := [Cond.static yL_bar, Cond.code yX13_bar cX13_bar 3 (some .long), Cond.methodLink RL 155 yX13_bar, Cond.instanceMethod yX13_bar, Cond.selects RX13 yX13_bar yX13_bar, Cond.code yX12_price cX12_price 2 (some .int), Cond.methodLink RL 156 yX12_price, Cond.instanceMethod yX12_price, Cond.selects RX12 yX12_price yX12_price, Cond.code yX13_price cX13_price 2 (some .int), Cond.methodLink RL 159 yX13_price, Cond.instanceMethod yX13_price, Cond.selects RX13 yX13_price yX13_price, Cond.codeWith yL_reading cL_reading 5 (some .int) [(0, 10, 13, 19)], Cond.methodLink RL 160 yL_reading, Cond.static yL_reading, Cond.code yX13_reading cX13_reading 4 (some .int), Cond.methodLink RL 162 yX13_reading, Cond.instanceMethod yX13_reading, Cond.selects RX13 yX13_reading yX13_reading, Cond.codeWith yL_tree cL_tree 4 (some .int) [(0, 9, 12, 19)], Cond.methodLink RL 163 yL_tree, Cond.static yL_tree, Cond.code yX13_tree cX13_tree 3 (some .int), Cond.methodLink RL 165 yX13_tree, Cond.instanceMethod yX13_tree, Cond.selects RX13 yX13_tree yX13_tree, Cond.codeWith yL_show cL_show 4 (some .int) [(0, 9, 12, 19)], Cond.methodLink RL 166 yL_show, Cond.static yL_show]
set_option maxRecDepth 100000 in
theorem pb21_in : ∀ w ∈ pb21, w ∈ lw_tbl := List.forall_mem_cons.mpr ⟨pl630, List.forall_mem_cons.mpr ⟨pl631, List.forall_mem_cons.mpr ⟨pl632, List.forall_mem_cons.mpr ⟨pl633, List.forall_mem_cons.mpr ⟨pl634, List.forall_mem_cons.mpr ⟨pl635, List.forall_mem_cons.mpr ⟨pl636, List.forall_mem_cons.mpr ⟨pl637, List.forall_mem_cons.mpr ⟨pl638, List.forall_mem_cons.mpr ⟨pl639, List.forall_mem_cons.mpr ⟨pl640, List.forall_mem_cons.mpr ⟨pl641, List.forall_mem_cons.mpr ⟨pl642, List.forall_mem_cons.mpr ⟨pl643, List.forall_mem_cons.mpr ⟨pl644, List.forall_mem_cons.mpr ⟨pl645, List.forall_mem_cons.mpr ⟨pl646, List.forall_mem_cons.mpr ⟨pl647, List.forall_mem_cons.mpr ⟨pl648, List.forall_mem_cons.mpr ⟨pl649, List.forall_mem_cons.mpr ⟨pl650, List.forall_mem_cons.mpr ⟨pl651, List.forall_mem_cons.mpr ⟨pl652, List.forall_mem_cons.mpr ⟨pl653, List.forall_mem_cons.mpr ⟨pl654, List.forall_mem_cons.mpr ⟨pl655, List.forall_mem_cons.mpr ⟨pl656, List.forall_mem_cons.mpr ⟨pl657, List.forall_mem_cons.mpr ⟨pl658, List.forall_mem_cons.mpr ⟨pl659, fun _ h => absurd h List.not_mem_nil⟩⟩⟩⟩⟩⟩⟩⟩⟩⟩⟩⟩⟩⟩⟩⟩⟩⟩⟩⟩⟩⟩⟩⟩⟩⟩⟩⟩⟩⟩
def pb22 : List Cond := [Cond.code yX13_show cX13_show 2 (some .int), Cond.methodLink RL 168 yX13_show, Cond.instanceMethod yX13_show, Cond.selects RX13 yX13_show yX13_show, Cond.codeWith yL_same cL_same 5 (some .int) [(0, 17, 20, 19)], Cond.methodLink RL 169 yL_same, Cond.static yL_same, Cond.code yX13_same cX13_same 4 (some .boolean), Cond.methodLink RL 171 yX13_same, Cond.instanceMethod yX13_same, Cond.selects RX13 yX13_same yX13_same, Cond.codeWith yL_say cL_say 6 (some .int) [(0, 12, 15, 19)], Cond.methodLink RL 172 yL_say, Cond.static yL_say, Cond.code yX13_say cX13_say 6 (some .int), Cond.methodLink RL 174 yX13_say, Cond.instanceMethod yX13_say, Cond.selects RX13 yX13_say yX13_say, Cond.codeWith yL_mean cL_mean 4 (some .int) [(0, 9, 12, 19)], Cond.methodLink RL 175 yL_mean, Cond.static yL_mean, Cond.code yX13_mean_ cX13_mean_ 3 (some .int), Cond.methodLink RL 177 yX13_mean_, Cond.instanceMethod yX13_mean_, Cond.selects RX13 yX13_mean_ yX13_mean_, Cond.codeWith yL_truth cL_truth 4 (some .int) [(0, 9, 12, 19)], Cond.methodLink RL 178 yL_truth, Cond.static yL_truth, Cond.code yX13_truth cX13_truth 3 (some .int), Cond.methodLink RL 180 yX13_truth]
set_option maxRecDepth 100000 in
theorem pb22_in : ∀ w ∈ pb22, w ∈ lw_tbl := List.forall_mem_cons.mpr ⟨pl660, List.forall_mem_cons.mpr ⟨pl661, List.forall_mem_cons.mpr ⟨pl662, List.forall_mem_cons.mpr ⟨pl663, List.forall_mem_cons.mpr ⟨pl664, List.forall_mem_cons.mpr ⟨pl665, List.forall_mem_cons.mpr ⟨pl666, List.forall_mem_cons.mpr ⟨pl667, List.forall_mem_cons.mpr ⟨pl668, List.forall_mem_cons.mpr ⟨pl669, List.forall_mem_cons.mpr ⟨pl670, List.forall_mem_cons.mpr ⟨pl671, List.forall_mem_cons.mpr ⟨pl672, List.forall_mem_cons.mpr ⟨pl673, List.forall_mem_cons.mpr ⟨pl674, List.forall_mem_cons.mpr ⟨pl675, List.forall_mem_cons.mpr ⟨pl676, List.forall_mem_cons.mpr ⟨pl677, List.forall_mem_cons.mpr ⟨pl678, List.forall_mem_cons.mpr ⟨pl679, List.forall_mem_cons.mpr ⟨pl680, List.forall_mem_cons.mpr ⟨pl681, List.forall_mem_cons.mpr ⟨pl682, List.forall_mem_cons.mpr ⟨pl683, List.forall_mem_cons.mpr ⟨pl684, List.forall_mem_cons.mpr ⟨pl685, List.forall_mem_cons.mpr ⟨pl686, List.forall_mem_cons.mpr ⟨pl687, List.forall_mem_cons.mpr ⟨pl688, List.forall_mem_cons.mpr ⟨pl689, fun _ h => absurd h List.not_mem_nil⟩⟩⟩⟩⟩⟩⟩⟩⟩⟩⟩⟩⟩⟩⟩⟩⟩⟩⟩⟩⟩⟩⟩⟩⟩⟩⟩⟩⟩⟩
def pb23 : List Cond := [Cond.instanceMethod yX13_truth, Cond.selects RX13 yX13_truth yX13_truth, Cond.codeWith yL_swap cL_swap 6 (some .int) [(0, 12, 15, 19)], Cond.methodLink RL 181 yL_swap, Cond.static yL_swap, Cond.code yX13_swap cX13_swap 9 (some .int), Cond.methodLink RL 183 yX13_swap, Cond.instanceMethod yX13_swap, Cond.selects RX13 yX13_swap yX13_swap, Cond.code yX12_candidate cX12_candidate 2 (some .int), Cond.methodLink RL 184 yX12_candidate, Cond.instanceMethod yX12_candidate, Cond.selects RX12 yX12_candidate yX12_candidate, Cond.code yX13_candidate cX13_candidate 3 (some .int), Cond.methodLink RL 187 yX13_candidate, Cond.instanceMethod yX13_candidate, Cond.selects RX13 yX13_candidate yX13_candidate, Cond.codeWith yL_add cL_add 4 (some .int) [(0, 9, 12, 19), (0, 9, 15, 13)], Cond.methodLink RL 188 yL_add, Cond.static yL_add, Cond.code yX13_add cX13_add 4 (some .int), Cond.methodLink RL 190 yX13_add, Cond.instanceMethod yX13_add, Cond.selects RX13 yX13_add yX13_add, Cond.codeWith yL_ask cL_ask 4 (some .int) [(0, 9, 12, 19)], Cond.methodLink RL 191 yL_ask, Cond.static yL_ask, Cond.code yX13_ask cX13_ask 7 (some .int), Cond.methodLink RL 193 yX13_ask, Cond.instanceMethod yX13_ask]
set_option maxRecDepth 100000 in
theorem pb23_in : ∀ w ∈ pb23, w ∈ lw_tbl := List.forall_mem_cons.mpr ⟨pl690, List.forall_mem_cons.mpr ⟨pl691, List.forall_mem_cons.mpr ⟨pl692, List.forall_mem_cons.mpr ⟨pl693, List.forall_mem_cons.mpr ⟨pl694, List.forall_mem_cons.mpr ⟨pl695, List.forall_mem_cons.mpr ⟨pl696, List.forall_mem_cons.mpr ⟨pl697, List.forall_mem_cons.mpr ⟨pl698, List.forall_mem_cons.mpr ⟨pl699, List.forall_mem_cons.mpr ⟨pl700, List.forall_mem_cons.mpr ⟨pl701, List.forall_mem_cons.mpr ⟨pl702, List.forall_mem_cons.mpr ⟨pl703, List.forall_mem_cons.mpr ⟨pl704, List.forall_mem_cons.mpr ⟨pl705, List.forall_mem_cons.mpr ⟨pl706, List.forall_mem_cons.mpr ⟨pl707, List.forall_mem_cons.mpr ⟨pl708, List.forall_mem_cons.mpr ⟨pl709, List.forall_mem_cons.mpr ⟨pl710, List.forall_mem_cons.mpr ⟨pl711, List.forall_mem_cons.mpr ⟨pl712, List.forall_mem_cons.mpr ⟨pl713, List.forall_mem_cons.mpr ⟨pl714, List.forall_mem_cons.mpr ⟨pl715, List.forall_mem_cons.mpr ⟨pl716, List.forall_mem_cons.mpr ⟨pl717, List.forall_mem_cons.mpr ⟨pl718, List.forall_mem_cons.mpr ⟨pl719, fun _ h => absurd h List.not_mem_nil⟩⟩⟩⟩⟩⟩⟩⟩⟩⟩⟩⟩⟩⟩⟩⟩⟩⟩⟩⟩⟩⟩⟩⟩⟩⟩⟩⟩⟩⟩
def pb24 : List Cond := [Cond.selects RX13 yX13_ask yX13_ask, Cond.codeWith yL_hit cL_hit 5 (some .int) [(0, 10, 13, 19)], Cond.methodLink RL 194 yL_hit, Cond.static yL_hit, Cond.code yX13_hit cX13_hit 3 (some .int), Cond.methodLink RL 196 yX13_hit, Cond.instanceMethod yX13_hit, Cond.selects RX13 yX13_hit yX13_hit, Cond.codeWith yL_mend cL_mend 5 (some .int) [(0, 10, 13, 19)], Cond.methodLink RL 197 yL_mend, Cond.static yL_mend, Cond.code yX13_mend cX13_mend 4 (some .int), Cond.methodLink RL 199 yX13_mend, Cond.instanceMethod yX13_mend, Cond.selects RX13 yX13_mend yX13_mend, Cond.codeWith yL_count cL_count 5 (some .int) [(0, 10, 13, 19)], Cond.methodLink RL 200 yL_count, Cond.static yL_count, Cond.code yX13_count cX13_count 3 (some .int), Cond.methodLink RL 202 yX13_count, Cond.instanceMethod yX13_count, Cond.selects RX13 yX13_count yX13_count]
set_option maxRecDepth 100000 in
theorem pb24_in : ∀ w ∈ pb24, w ∈ lw_tbl := List.forall_mem_cons.mpr ⟨pl720, List.forall_mem_cons.mpr ⟨pl721, List.forall_mem_cons.mpr ⟨pl722, List.forall_mem_cons.mpr ⟨pl723, List.forall_mem_cons.mpr ⟨pl724, List.forall_mem_cons.mpr ⟨pl725, List.forall_mem_cons.mpr ⟨pl726, List.forall_mem_cons.mpr ⟨pl727, List.forall_mem_cons.mpr ⟨pl728, List.forall_mem_cons.mpr ⟨pl729, List.forall_mem_cons.mpr ⟨pl730, List.forall_mem_cons.mpr ⟨pl731, List.forall_mem_cons.mpr ⟨pl732, List.forall_mem_cons.mpr ⟨pl733, List.forall_mem_cons.mpr ⟨pl734, List.forall_mem_cons.mpr ⟨pl735, List.forall_mem_cons.mpr ⟨pl736, List.forall_mem_cons.mpr ⟨pl737, List.forall_mem_cons.mpr ⟨pl738, List.forall_mem_cons.mpr ⟨pl739, List.forall_mem_cons.mpr ⟨pl740, List.forall_mem_cons.mpr ⟨pl741, fun _ h => absurd h List.not_mem_nil⟩⟩⟩⟩⟩⟩⟩⟩⟩⟩⟩⟩⟩⟩⟩⟩⟩⟩⟩⟩⟩⟩
set_option maxRecDepth 100000 in
theorem pb_split : pp_w0 = pb0 ++ (pb1 ++ (pb2 ++ (pb3 ++ (pb4 ++ (pb5 ++ (pb6 ++ (pb7 ++ (pb8 ++ (pb9 ++ (pb10 ++ (pb11 ++ (pb12 ++ (pb13 ++ (pb14 ++ (pb15 ++ (pb16 ++ (pb17 ++ (pb18 ++ (pb19 ++ (pb20 ++ (pb21 ++ (pb22 ++ (pb23 ++ (pb24)))))))))))))))))))))))) := rfl
theorem pb_all : ∀ w ∈ pp_w0, w ∈ lw_tbl := by
  rw [pb_split]
  exact List.forall_mem_append.mpr ⟨pb0_in, List.forall_mem_append.mpr ⟨pb1_in, List.forall_mem_append.mpr ⟨pb2_in, List.forall_mem_append.mpr ⟨pb3_in, List.forall_mem_append.mpr ⟨pb4_in, List.forall_mem_append.mpr ⟨pb5_in, List.forall_mem_append.mpr ⟨pb6_in, List.forall_mem_append.mpr ⟨pb7_in, List.forall_mem_append.mpr ⟨pb8_in, List.forall_mem_append.mpr ⟨pb9_in, List.forall_mem_append.mpr ⟨pb10_in, List.forall_mem_append.mpr ⟨pb11_in, List.forall_mem_append.mpr ⟨pb12_in, List.forall_mem_append.mpr ⟨pb13_in, List.forall_mem_append.mpr ⟨pb14_in, List.forall_mem_append.mpr ⟨pb15_in, List.forall_mem_append.mpr ⟨pb16_in, List.forall_mem_append.mpr ⟨pb17_in, List.forall_mem_append.mpr ⟨pb18_in, List.forall_mem_append.mpr ⟨pb19_in, List.forall_mem_append.mpr ⟨pb20_in, List.forall_mem_append.mpr ⟨pb21_in, List.forall_mem_append.mpr ⟨pb22_in, List.forall_mem_append.mpr ⟨pb23_in, pb24_in⟩⟩⟩⟩⟩⟩⟩⟩⟩⟩⟩⟩⟩⟩⟩⟩⟩⟩⟩⟩⟩⟩⟩⟩
theorem pl_in0 : GoodIn lw_tbl pp_w0 := goodIn_sub pb_all pp_w0_good
set_option maxRecDepth 100000 in
theorem pv0 : Cond.lays "TongueHouseModel" "TongueHouseModel" "thrown" "I" ∈ lw_tbl := pk_t10 _ (List.mem_of_getElem? (i := 158) rfl)
set_option maxRecDepth 100000 in
theorem pv1 : Cond.lays "TongueHouseModel" "TongueHouseModel" "tongues" "I" ∈ lw_tbl := pk_t10 _ (List.mem_of_getElem? (i := 160) rfl)
set_option maxRecDepth 100000 in
theorem pv2 : Cond.lays "TongueHouseModel" "TongueHouseModel" "kinds" "I" ∈ lw_tbl := pk_t10 _ (List.mem_of_getElem? (i := 162) rfl)
set_option maxRecDepth 100000 in
theorem pv3 : Cond.lays "TongueHouseModel" "TongueHouseModel" "funs" "I" ∈ lw_tbl := pk_t10 _ (List.mem_of_getElem? (i := 164) rfl)
set_option maxRecDepth 100000 in
theorem pv4 : Cond.lays "TongueHouseModel" "TongueHouseModel" "things" "I" ∈ lw_tbl := pk_t10 _ (List.mem_of_getElem? (i := 166) rfl)
set_option maxRecDepth 100000 in
theorem pv5 : Cond.lays "TongueHouseModel" "TongueHouseModel" "facts" "I" ∈ lw_tbl := pk_t10 _ (List.mem_of_getElem? (i := 168) rfl)
set_option maxRecDepth 100000 in
theorem pv6 : Cond.lays "TongueHouseModel" "TongueHouseModel" "current" "I" ∈ lw_tbl := pk_t10 _ (List.mem_of_getElem? (i := 170) rfl)
set_option maxRecDepth 100000 in
theorem pv7 : Cond.laysFinal "TongueHouseModel" "TongueHouseModel" "tongueName" "[J" ∈ lw_tbl := pk_t10 _ (List.mem_of_getElem? (i := 172) rfl)
set_option maxRecDepth 100000 in
theorem pv8 : Cond.laysFinal "TongueHouseModel" "TongueHouseModel" "kindName" "[J" ∈ lw_tbl := pk_t10 _ (List.mem_of_getElem? (i := 174) rfl)
set_option maxRecDepth 100000 in
theorem pv9 : Cond.laysFinal "TongueHouseModel" "TongueHouseModel" "funName" "[J" ∈ lw_tbl := pk_t10 _ (List.mem_of_getElem? (i := 176) rfl)
set_option maxRecDepth 100000 in
theorem pv10 : Cond.laysFinal "TongueHouseModel" "TongueHouseModel" "thingName" "[J" ∈ lw_tbl := pk_t10 _ (List.mem_of_getElem? (i := 178) rfl)
set_option maxRecDepth 100000 in
theorem pv11 : Cond.laysFinal "TongueHouseModel" "TongueHouseModel" "factName" "[J" ∈ lw_tbl := pk_t10 _ (List.mem_of_getElem? (i := 180) rfl)
set_option maxRecDepth 100000 in
theorem pv12 : Cond.laysFinal "TongueHouseModel" "TongueHouseModel" "funArgs" "[I" ∈ lw_tbl := pk_t10 _ (List.mem_of_getElem? (i := 182) rfl)
set_option maxRecDepth 100000 in
theorem pv13 : Cond.laysFinal "TongueHouseModel" "TongueHouseModel" "funArg" "[I" ∈ lw_tbl := pk_t10 _ (List.mem_of_getElem? (i := 184) rfl)
set_option maxRecDepth 100000 in
theorem pv14 : Cond.laysFinal "TongueHouseModel" "TongueHouseModel" "funKind" "[I" ∈ lw_tbl := pk_t10 _ (List.mem_of_getElem? (i := 186) rfl)
set_option maxRecDepth 100000 in
theorem pv15 : Cond.laysFinal "TongueHouseModel" "TongueHouseModel" "funPrice" "[I" ∈ lw_tbl := pk_t10 _ (List.mem_of_getElem? (i := 188) rfl)
set_option maxRecDepth 100000 in
theorem pv16 : Cond.laysFinal "TongueHouseModel" "TongueHouseModel" "funMean" "[I" ∈ lw_tbl := pk_t10 _ (List.mem_of_getElem? (i := 190) rfl)
set_option maxRecDepth 100000 in
theorem pv17 : Cond.laysFinal "TongueHouseModel" "TongueHouseModel" "factA" "[I" ∈ lw_tbl := pk_t10 _ (List.mem_of_getElem? (i := 192) rfl)
set_option maxRecDepth 100000 in
theorem pv18 : Cond.laysFinal "TongueHouseModel" "TongueHouseModel" "factB" "[I" ∈ lw_tbl := pk_t10 _ (List.mem_of_getElem? (i := 194) rfl)
set_option maxRecDepth 100000 in
theorem pv19 : Cond.laysFinal "TongueHouseModel" "TongueHouseModel" "features" "[I" ∈ lw_tbl := pk_t10 _ (List.mem_of_getElem? (i := 196) rfl)
set_option maxRecDepth 100000 in
theorem pv20 : Cond.laysFinal "TongueHouseModel" "TongueHouseModel" "values" "[I" ∈ lw_tbl := pk_t10 _ (List.mem_of_getElem? (i := 198) rfl)
set_option maxRecDepth 100000 in
theorem pv21 : Cond.laysFinal "TongueHouseModel" "TongueHouseModel" "classes" "[I" ∈ lw_tbl := pk_t10 _ (List.mem_of_getElem? (i := 200) rfl)
set_option maxRecDepth 100000 in
theorem pv22 : Cond.laysFinal "TongueHouseModel" "TongueHouseModel" "sounds" "[I" ∈ lw_tbl := pk_t10 _ (List.mem_of_getElem? (i := 202) rfl)
set_option maxRecDepth 100000 in
theorem pv23 : Cond.laysFinal "TongueHouseModel" "TongueHouseModel" "patterns" "[I" ∈ lw_tbl := pk_t10 _ (List.mem_of_getElem? (i := 204) rfl)
set_option maxRecDepth 100000 in
theorem pv24 : Cond.laysFinal "TongueHouseModel" "TongueHouseModel" "words" "[I" ∈ lw_tbl := pk_t10 _ (List.mem_of_getElem? (i := 206) rfl)
set_option maxRecDepth 100000 in
theorem pv25 : Cond.laysFinal "TongueHouseModel" "TongueHouseModel" "lins" "[I" ∈ lw_tbl := pk_t10 _ (List.mem_of_getElem? (i := 208) rfl)
set_option maxRecDepth 100000 in
theorem pv26 : Cond.laysFinal "TongueHouseModel" "TongueHouseModel" "featureName" "[J" ∈ lw_tbl := pk_t10 _ (List.mem_of_getElem? (i := 210) rfl)
set_option maxRecDepth 100000 in
theorem pv27 : Cond.laysFinal "TongueHouseModel" "TongueHouseModel" "valueName" "[J" ∈ lw_tbl := pk_t10 _ (List.mem_of_getElem? (i := 212) rfl)
set_option maxRecDepth 100000 in
theorem pv28 : Cond.laysFinal "TongueHouseModel" "TongueHouseModel" "className" "[J" ∈ lw_tbl := pk_t10 _ (List.mem_of_getElem? (i := 214) rfl)
set_option maxRecDepth 100000 in
theorem pv29 : Cond.laysFinal "TongueHouseModel" "TongueHouseModel" "patternName" "[J" ∈ lw_tbl := pk_t10 _ (List.mem_of_getElem? (i := 216) rfl)
set_option maxRecDepth 100000 in
theorem pv30 : Cond.laysFinal "TongueHouseModel" "TongueHouseModel" "valueFeature" "[I" ∈ lw_tbl := pk_t10 _ (List.mem_of_getElem? (i := 218) rfl)
set_option maxRecDepth 100000 in
theorem pv31 : Cond.laysFinal "TongueHouseModel" "TongueHouseModel" "valueNumber" "[I" ∈ lw_tbl := pk_t10 _ (List.mem_of_getElem? (i := 220) rfl)
set_option maxRecDepth 100000 in
theorem pv32 : Cond.laysFinal "TongueHouseModel" "TongueHouseModel" "classLetters" "[I" ∈ lw_tbl := pk_t10 _ (List.mem_of_getElem? (i := 222) rfl)
set_option maxRecDepth 100000 in
theorem pv33 : Cond.laysFinal "TongueHouseModel" "TongueHouseModel" "soundFrom" "[I" ∈ lw_tbl := pk_t10 _ (List.mem_of_getElem? (i := 224) rfl)
set_option maxRecDepth 100000 in
theorem pv34 : Cond.laysFinal "TongueHouseModel" "TongueHouseModel" "soundTo" "[I" ∈ lw_tbl := pk_t10 _ (List.mem_of_getElem? (i := 226) rfl)
set_option maxRecDepth 100000 in
theorem pv35 : Cond.laysFinal "TongueHouseModel" "TongueHouseModel" "soundLeft" "[I" ∈ lw_tbl := pk_t10 _ (List.mem_of_getElem? (i := 228) rfl)
set_option maxRecDepth 100000 in
theorem pv36 : Cond.laysFinal "TongueHouseModel" "TongueHouseModel" "soundRight" "[I" ∈ lw_tbl := pk_t10 _ (List.mem_of_getElem? (i := 230) rfl)
set_option maxRecDepth 100000 in
theorem pv37 : Cond.laysFinal "TongueHouseModel" "TongueHouseModel" "cells" "[I" ∈ lw_tbl := pk_t10 _ (List.mem_of_getElem? (i := 232) rfl)
set_option maxRecDepth 100000 in
theorem pv38 : Cond.laysFinal "TongueHouseModel" "TongueHouseModel" "cellValues" "[I" ∈ lw_tbl := pk_t10 _ (List.mem_of_getElem? (i := 234) rfl)
set_option maxRecDepth 100000 in
theorem pv39 : Cond.laysFinal "TongueHouseModel" "TongueHouseModel" "cellParts" "[I" ∈ lw_tbl := pk_t10 _ (List.mem_of_getElem? (i := 236) rfl)
set_option maxRecDepth 100000 in
theorem pv40 : Cond.laysFinal "TongueHouseModel" "TongueHouseModel" "cellMany" "[I" ∈ lw_tbl := pk_t10 _ (List.mem_of_getElem? (i := 238) rfl)
set_option maxRecDepth 100000 in
theorem pv41 : Cond.laysFinal "TongueHouseModel" "TongueHouseModel" "part" "[I" ∈ lw_tbl := pk_t11 _ (List.mem_of_getElem? (i := 0) rfl)
set_option maxRecDepth 100000 in
theorem pv42 : Cond.lays "TongueHouseModel" "TongueHouseModel" "parts" "I" ∈ lw_tbl := pk_t11 _ (List.mem_of_getElem? (i := 2) rfl)
set_option maxRecDepth 100000 in
theorem pv43 : Cond.laysFinal "TongueHouseModel" "TongueHouseModel" "wordFun" "[I" ∈ lw_tbl := pk_t11 _ (List.mem_of_getElem? (i := 4) rfl)
set_option maxRecDepth 100000 in
theorem pv44 : Cond.laysFinal "TongueHouseModel" "TongueHouseModel" "wordPattern" "[I" ∈ lw_tbl := pk_t11 _ (List.mem_of_getElem? (i := 6) rfl)
set_option maxRecDepth 100000 in
theorem pv45 : Cond.laysFinal "TongueHouseModel" "TongueHouseModel" "wordStem" "[I" ∈ lw_tbl := pk_t11 _ (List.mem_of_getElem? (i := 8) rfl)
set_option maxRecDepth 100000 in
theorem pv46 : Cond.laysFinal "TongueHouseModel" "TongueHouseModel" "wordValues" "[I" ∈ lw_tbl := pk_t11 _ (List.mem_of_getElem? (i := 10) rfl)
set_option maxRecDepth 100000 in
theorem pv47 : Cond.laysFinal "TongueHouseModel" "TongueHouseModel" "wordPrice" "[I" ∈ lw_tbl := pk_t11 _ (List.mem_of_getElem? (i := 12) rfl)
set_option maxRecDepth 100000 in
theorem pv48 : Cond.laysFinal "TongueHouseModel" "TongueHouseModel" "linFun" "[I" ∈ lw_tbl := pk_t11 _ (List.mem_of_getElem? (i := 14) rfl)
set_option maxRecDepth 100000 in
theorem pv49 : Cond.laysFinal "TongueHouseModel" "TongueHouseModel" "linItems" "[I" ∈ lw_tbl := pk_t11 _ (List.mem_of_getElem? (i := 16) rfl)
set_option maxRecDepth 100000 in
theorem pv50 : Cond.laysFinal "TongueHouseModel" "TongueHouseModel" "linItem" "[I" ∈ lw_tbl := pk_t11 _ (List.mem_of_getElem? (i := 18) rfl)
set_option maxRecDepth 100000 in
theorem pv51 : Cond.laysFinal "TongueHouseModel" "TongueHouseModel" "linAsked" "[I" ∈ lw_tbl := pk_t11 _ (List.mem_of_getElem? (i := 20) rfl)
set_option maxRecDepth 100000 in
theorem pv52 : Cond.laysFinal "TongueHouseModel" "TongueHouseModel" "linSaid" "[I" ∈ lw_tbl := pk_t11 _ (List.mem_of_getElem? (i := 22) rfl)
set_option maxRecDepth 100000 in
theorem pv53 : Cond.laysFinal "TongueHouseModel" "TongueHouseModel" "linHow" "[I" ∈ lw_tbl := pk_t11 _ (List.mem_of_getElem? (i := 24) rfl)
set_option maxRecDepth 100000 in
theorem pv54 : Cond.laysFinal "TongueHouseModel" "TongueHouseModel" "linA" "[I" ∈ lw_tbl := pk_t11 _ (List.mem_of_getElem? (i := 26) rfl)
set_option maxRecDepth 100000 in
theorem pv55 : Cond.laysFinal "TongueHouseModel" "TongueHouseModel" "linB" "[I" ∈ lw_tbl := pk_t11 _ (List.mem_of_getElem? (i := 28) rfl)
set_option maxRecDepth 100000 in
theorem pv56 : Cond.laysFinal "TongueHouseModel" "TongueHouseModel" "linF" "[I" ∈ lw_tbl := pk_t11 _ (List.mem_of_getElem? (i := 30) rfl)
set_option maxRecDepth 100000 in
theorem pv57 : Cond.laysFinal "TongueHouseModel" "TongueHouseModel" "linPrice" "[I" ∈ lw_tbl := pk_t11 _ (List.mem_of_getElem? (i := 32) rfl)
set_option maxRecDepth 100000 in
theorem pv58 : Cond.laysFinal "TongueHouseModel" "TongueHouseModel" "letter" "[B" ∈ lw_tbl := pk_t11 _ (List.mem_of_getElem? (i := 34) rfl)
set_option maxRecDepth 100000 in
theorem pv59 : Cond.lays "TongueHouseModel" "TongueHouseModel" "letters" "I" ∈ lw_tbl := pk_t11 _ (List.mem_of_getElem? (i := 36) rfl)
set_option maxRecDepth 100000 in
theorem pv60 : Cond.laysFinal "TongueHouseModel" "TongueHouseModel" "termKind" "[I" ∈ lw_tbl := pk_t11 _ (List.mem_of_getElem? (i := 38) rfl)
set_option maxRecDepth 100000 in
theorem pv61 : Cond.laysFinal "TongueHouseModel" "TongueHouseModel" "termA" "[I" ∈ lw_tbl := pk_t11 _ (List.mem_of_getElem? (i := 40) rfl)
set_option maxRecDepth 100000 in
theorem pv62 : Cond.laysFinal "TongueHouseModel" "TongueHouseModel" "termB" "[I" ∈ lw_tbl := pk_t11 _ (List.mem_of_getElem? (i := 42) rfl)
set_option maxRecDepth 100000 in
theorem pv63 : Cond.laysFinal "TongueHouseModel" "TongueHouseModel" "termName" "[J" ∈ lw_tbl := pk_t11 _ (List.mem_of_getElem? (i := 44) rfl)
set_option maxRecDepth 100000 in
theorem pv64 : Cond.lays "TongueHouseModel" "TongueHouseModel" "terms" "I" ∈ lw_tbl := pk_t11 _ (List.mem_of_getElem? (i := 46) rfl)
set_option maxRecDepth 100000 in
theorem pv65 : Cond.laysFinal "TongueHouseModel" "TongueHouseModel" "tape" "[B" ∈ lw_tbl := pk_t11 _ (List.mem_of_getElem? (i := 48) rfl)
set_option maxRecDepth 100000 in
theorem pv66 : Cond.laysFinal "TongueHouseModel" "TongueHouseModel" "text" "[B" ∈ lw_tbl := pk_t11 _ (List.mem_of_getElem? (i := 50) rfl)
set_option maxRecDepth 100000 in
theorem pv67 : Cond.laysFinal "TongueHouseModel" "TongueHouseModel" "out" "[B" ∈ lw_tbl := pk_t11 _ (List.mem_of_getElem? (i := 52) rfl)
set_option maxRecDepth 100000 in
theorem pv68 : Cond.lays "TongueHouseModel" "TongueHouseModel" "taped" "I" ∈ lw_tbl := pk_t11 _ (List.mem_of_getElem? (i := 54) rfl)
set_option maxRecDepth 100000 in
theorem pv69 : Cond.lays "TongueHouseModel" "TongueHouseModel" "textN" "I" ∈ lw_tbl := pk_t11 _ (List.mem_of_getElem? (i := 56) rfl)
set_option maxRecDepth 100000 in
theorem pv70 : Cond.lays "TongueHouseModel" "TongueHouseModel" "outN" "I" ∈ lw_tbl := pk_t11 _ (List.mem_of_getElem? (i := 58) rfl)
set_option maxRecDepth 100000 in
theorem pv71 : Cond.lays "TongueHouseModel" "TongueHouseModel" "tk" "I" ∈ lw_tbl := pk_t11 _ (List.mem_of_getElem? (i := 60) rfl)
set_option maxRecDepth 100000 in
theorem pv72 : Cond.lays "TongueHouseModel" "TongueHouseModel" "tkAt" "I" ∈ lw_tbl := pk_t11 _ (List.mem_of_getElem? (i := 62) rfl)
set_option maxRecDepth 100000 in
theorem pv73 : Cond.lays "TongueHouseModel" "TongueHouseModel" "tkEnd" "I" ∈ lw_tbl := pk_t11 _ (List.mem_of_getElem? (i := 64) rfl)
set_option maxRecDepth 100000 in
theorem pv74 : Cond.lays "TongueHouseModel" "TongueHouseModel" "tkNumber" "I" ∈ lw_tbl := pk_t11 _ (List.mem_of_getElem? (i := 66) rfl)
set_option maxRecDepth 100000 in
theorem pv75 : Cond.lays "TongueHouseModel" "TongueHouseModel" "tkName" "J" ∈ lw_tbl := pk_t11 _ (List.mem_of_getElem? (i := 68) rfl)
set_option maxRecDepth 100000 in
theorem pv76 : Cond.lays "TongueHouseModel" "TongueHouseModel" "wrong" "I" ∈ lw_tbl := pk_t11 _ (List.mem_of_getElem? (i := 70) rfl)
set_option maxRecDepth 100000 in
theorem pv77 : Cond.lays "TongueHouseModel" "TongueHouseModel" "wrongAt" "I" ∈ lw_tbl := pk_t11 _ (List.mem_of_getElem? (i := 72) rfl)
set_option maxRecDepth 100000 in
theorem pv78 : Cond.lays "TongueHouseModel" "TongueHouseModel" "firstAt" "I" ∈ lw_tbl := pk_t11 _ (List.mem_of_getElem? (i := 74) rfl)
set_option maxRecDepth 100000 in
theorem pv79 : Cond.lays "TongueHouseModel" "TongueHouseModel" "lastRule" "I" ∈ lw_tbl := pk_t11 _ (List.mem_of_getElem? (i := 76) rfl)
set_option maxRecDepth 100000 in
theorem pv80 : Cond.laysFinal "TongueHouseModel" "TongueHouseModel" "W_TONGUE" "J" ∈ lw_tbl := pk_t11 _ (List.mem_of_getElem? (i := 78) rfl)
set_option maxRecDepth 100000 in
theorem pv81 : Cond.laysFinal "TongueHouseModel" "TongueHouseModel" "W_KIND" "J" ∈ lw_tbl := pk_t11 _ (List.mem_of_getElem? (i := 80) rfl)
set_option maxRecDepth 100000 in
theorem pv82 : Cond.laysFinal "TongueHouseModel" "TongueHouseModel" "W_FUN" "J" ∈ lw_tbl := pk_t11 _ (List.mem_of_getElem? (i := 82) rfl)
set_option maxRecDepth 100000 in
theorem pv83 : Cond.laysFinal "TongueHouseModel" "TongueHouseModel" "W_FEATURE" "J" ∈ lw_tbl := pk_t11 _ (List.mem_of_getElem? (i := 84) rfl)
set_option maxRecDepth 100000 in
theorem pv84 : Cond.laysFinal "TongueHouseModel" "TongueHouseModel" "W_LETTERS" "J" ∈ lw_tbl := pk_t11 _ (List.mem_of_getElem? (i := 86) rfl)
set_option maxRecDepth 100000 in
theorem pv85 : Cond.laysFinal "TongueHouseModel" "TongueHouseModel" "W_SOUND" "J" ∈ lw_tbl := pk_t11 _ (List.mem_of_getElem? (i := 88) rfl)
set_option maxRecDepth 100000 in
theorem pv86 : Cond.laysFinal "TongueHouseModel" "TongueHouseModel" "W_PATTERN" "J" ∈ lw_tbl := pk_t11 _ (List.mem_of_getElem? (i := 90) rfl)
set_option maxRecDepth 100000 in
theorem pv87 : Cond.laysFinal "TongueHouseModel" "TongueHouseModel" "W_WORD" "J" ∈ lw_tbl := pk_t11 _ (List.mem_of_getElem? (i := 92) rfl)
set_option maxRecDepth 100000 in
theorem pv88 : Cond.laysFinal "TongueHouseModel" "TongueHouseModel" "W_LIN" "J" ∈ lw_tbl := pk_t11 _ (List.mem_of_getElem? (i := 94) rfl)
set_option maxRecDepth 100000 in
theorem pv89 : Cond.laysFinal "TongueHouseModel" "TongueHouseModel" "W_MEAN" "J" ∈ lw_tbl := pk_t11 _ (List.mem_of_getElem? (i := 96) rfl)
set_option maxRecDepth 100000 in
theorem pv90 : Cond.laysFinal "TongueHouseModel" "TongueHouseModel" "W_THING" "J" ∈ lw_tbl := pk_t11 _ (List.mem_of_getElem? (i := 98) rfl)
set_option maxRecDepth 100000 in
theorem pv91 : Cond.laysFinal "TongueHouseModel" "TongueHouseModel" "W_FACT" "J" ∈ lw_tbl := pk_t11 _ (List.mem_of_getElem? (i := 100) rfl)
set_option maxRecDepth 100000 in
theorem pv92 : Cond.laysFinal "TongueHouseModel" "TongueHouseModel" "W_COST" "J" ∈ lw_tbl := pk_t11 _ (List.mem_of_getElem? (i := 102) rfl)
set_option maxRecDepth 100000 in
theorem pv93 : Cond.laysFinal "TongueHouseModel" "TongueHouseModel" "W_HAS" "J" ∈ lw_tbl := pk_t11 _ (List.mem_of_getElem? (i := 104) rfl)
set_option maxRecDepth 100000 in
theorem pv94 : Cond.laysFinal "TongueHouseModel" "TongueHouseModel" "W_OF" "J" ∈ lw_tbl := pk_t11 _ (List.mem_of_getElem? (i := 106) rfl)
set_option maxRecDepth 100000 in
theorem pv95 : Cond.laysFinal "TongueHouseModel" "TongueHouseModel" "W_AGREE" "J" ∈ lw_tbl := pk_t11 _ (List.mem_of_getElem? (i := 108) rfl)
set_option maxRecDepth 100000 in
theorem pv96 : Cond.laysFinal "TongueHouseModel" "TongueHouseModel" "W_GIVE" "J" ∈ lw_tbl := pk_t11 _ (List.mem_of_getElem? (i := 110) rfl)
set_option maxRecDepth 100000 in
theorem pv97 : Cond.laysFinal "TongueHouseModel" "TongueHouseModel" "had" "[I" ∈ lw_tbl := pk_t11 _ (List.mem_of_getElem? (i := 112) rfl)
set_option maxRecDepth 100000 in
theorem pv98 : Cond.laysFinal "TongueHouseModel" "TongueHouseModel" "meant" "[I" ∈ lw_tbl := pk_t11 _ (List.mem_of_getElem? (i := 114) rfl)
set_option maxRecDepth 100000 in
theorem pv99 : Cond.lays "TongueHouseModel" "TongueHouseModel" "meants" "I" ∈ lw_tbl := pk_t11 _ (List.mem_of_getElem? (i := 116) rfl)
set_option maxRecDepth 100000 in
theorem pv100 : Cond.lays "TongueHouseModel" "TongueHouseModel" "version" "I" ∈ lw_tbl := pk_t11 _ (List.mem_of_getElem? (i := 118) rfl)
set_option maxRecDepth 100000 in
theorem pv101 : Cond.lays "TongueHouseModel" "TongueHouseModel" "price" "I" ∈ lw_tbl := pk_t11 _ (List.mem_of_getElem? (i := 120) rfl)
set_option maxRecDepth 100000 in
theorem pv102 : Cond.laysFinal "TongueHouseModel" "TongueHouseModel" "four" "[I" ∈ lw_tbl := pk_t11 _ (List.mem_of_getElem? (i := 122) rfl)
set_option maxRecDepth 100000 in
theorem pv103 : Cond.laysFinal "TongueHouseModel" "TongueHouseModel" "six" "[J" ∈ lw_tbl := pk_t11 _ (List.mem_of_getElem? (i := 124) rfl)
set_option maxRecDepth 100000 in
theorem pv104 : Cond.lays "TongueHouseModel" "TongueHouseModel" "what" "I" ∈ lw_tbl := pk_t11 _ (List.mem_of_getElem? (i := 126) rfl)
set_option maxRecDepth 100000 in
theorem pv105 : Cond.laysFinal "TongueHouseModel" "TongueHouseModel" "sides" "[I" ∈ lw_tbl := pk_t11 _ (List.mem_of_getElem? (i := 128) rfl)
set_option maxRecDepth 100000 in
theorem pv106 : Cond.lays "TongueHouseModel" "TongueHouseModel" "packed" "I" ∈ lw_tbl := pk_t11 _ (List.mem_of_getElem? (i := 130) rfl)
set_option maxRecDepth 100000 in
theorem pv107 : Cond.laysFinal "TongueHouseModel" "TongueHouseModel" "newValues" "[I" ∈ lw_tbl := pk_t11 _ (List.mem_of_getElem? (i := 132) rfl)
set_option maxRecDepth 100000 in
theorem pv108 : Cond.laysFinal "TongueHouseModel" "TongueHouseModel" "newParts" "[I" ∈ lw_tbl := pk_t11 _ (List.mem_of_getElem? (i := 134) rfl)
set_option maxRecDepth 100000 in
theorem pv109 : Cond.laysFinal "TongueHouseModel" "TongueHouseModel" "newMany" "[I" ∈ lw_tbl := pk_t11 _ (List.mem_of_getElem? (i := 136) rfl)
set_option maxRecDepth 100000 in
theorem pv110 : Cond.laysFinal "TongueHouseModel" "TongueHouseModel" "stems" "[I" ∈ lw_tbl := pk_t11 _ (List.mem_of_getElem? (i := 138) rfl)
set_option maxRecDepth 100000 in
theorem pv111 : Cond.laysFinal "TongueHouseModel" "TongueHouseModel" "itemIs" "[I" ∈ lw_tbl := pk_t11 _ (List.mem_of_getElem? (i := 140) rfl)
set_option maxRecDepth 100000 in
theorem pv112 : Cond.laysFinal "TongueHouseModel" "TongueHouseModel" "itemAsks" "[I" ∈ lw_tbl := pk_t11 _ (List.mem_of_getElem? (i := 142) rfl)
set_option maxRecDepth 100000 in
theorem pv113 : Cond.laysFinal "TongueHouseModel" "TongueHouseModel" "saidHow" "[I" ∈ lw_tbl := pk_t11 _ (List.mem_of_getElem? (i := 144) rfl)
set_option maxRecDepth 100000 in
theorem pv114 : Cond.laysFinal "TongueHouseModel" "TongueHouseModel" "saidA" "[I" ∈ lw_tbl := pk_t11 _ (List.mem_of_getElem? (i := 146) rfl)
set_option maxRecDepth 100000 in
theorem pv115 : Cond.laysFinal "TongueHouseModel" "TongueHouseModel" "saidB" "[I" ∈ lw_tbl := pk_t11 _ (List.mem_of_getElem? (i := 148) rfl)
set_option maxRecDepth 100000 in
theorem pv116 : Cond.laysFinal "TongueHouseModel" "TongueHouseModel" "saidF" "[I" ∈ lw_tbl := pk_t11 _ (List.mem_of_getElem? (i := 150) rfl)
set_option maxRecDepth 100000 in
theorem pv117 : Cond.laysFinal "TongueHouseModel" "TongueHouseModel" "argAt" "[I" ∈ lw_tbl := pk_t11 _ (List.mem_of_getElem? (i := 152) rfl)
set_option maxRecDepth 100000 in
theorem pv118 : Cond.lays "TongueHouseModel" "TongueHouseModel" "nItems" "I" ∈ lw_tbl := pk_t11 _ (List.mem_of_getElem? (i := 154) rfl)
set_option maxRecDepth 100000 in
theorem pv119 : Cond.lays "TongueHouseModel" "TongueHouseModel" "nSaid" "I" ∈ lw_tbl := pk_t11 _ (List.mem_of_getElem? (i := 156) rfl)
set_option maxRecDepth 100000 in
theorem pv120 : Cond.lays "TongueHouseModel" "TongueHouseModel" "argument" "I" ∈ lw_tbl := pk_t11 _ (List.mem_of_getElem? (i := 158) rfl)
set_option maxRecDepth 100000 in
theorem pv121 : Cond.laysFinal "TongueHouseModel" "TongueHouseModel" "binder" "[J" ∈ lw_tbl := pk_t11 _ (List.mem_of_getElem? (i := 160) rfl)
set_option maxRecDepth 100000 in
theorem pv122 : Cond.lays "TongueHouseModel" "TongueHouseModel" "binders" "I" ∈ lw_tbl := pk_t11 _ (List.mem_of_getElem? (i := 162) rfl)
set_option maxRecDepth 100000 in
theorem pv123 : Cond.lays "TongueHouseModel" "TongueHouseModel" "termFun" "I" ∈ lw_tbl := pk_t11 _ (List.mem_of_getElem? (i := 164) rfl)
set_option maxRecDepth 100000 in
theorem pv124 : Cond.laysFinal "TongueHouseModel" "TongueHouseModel" "buf" "[B" ∈ lw_tbl := pk_t11 _ (List.mem_of_getElem? (i := 166) rfl)
set_option maxRecDepth 100000 in
theorem pv125 : Cond.laysFinal "TongueHouseModel" "TongueHouseModel" "made" "[B" ∈ lw_tbl := pk_t11 _ (List.mem_of_getElem? (i := 168) rfl)
set_option maxRecDepth 100000 in
theorem pv126 : Cond.lays "TongueHouseModel" "TongueHouseModel" "bufN" "I" ∈ lw_tbl := pk_t11 _ (List.mem_of_getElem? (i := 170) rfl)
set_option maxRecDepth 100000 in
theorem pv127 : Cond.lays "TongueHouseModel" "TongueHouseModel" "formsOf" "I" ∈ lw_tbl := pk_t11 _ (List.mem_of_getElem? (i := 172) rfl)
set_option maxRecDepth 100000 in
theorem pv128 : Cond.lays "TongueHouseModel" "TongueHouseModel" "formsAt" "I" ∈ lw_tbl := pk_t11 _ (List.mem_of_getElem? (i := 174) rfl)
set_option maxRecDepth 100000 in
theorem pv129 : Cond.laysFinal "TongueHouseModel" "TongueHouseModel" "formLetter" "[B" ∈ lw_tbl := pk_t11 _ (List.mem_of_getElem? (i := 176) rfl)
set_option maxRecDepth 100000 in
theorem pv130 : Cond.laysFinal "TongueHouseModel" "TongueHouseModel" "formSize" "[I" ∈ lw_tbl := pk_t11 _ (List.mem_of_getElem? (i := 178) rfl)
set_option maxRecDepth 100000 in
theorem pv131 : Cond.laysFinal "TongueHouseModel" "TongueHouseModel" "found" "[I" ∈ lw_tbl := pk_t11 _ (List.mem_of_getElem? (i := 180) rfl)
set_option maxRecDepth 100000 in
theorem pv132 : Cond.lays "TongueHouseModel" "TongueHouseModel" "foundN" "I" ∈ lw_tbl := pk_t11 _ (List.mem_of_getElem? (i := 182) rfl)
set_option maxRecDepth 100000 in
theorem pv133 : Cond.lays "TongueHouseModel" "TongueHouseModel" "foundT" "I" ∈ lw_tbl := pk_t11 _ (List.mem_of_getElem? (i := 184) rfl)
set_option maxRecDepth 100000 in
theorem pv134 : Cond.laysFinal "TongueHouseModel" "TongueHouseModel" "guessP" "[I" ∈ lw_tbl := pk_t11 _ (List.mem_of_getElem? (i := 186) rfl)
set_option maxRecDepth 100000 in
theorem pv135 : Cond.laysFinal "TongueHouseModel" "TongueHouseModel" "guessN" "[I" ∈ lw_tbl := pk_t11 _ (List.mem_of_getElem? (i := 188) rfl)
set_option maxRecDepth 100000 in
theorem pv136 : Cond.lays "TongueHouseModel" "TongueHouseModel" "guesses" "I" ∈ lw_tbl := pk_t11 _ (List.mem_of_getElem? (i := 190) rfl)
set_option maxRecDepth 100000 in
theorem pv137 : Cond.lays "TongueHouseModel" "TongueHouseModel" "guessAll" "I" ∈ lw_tbl := pk_t11 _ (List.mem_of_getElem? (i := 192) rfl)
set_option maxRecDepth 100000 in
theorem pv138 : Cond.lays "TongueHouseModel" "TongueHouseModel" "guessLong" "I" ∈ lw_tbl := pk_t11 _ (List.mem_of_getElem? (i := 194) rfl)
set_option maxRecDepth 100000 in
theorem pv139 : Cond.laysFinal "TongueHouseModel" "TongueHouseModel" "said" "[B" ∈ lw_tbl := pk_t11 _ (List.mem_of_getElem? (i := 196) rfl)
set_option maxRecDepth 100000 in
theorem pv140 : Cond.laysFinal "TongueHouseModel" "TongueHouseModel" "other" "[B" ∈ lw_tbl := pk_t11 _ (List.mem_of_getElem? (i := 198) rfl)
set_option maxRecDepth 100000 in
theorem pv141 : Cond.laysFinal "TongueHouseModel" "TongueHouseModel" "saidN" "[I" ∈ lw_tbl := pk_t11 _ (List.mem_of_getElem? (i := 200) rfl)
set_option maxRecDepth 100000 in
theorem pv142 : Cond.laysFinal "TongueHouseModel" "TongueHouseModel" "otherN" "[I" ∈ lw_tbl := pk_t11 _ (List.mem_of_getElem? (i := 202) rfl)
set_option maxRecDepth 100000 in
theorem pv143 : Cond.lays "TongueHouseModel" "TongueHouseModel" "n" "I" ∈ lw_tbl := pk_t11 _ (List.mem_of_getElem? (i := 204) rfl)
set_option maxRecDepth 100000 in
theorem pv144 : Cond.laysFinal "TongueHouseModel" "TongueHouseModel" "nKind" "[I" ∈ lw_tbl := pk_t11 _ (List.mem_of_getElem? (i := 206) rfl)
set_option maxRecDepth 100000 in
theorem pv145 : Cond.laysFinal "TongueHouseModel" "TongueHouseModel" "nTo" "[I" ∈ lw_tbl := pk_t11 _ (List.mem_of_getElem? (i := 208) rfl)
set_option maxRecDepth 100000 in
theorem pv146 : Cond.laysFinal "TongueHouseModel" "TongueHouseModel" "nValues" "[I" ∈ lw_tbl := pk_t11 _ (List.mem_of_getElem? (i := 210) rfl)
set_option maxRecDepth 100000 in
theorem pv147 : Cond.laysFinal "TongueHouseModel" "TongueHouseModel" "nNext" "[I" ∈ lw_tbl := pk_t11 _ (List.mem_of_getElem? (i := 212) rfl)
set_option maxRecDepth 100000 in
theorem pv148 : Cond.laysFinal "TongueHouseModel" "TongueHouseModel" "nAt" "[I" ∈ lw_tbl := pk_t11 _ (List.mem_of_getElem? (i := 214) rfl)
set_option maxRecDepth 100000 in
theorem pv149 : Cond.laysFinal "TongueHouseModel" "TongueHouseModel" "nMany" "[I" ∈ lw_tbl := pk_t11 _ (List.mem_of_getElem? (i := 216) rfl)
set_option maxRecDepth 100000 in
theorem pv150 : Cond.laysFinal "TongueHouseModel" "TongueHouseModel" "span" "[I" ∈ lw_tbl := pk_t11 _ (List.mem_of_getElem? (i := 218) rfl)
set_option maxRecDepth 100000 in
theorem pv151 : Cond.laysFinal "TongueHouseModel" "TongueHouseModel" "yNode" "[I" ∈ lw_tbl := pk_t11 _ (List.mem_of_getElem? (i := 220) rfl)
set_option maxRecDepth 100000 in
theorem pv152 : Cond.laysFinal "TongueHouseModel" "TongueHouseModel" "yA" "[I" ∈ lw_tbl := pk_t11 _ (List.mem_of_getElem? (i := 222) rfl)
set_option maxRecDepth 100000 in
theorem pv153 : Cond.laysFinal "TongueHouseModel" "TongueHouseModel" "yB" "[I" ∈ lw_tbl := pk_t11 _ (List.mem_of_getElem? (i := 224) rfl)
set_option maxRecDepth 100000 in
theorem pv154 : Cond.laysFinal "TongueHouseModel" "TongueHouseModel" "yLin" "[I" ∈ lw_tbl := pk_t11 _ (List.mem_of_getElem? (i := 226) rfl)
set_option maxRecDepth 100000 in
theorem pv155 : Cond.laysFinal "TongueHouseModel" "TongueHouseModel" "yArg" "[I" ∈ lw_tbl := pk_t11 _ (List.mem_of_getElem? (i := 228) rfl)
set_option maxRecDepth 100000 in
theorem pv156 : Cond.laysFinal "TongueHouseModel" "TongueHouseModel" "yOrder" "[I" ∈ lw_tbl := pk_t11 _ (List.mem_of_getElem? (i := 230) rfl)
set_option maxRecDepth 100000 in
theorem pv157 : Cond.lays "TongueHouseModel" "TongueHouseModel" "nodes" "I" ∈ lw_tbl := pk_t11 _ (List.mem_of_getElem? (i := 232) rfl)
set_option maxRecDepth 100000 in
theorem pv158 : Cond.lays "TongueHouseModel" "TongueHouseModel" "ways" "I" ∈ lw_tbl := pk_t11 _ (List.mem_of_getElem? (i := 234) rfl)
set_option maxRecDepth 100000 in
theorem pv159 : Cond.lays "TongueHouseModel" "TongueHouseModel" "forestTongue" "I" ∈ lw_tbl := pk_t11 _ (List.mem_of_getElem? (i := 236) rfl)
set_option maxRecDepth 100000 in
theorem pv160 : Cond.lays "TongueHouseModel" "TongueHouseModel" "tooMany" "Z" ∈ lw_tbl := pk_t11 _ (List.mem_of_getElem? (i := 238) rfl)
set_option maxRecDepth 100000 in
theorem pv161 : Cond.lays "TongueHouseModel" "TongueHouseModel" "tries" "I" ∈ lw_tbl := pk_t12 _ (List.mem_of_getElem? (i := 0) rfl)
set_option maxRecDepth 100000 in
theorem pv162 : Cond.laysFinal "TongueHouseModel" "TongueHouseModel" "eff" "[I" ∈ lw_tbl := pk_t12 _ (List.mem_of_getElem? (i := 2) rfl)
set_option maxRecDepth 100000 in
theorem pv163 : Cond.laysFinal "TongueHouseModel" "TongueHouseModel" "fin" "[I" ∈ lw_tbl := pk_t12 _ (List.mem_of_getElem? (i := 4) rfl)
set_option maxRecDepth 100000 in
theorem pv164 : Cond.laysFinal "TongueHouseModel" "TongueHouseModel" "argNode" "[I" ∈ lw_tbl := pk_t12 _ (List.mem_of_getElem? (i := 6) rfl)
set_option maxRecDepth 100000 in
theorem pv165 : Cond.laysFinal "TongueHouseModel" "TongueHouseModel" "itemNode" "[I" ∈ lw_tbl := pk_t12 _ (List.mem_of_getElem? (i := 8) rfl)
set_option maxRecDepth 100000 in
theorem pv166 : Cond.lays "TongueHouseModel" "TongueHouseModel" "pt" "I" ∈ lw_tbl := pk_t12 _ (List.mem_of_getElem? (i := 10) rfl)
set_option maxRecDepth 100000 in
theorem pv167 : Cond.lays "TongueHouseModel" "TongueHouseModel" "pLin" "I" ∈ lw_tbl := pk_t12 _ (List.mem_of_getElem? (i := 12) rfl)
set_option maxRecDepth 100000 in
theorem pv168 : Cond.lays "TongueHouseModel" "TongueHouseModel" "pFrom" "I" ∈ lw_tbl := pk_t12 _ (List.mem_of_getElem? (i := 14) rfl)
set_option maxRecDepth 100000 in
theorem pv169 : Cond.lays "TongueHouseModel" "TongueHouseModel" "pTo" "I" ∈ lw_tbl := pk_t12 _ (List.mem_of_getElem? (i := 16) rfl)
set_option maxRecDepth 100000 in
theorem pv170 : Cond.lays "TongueHouseModel" "TongueHouseModel" "pNumber" "I" ∈ lw_tbl := pk_t12 _ (List.mem_of_getElem? (i := 18) rfl)
set_option maxRecDepth 100000 in
theorem pv171 : Cond.laysFinal "TongueHouseModel" "TongueHouseModel" "nTrees" "[J" ∈ lw_tbl := pk_t12 _ (List.mem_of_getElem? (i := 20) rfl)
set_option maxRecDepth 100000 in
theorem pv172 : Cond.laysFinal "TongueHouseModel" "TongueHouseModel" "topN" "[I" ∈ lw_tbl := pk_t12 _ (List.mem_of_getElem? (i := 22) rfl)
set_option maxRecDepth 100000 in
theorem pv173 : Cond.laysFinal "TongueHouseModel" "TongueHouseModel" "topPrice" "[I" ∈ lw_tbl := pk_t12 _ (List.mem_of_getElem? (i := 24) rfl)
set_option maxRecDepth 100000 in
theorem pv174 : Cond.laysFinal "TongueHouseModel" "TongueHouseModel" "topWay" "[I" ∈ lw_tbl := pk_t12 _ (List.mem_of_getElem? (i := 26) rfl)
set_option maxRecDepth 100000 in
theorem pv175 : Cond.laysFinal "TongueHouseModel" "TongueHouseModel" "topRanks" "[I" ∈ lw_tbl := pk_t12 _ (List.mem_of_getElem? (i := 28) rfl)
set_option maxRecDepth 100000 in
theorem pv176 : Cond.laysFinal "TongueHouseModel" "TongueHouseModel" "barred" "[Z" ∈ lw_tbl := pk_t12 _ (List.mem_of_getElem? (i := 30) rfl)
set_option maxRecDepth 100000 in
theorem pv177 : Cond.lays "TongueHouseModel" "TongueHouseModel" "forest" "I" ∈ lw_tbl := pk_t12 _ (List.mem_of_getElem? (i := 32) rfl)
set_option maxRecDepth 100000 in
theorem pv178 : Cond.lays "TongueHouseModel" "TongueHouseModel" "forestN" "I" ∈ lw_tbl := pk_t12 _ (List.mem_of_getElem? (i := 34) rfl)
set_option maxRecDepth 100000 in
theorem pv179 : Cond.lays "TongueHouseModel" "TongueHouseModel" "noted" "I" ∈ lw_tbl := pk_t12 _ (List.mem_of_getElem? (i := 36) rfl)
set_option maxRecDepth 100000 in
theorem pv180 : Cond.lays "TongueHouseModel" "TongueHouseModel" "notedWays" "I" ∈ lw_tbl := pk_t12 _ (List.mem_of_getElem? (i := 38) rfl)
set_option maxRecDepth 100000 in
theorem pv181 : Cond.lays "TongueHouseModel" "TongueHouseModel" "all" "J" ∈ lw_tbl := pk_t12 _ (List.mem_of_getElem? (i := 40) rfl)
set_option maxRecDepth 100000 in
theorem pv182 : Cond.lays "TongueHouseModel" "TongueHouseModel" "left" "J" ∈ lw_tbl := pk_t12 _ (List.mem_of_getElem? (i := 42) rfl)
set_option maxRecDepth 100000 in
theorem pv183 : Cond.laysFinal "TongueHouseModel" "TongueHouseModel" "readNode" "[I" ∈ lw_tbl := pk_t12 _ (List.mem_of_getElem? (i := 44) rfl)
set_option maxRecDepth 100000 in
theorem pv184 : Cond.laysFinal "TongueHouseModel" "TongueHouseModel" "readRank" "[I" ∈ lw_tbl := pk_t12 _ (List.mem_of_getElem? (i := 46) rfl)
set_option maxRecDepth 100000 in
theorem pv185 : Cond.laysFinal "TongueHouseModel" "TongueHouseModel" "readPrice" "[I" ∈ lw_tbl := pk_t12 _ (List.mem_of_getElem? (i := 48) rfl)
set_option maxRecDepth 100000 in
theorem pv186 : Cond.lays "TongueHouseModel" "TongueHouseModel" "readings" "I" ∈ lw_tbl := pk_t12 _ (List.mem_of_getElem? (i := 50) rfl)
set_option maxRecDepth 100000 in
theorem pv187 : Cond.laysFinal "TongueHouseModel" "TongueHouseModel" "tree" "[I" ∈ lw_tbl := pk_t12 _ (List.mem_of_getElem? (i := 52) rfl)
set_option maxRecDepth 100000 in
theorem pv188 : Cond.lays "TongueHouseModel" "TongueHouseModel" "treeN" "I" ∈ lw_tbl := pk_t12 _ (List.mem_of_getElem? (i := 54) rfl)
set_option maxRecDepth 100000 in
theorem pv189 : Cond.laysFinal "TongueHouseModel" "TongueHouseModel" "placeFun" "[I" ∈ lw_tbl := pk_t12 _ (List.mem_of_getElem? (i := 56) rfl)
set_option maxRecDepth 100000 in
theorem pv190 : Cond.laysFinal "TongueHouseModel" "TongueHouseModel" "placeN" "[I" ∈ lw_tbl := pk_t12 _ (List.mem_of_getElem? (i := 58) rfl)
set_option maxRecDepth 100000 in
theorem pv191 : Cond.laysFinal "TongueHouseModel" "TongueHouseModel" "optText" "[B" ∈ lw_tbl := pk_t12 _ (List.mem_of_getElem? (i := 60) rfl)
set_option maxRecDepth 100000 in
theorem pv192 : Cond.laysFinal "TongueHouseModel" "TongueHouseModel" "optSize" "[I" ∈ lw_tbl := pk_t12 _ (List.mem_of_getElem? (i := 62) rfl)
set_option maxRecDepth 100000 in
theorem pv193 : Cond.laysFinal "TongueHouseModel" "TongueHouseModel" "optValues" "[I" ∈ lw_tbl := pk_t12 _ (List.mem_of_getElem? (i := 64) rfl)
set_option maxRecDepth 100000 in
theorem pv194 : Cond.laysFinal "TongueHouseModel" "TongueHouseModel" "optPrice" "[I" ∈ lw_tbl := pk_t12 _ (List.mem_of_getElem? (i := 66) rfl)
set_option maxRecDepth 100000 in
theorem pv195 : Cond.laysFinal "TongueHouseModel" "TongueHouseModel" "optOrder" "[I" ∈ lw_tbl := pk_t12 _ (List.mem_of_getElem? (i := 68) rfl)
set_option maxRecDepth 100000 in
theorem pv196 : Cond.laysFinal "TongueHouseModel" "TongueHouseModel" "optN" "[I" ∈ lw_tbl := pk_t12 _ (List.mem_of_getElem? (i := 70) rfl)
set_option maxRecDepth 100000 in
theorem pv197 : Cond.laysFinal "TongueHouseModel" "TongueHouseModel" "argTree" "[I" ∈ lw_tbl := pk_t12 _ (List.mem_of_getElem? (i := 72) rfl)
set_option maxRecDepth 100000 in
theorem pv198 : Cond.laysFinal "TongueHouseModel" "TongueHouseModel" "picked" "[I" ∈ lw_tbl := pk_t12 _ (List.mem_of_getElem? (i := 74) rfl)
set_option maxRecDepth 100000 in
theorem pv199 : Cond.laysFinal "TongueHouseModel" "TongueHouseModel" "candidate" "[B" ∈ lw_tbl := pk_t12 _ (List.mem_of_getElem? (i := 76) rfl)
set_option maxRecDepth 100000 in
theorem pv200 : Cond.laysFinal "TongueHouseModel" "TongueHouseModel" "candidateN" "[I" ∈ lw_tbl := pk_t12 _ (List.mem_of_getElem? (i := 78) rfl)
set_option maxRecDepth 100000 in
theorem pv201 : Cond.lays "TongueHouseModel" "TongueHouseModel" "candidates" "I" ∈ lw_tbl := pk_t12 _ (List.mem_of_getElem? (i := 80) rfl)
set_option maxRecDepth 100000 in
theorem pv202 : Cond.laysFinal "TongueHouseModel" "TongueHouseModel" "kept" "[B" ∈ lw_tbl := pk_t12 _ (List.mem_of_getElem? (i := 82) rfl)
set_option maxRecDepth 100000 in
theorem pv203 : Cond.laysFinal "TongueHouseModel" "TongueHouseModel" "keptN" "[I" ∈ lw_tbl := pk_t12 _ (List.mem_of_getElem? (i := 84) rfl)
set_option maxRecDepth 100000 in
theorem pv204 : Cond.laysFinal "TongueHouseModel" "TongueHouseModel" "keptTongue" "[I" ∈ lw_tbl := pk_t12 _ (List.mem_of_getElem? (i := 86) rfl)
set_option maxRecDepth 100000 in
theorem pv205 : Cond.laysFinal "TongueHouseModel" "TongueHouseModel" "keptSize" "[I" ∈ lw_tbl := pk_t12 _ (List.mem_of_getElem? (i := 88) rfl)
set_option maxRecDepth 100000 in
theorem pv206 : Cond.lays "TongueHouseModel" "TongueHouseModel" "collected" "I" ∈ lw_tbl := pk_t12 _ (List.mem_of_getElem? (i := 90) rfl)
set_option maxRecDepth 100000 in
theorem pv207 : Cond.laysFinal "TongueHouseModel" "TongueHouseModel" "asked" "[I" ∈ lw_tbl := pk_t12 _ (List.mem_of_getElem? (i := 92) rfl)
set_option maxRecDepth 100000 in
theorem pv208 : Cond.laysFinal "TongueHouseModel" "TongueHouseModel" "askedN" "[I" ∈ lw_tbl := pk_t12 _ (List.mem_of_getElem? (i := 94) rfl)
set_option maxRecDepth 100000 in
theorem pv209 : Cond.laysFinal "TongueHouseModel" "TongueHouseModel" "hitAt" "[I" ∈ lw_tbl := pk_t12 _ (List.mem_of_getElem? (i := 96) rfl)
set_option maxRecDepth 100000 in
theorem pv210 : Cond.laysFinal "TongueHouseModel" "TongueHouseModel" "hitWord" "[I" ∈ lw_tbl := pk_t12 _ (List.mem_of_getElem? (i := 98) rfl)
set_option maxRecDepth 100000 in
theorem pv211 : Cond.lays "TongueHouseModel" "TongueHouseModel" "hits" "I" ∈ lw_tbl := pk_t12 _ (List.mem_of_getElem? (i := 100) rfl)
set_option maxRecDepth 100000 in
theorem pv212 : Cond.laysFinal "TongueHouseModel" "TongueHouseModel" "hKind" "[I" ∈ lw_tbl := pk_t12 _ (List.mem_of_getElem? (i := 102) rfl)
set_option maxRecDepth 100000 in
theorem pv213 : Cond.laysFinal "TongueHouseModel" "TongueHouseModel" "hA" "[I" ∈ lw_tbl := pk_t12 _ (List.mem_of_getElem? (i := 104) rfl)
set_option maxRecDepth 100000 in
theorem pv214 : Cond.laysFinal "TongueHouseModel" "TongueHouseModel" "hB" "[I" ∈ lw_tbl := pk_t12 _ (List.mem_of_getElem? (i := 106) rfl)
set_option maxRecDepth 100000 in
theorem pv215 : Cond.laysFinal "TongueHouseModel" "TongueHouseModel" "hName" "[J" ∈ lw_tbl := pk_t12 _ (List.mem_of_getElem? (i := 108) rfl)
set_option maxRecDepth 100000 in
theorem pv216 : Cond.lays "TongueHouseModel" "TongueHouseModel" "hp" "I" ∈ lw_tbl := pk_t12 _ (List.mem_of_getElem? (i := 110) rfl)
set_option maxRecDepth 100000 in
theorem pv217 : Cond.lays "TongueHouseModel" "TongueHouseModel" "hEnd" "I" ∈ lw_tbl := pk_t12 _ (List.mem_of_getElem? (i := 112) rfl)
set_option maxRecDepth 100000 in
theorem pv218 : Cond.lays "TongueHouseModel" "TongueHouseModel" "large" "Z" ∈ lw_tbl := pk_t12 _ (List.mem_of_getElem? (i := 114) rfl)
set_option maxRecDepth 100000 in
theorem pv219 : Cond.laysFinal "TongueHouseModel" "TongueHouseModel" "bound" "[I" ∈ lw_tbl := pk_t12 _ (List.mem_of_getElem? (i := 116) rfl)
set_option maxRecDepth 100000 in
theorem pv220 : Cond.lays "TongueHouseModel" "TongueHouseModel" "bounds" "I" ∈ lw_tbl := pk_t12 _ (List.mem_of_getElem? (i := 118) rfl)
set_option maxRecDepth 100000 in
theorem pv221 : Cond.lays "TongueHouseModel" "TongueHouseModel" "looks" "I" ∈ lw_tbl := pk_t12 _ (List.mem_of_getElem? (i := 120) rfl)
set_option maxRecDepth 100000 in
theorem pv222 : Cond.laysFinal "TongueHouseModel" "TongueHouseModel" "W_AND" "J" ∈ lw_tbl := pk_t12 _ (List.mem_of_getElem? (i := 122) rfl)
set_option maxRecDepth 100000 in
theorem pv223 : Cond.laysFinal "TongueHouseModel" "TongueHouseModel" "W_OR" "J" ∈ lw_tbl := pk_t12 _ (List.mem_of_getElem? (i := 124) rfl)
set_option maxRecDepth 100000 in
theorem pv224 : Cond.laysFinal "TongueHouseModel" "TongueHouseModel" "W_IF" "J" ∈ lw_tbl := pk_t12 _ (List.mem_of_getElem? (i := 126) rfl)
set_option maxRecDepth 100000 in
theorem pv225 : Cond.laysFinal "TongueHouseModel" "TongueHouseModel" "W_NOT" "J" ∈ lw_tbl := pk_t12 _ (List.mem_of_getElem? (i := 128) rfl)
set_option maxRecDepth 100000 in
theorem pv226 : Cond.laysFinal "TongueHouseModel" "TongueHouseModel" "W_ALL" "J" ∈ lw_tbl := pk_t12 _ (List.mem_of_getElem? (i := 130) rfl)
set_option maxRecDepth 100000 in
theorem pv227 : Cond.laysFinal "TongueHouseModel" "TongueHouseModel" "W_SOME" "J" ∈ lw_tbl := pk_t12 _ (List.mem_of_getElem? (i := 132) rfl)
set_option maxRecDepth 100000 in
theorem pv228 : Cond.laysFinal "TongueHouseModel" "TongueHouseModel" "W_IS" "J" ∈ lw_tbl := pk_t12 _ (List.mem_of_getElem? (i := 134) rfl)
def pvb0 : List Cond := [Cond.lays "TongueHouseModel" "TongueHouseModel" "thrown" "I", Cond.lays "TongueHouseModel" "TongueHouseModel" "tongues" "I", Cond.lays "TongueHouseModel" "TongueHouseModel" "kinds" "I", Cond.lays "TongueHouseModel" "TongueHouseModel" "funs" "I", Cond.lays "TongueHouseModel" "TongueHouseModel" "things" "I", Cond.lays "TongueHouseModel" "TongueHouseModel" "facts" "I", Cond.lays "TongueHouseModel" "TongueHouseModel" "current" "I", Cond.laysFinal "TongueHouseModel" "TongueHouseModel" "tongueName" "[J", Cond.laysFinal "TongueHouseModel" "TongueHouseModel" "kindName" "[J", Cond.laysFinal "TongueHouseModel" "TongueHouseModel" "funName" "[J", Cond.laysFinal "TongueHouseModel" "TongueHouseModel" "thingName" "[J", Cond.laysFinal "TongueHouseModel" "TongueHouseModel" "factName" "[J", Cond.laysFinal "TongueHouseModel" "TongueHouseModel" "funArgs" "[I", Cond.laysFinal "TongueHouseModel" "TongueHouseModel" "funArg" "[I", Cond.laysFinal "TongueHouseModel" "TongueHouseModel" "funKind" "[I", Cond.laysFinal "TongueHouseModel" "TongueHouseModel" "funPrice" "[I", Cond.laysFinal "TongueHouseModel" "TongueHouseModel" "funMean" "[I", Cond.laysFinal "TongueHouseModel" "TongueHouseModel" "factA" "[I", Cond.laysFinal "TongueHouseModel" "TongueHouseModel" "factB" "[I", Cond.laysFinal "TongueHouseModel" "TongueHouseModel" "features" "[I", Cond.laysFinal "TongueHouseModel" "TongueHouseModel" "values" "[I", Cond.laysFinal "TongueHouseModel" "TongueHouseModel" "classes" "[I", Cond.laysFinal "TongueHouseModel" "TongueHouseModel" "sounds" "[I", Cond.laysFinal "TongueHouseModel" "TongueHouseModel" "patterns" "[I", Cond.laysFinal "TongueHouseModel" "TongueHouseModel" "words" "[I", Cond.laysFinal "TongueHouseModel" "TongueHouseModel" "lins" "[I", Cond.laysFinal "TongueHouseModel" "TongueHouseModel" "featureName" "[J", Cond.laysFinal "TongueHouseModel" "TongueHouseModel" "valueName" "[J", Cond.laysFinal "TongueHouseModel" "TongueHouseModel" "className" "[J", Cond.laysFinal "TongueHouseModel" "TongueHouseModel" "patternName" "[J"]
set_option maxRecDepth 100000 in
theorem pvb0_in : ∀ w ∈ pvb0, w ∈ lw_tbl := List.forall_mem_cons.mpr ⟨pv0, List.forall_mem_cons.mpr ⟨pv1, List.forall_mem_cons.mpr ⟨pv2, List.forall_mem_cons.mpr ⟨pv3, List.forall_mem_cons.mpr ⟨pv4, List.forall_mem_cons.mpr ⟨pv5, List.forall_mem_cons.mpr ⟨pv6, List.forall_mem_cons.mpr ⟨pv7, List.forall_mem_cons.mpr ⟨pv8, List.forall_mem_cons.mpr ⟨pv9, List.forall_mem_cons.mpr ⟨pv10, List.forall_mem_cons.mpr ⟨pv11, List.forall_mem_cons.mpr ⟨pv12, List.forall_mem_cons.mpr ⟨pv13, List.forall_mem_cons.mpr ⟨pv14, List.forall_mem_cons.mpr ⟨pv15, List.forall_mem_cons.mpr ⟨pv16, List.forall_mem_cons.mpr ⟨pv17, List.forall_mem_cons.mpr ⟨pv18, List.forall_mem_cons.mpr ⟨pv19, List.forall_mem_cons.mpr ⟨pv20, List.forall_mem_cons.mpr ⟨pv21, List.forall_mem_cons.mpr ⟨pv22, List.forall_mem_cons.mpr ⟨pv23, List.forall_mem_cons.mpr ⟨pv24, List.forall_mem_cons.mpr ⟨pv25, List.forall_mem_cons.mpr ⟨pv26, List.forall_mem_cons.mpr ⟨pv27, List.forall_mem_cons.mpr ⟨pv28, List.forall_mem_cons.mpr ⟨pv29, fun _ h => absurd h List.not_mem_nil⟩⟩⟩⟩⟩⟩⟩⟩⟩⟩⟩⟩⟩⟩⟩⟩⟩⟩⟩⟩⟩⟩⟩⟩⟩⟩⟩⟩⟩⟩
def pvb1 : List Cond := [Cond.laysFinal "TongueHouseModel" "TongueHouseModel" "valueFeature" "[I", Cond.laysFinal "TongueHouseModel" "TongueHouseModel" "valueNumber" "[I", Cond.laysFinal "TongueHouseModel" "TongueHouseModel" "classLetters" "[I", Cond.laysFinal "TongueHouseModel" "TongueHouseModel" "soundFrom" "[I", Cond.laysFinal "TongueHouseModel" "TongueHouseModel" "soundTo" "[I", Cond.laysFinal "TongueHouseModel" "TongueHouseModel" "soundLeft" "[I", Cond.laysFinal "TongueHouseModel" "TongueHouseModel" "soundRight" "[I", Cond.laysFinal "TongueHouseModel" "TongueHouseModel" "cells" "[I", Cond.laysFinal "TongueHouseModel" "TongueHouseModel" "cellValues" "[I", Cond.laysFinal "TongueHouseModel" "TongueHouseModel" "cellParts" "[I", Cond.laysFinal "TongueHouseModel" "TongueHouseModel" "cellMany" "[I", Cond.laysFinal "TongueHouseModel" "TongueHouseModel" "part" "[I", Cond.lays "TongueHouseModel" "TongueHouseModel" "parts" "I", Cond.laysFinal "TongueHouseModel" "TongueHouseModel" "wordFun" "[I", Cond.laysFinal "TongueHouseModel" "TongueHouseModel" "wordPattern" "[I", Cond.laysFinal "TongueHouseModel" "TongueHouseModel" "wordStem" "[I", Cond.laysFinal "TongueHouseModel" "TongueHouseModel" "wordValues" "[I", Cond.laysFinal "TongueHouseModel" "TongueHouseModel" "wordPrice" "[I", Cond.laysFinal "TongueHouseModel" "TongueHouseModel" "linFun" "[I", Cond.laysFinal "TongueHouseModel" "TongueHouseModel" "linItems" "[I", Cond.laysFinal "TongueHouseModel" "TongueHouseModel" "linItem" "[I", Cond.laysFinal "TongueHouseModel" "TongueHouseModel" "linAsked" "[I", Cond.laysFinal "TongueHouseModel" "TongueHouseModel" "linSaid" "[I", Cond.laysFinal "TongueHouseModel" "TongueHouseModel" "linHow" "[I", Cond.laysFinal "TongueHouseModel" "TongueHouseModel" "linA" "[I", Cond.laysFinal "TongueHouseModel" "TongueHouseModel" "linB" "[I", Cond.laysFinal "TongueHouseModel" "TongueHouseModel" "linF" "[I", Cond.laysFinal "TongueHouseModel" "TongueHouseModel" "linPrice" "[I", Cond.laysFinal "TongueHouseModel" "TongueHouseModel" "letter" "[B", Cond.lays "TongueHouseModel" "TongueHouseModel" "letters" "I"]
set_option maxRecDepth 100000 in
theorem pvb1_in : ∀ w ∈ pvb1, w ∈ lw_tbl := List.forall_mem_cons.mpr ⟨pv30, List.forall_mem_cons.mpr ⟨pv31, List.forall_mem_cons.mpr ⟨pv32, List.forall_mem_cons.mpr ⟨pv33, List.forall_mem_cons.mpr ⟨pv34, List.forall_mem_cons.mpr ⟨pv35, List.forall_mem_cons.mpr ⟨pv36, List.forall_mem_cons.mpr ⟨pv37, List.forall_mem_cons.mpr ⟨pv38, List.forall_mem_cons.mpr ⟨pv39, List.forall_mem_cons.mpr ⟨pv40, List.forall_mem_cons.mpr ⟨pv41, List.forall_mem_cons.mpr ⟨pv42, List.forall_mem_cons.mpr ⟨pv43, List.forall_mem_cons.mpr ⟨pv44, List.forall_mem_cons.mpr ⟨pv45, List.forall_mem_cons.mpr ⟨pv46, List.forall_mem_cons.mpr ⟨pv47, List.forall_mem_cons.mpr ⟨pv48, List.forall_mem_cons.mpr ⟨pv49, List.forall_mem_cons.mpr ⟨pv50, List.forall_mem_cons.mpr ⟨pv51, List.forall_mem_cons.mpr ⟨pv52, List.forall_mem_cons.mpr ⟨pv53, List.forall_mem_cons.mpr ⟨pv54, List.forall_mem_cons.mpr ⟨pv55, List.forall_mem_cons.mpr ⟨pv56, List.forall_mem_cons.mpr ⟨pv57, List.forall_mem_cons.mpr ⟨pv58, List.forall_mem_cons.mpr ⟨pv59, fun _ h => absurd h List.not_mem_nil⟩⟩⟩⟩⟩⟩⟩⟩⟩⟩⟩⟩⟩⟩⟩⟩⟩⟩⟩⟩⟩⟩⟩⟩⟩⟩⟩⟩⟩⟩
def pvb2 : List Cond := [Cond.laysFinal "TongueHouseModel" "TongueHouseModel" "termKind" "[I", Cond.laysFinal "TongueHouseModel" "TongueHouseModel" "termA" "[I", Cond.laysFinal "TongueHouseModel" "TongueHouseModel" "termB" "[I", Cond.laysFinal "TongueHouseModel" "TongueHouseModel" "termName" "[J", Cond.lays "TongueHouseModel" "TongueHouseModel" "terms" "I", Cond.laysFinal "TongueHouseModel" "TongueHouseModel" "tape" "[B", Cond.laysFinal "TongueHouseModel" "TongueHouseModel" "text" "[B", Cond.laysFinal "TongueHouseModel" "TongueHouseModel" "out" "[B", Cond.lays "TongueHouseModel" "TongueHouseModel" "taped" "I", Cond.lays "TongueHouseModel" "TongueHouseModel" "textN" "I", Cond.lays "TongueHouseModel" "TongueHouseModel" "outN" "I", Cond.lays "TongueHouseModel" "TongueHouseModel" "tk" "I", Cond.lays "TongueHouseModel" "TongueHouseModel" "tkAt" "I", Cond.lays "TongueHouseModel" "TongueHouseModel" "tkEnd" "I", Cond.lays "TongueHouseModel" "TongueHouseModel" "tkNumber" "I", Cond.lays "TongueHouseModel" "TongueHouseModel" "tkName" "J", Cond.lays "TongueHouseModel" "TongueHouseModel" "wrong" "I", Cond.lays "TongueHouseModel" "TongueHouseModel" "wrongAt" "I", Cond.lays "TongueHouseModel" "TongueHouseModel" "firstAt" "I", Cond.lays "TongueHouseModel" "TongueHouseModel" "lastRule" "I", Cond.laysFinal "TongueHouseModel" "TongueHouseModel" "W_TONGUE" "J", Cond.laysFinal "TongueHouseModel" "TongueHouseModel" "W_KIND" "J", Cond.laysFinal "TongueHouseModel" "TongueHouseModel" "W_FUN" "J", Cond.laysFinal "TongueHouseModel" "TongueHouseModel" "W_FEATURE" "J", Cond.laysFinal "TongueHouseModel" "TongueHouseModel" "W_LETTERS" "J", Cond.laysFinal "TongueHouseModel" "TongueHouseModel" "W_SOUND" "J", Cond.laysFinal "TongueHouseModel" "TongueHouseModel" "W_PATTERN" "J", Cond.laysFinal "TongueHouseModel" "TongueHouseModel" "W_WORD" "J", Cond.laysFinal "TongueHouseModel" "TongueHouseModel" "W_LIN" "J", Cond.laysFinal "TongueHouseModel" "TongueHouseModel" "W_MEAN" "J"]
set_option maxRecDepth 100000 in
theorem pvb2_in : ∀ w ∈ pvb2, w ∈ lw_tbl := List.forall_mem_cons.mpr ⟨pv60, List.forall_mem_cons.mpr ⟨pv61, List.forall_mem_cons.mpr ⟨pv62, List.forall_mem_cons.mpr ⟨pv63, List.forall_mem_cons.mpr ⟨pv64, List.forall_mem_cons.mpr ⟨pv65, List.forall_mem_cons.mpr ⟨pv66, List.forall_mem_cons.mpr ⟨pv67, List.forall_mem_cons.mpr ⟨pv68, List.forall_mem_cons.mpr ⟨pv69, List.forall_mem_cons.mpr ⟨pv70, List.forall_mem_cons.mpr ⟨pv71, List.forall_mem_cons.mpr ⟨pv72, List.forall_mem_cons.mpr ⟨pv73, List.forall_mem_cons.mpr ⟨pv74, List.forall_mem_cons.mpr ⟨pv75, List.forall_mem_cons.mpr ⟨pv76, List.forall_mem_cons.mpr ⟨pv77, List.forall_mem_cons.mpr ⟨pv78, List.forall_mem_cons.mpr ⟨pv79, List.forall_mem_cons.mpr ⟨pv80, List.forall_mem_cons.mpr ⟨pv81, List.forall_mem_cons.mpr ⟨pv82, List.forall_mem_cons.mpr ⟨pv83, List.forall_mem_cons.mpr ⟨pv84, List.forall_mem_cons.mpr ⟨pv85, List.forall_mem_cons.mpr ⟨pv86, List.forall_mem_cons.mpr ⟨pv87, List.forall_mem_cons.mpr ⟨pv88, List.forall_mem_cons.mpr ⟨pv89, fun _ h => absurd h List.not_mem_nil⟩⟩⟩⟩⟩⟩⟩⟩⟩⟩⟩⟩⟩⟩⟩⟩⟩⟩⟩⟩⟩⟩⟩⟩⟩⟩⟩⟩⟩⟩
def pvb3 : List Cond := [Cond.laysFinal "TongueHouseModel" "TongueHouseModel" "W_THING" "J", Cond.laysFinal "TongueHouseModel" "TongueHouseModel" "W_FACT" "J", Cond.laysFinal "TongueHouseModel" "TongueHouseModel" "W_COST" "J", Cond.laysFinal "TongueHouseModel" "TongueHouseModel" "W_HAS" "J", Cond.laysFinal "TongueHouseModel" "TongueHouseModel" "W_OF" "J", Cond.laysFinal "TongueHouseModel" "TongueHouseModel" "W_AGREE" "J", Cond.laysFinal "TongueHouseModel" "TongueHouseModel" "W_GIVE" "J", Cond.laysFinal "TongueHouseModel" "TongueHouseModel" "had" "[I", Cond.laysFinal "TongueHouseModel" "TongueHouseModel" "meant" "[I", Cond.lays "TongueHouseModel" "TongueHouseModel" "meants" "I", Cond.lays "TongueHouseModel" "TongueHouseModel" "version" "I", Cond.lays "TongueHouseModel" "TongueHouseModel" "price" "I", Cond.laysFinal "TongueHouseModel" "TongueHouseModel" "four" "[I", Cond.laysFinal "TongueHouseModel" "TongueHouseModel" "six" "[J", Cond.lays "TongueHouseModel" "TongueHouseModel" "what" "I", Cond.laysFinal "TongueHouseModel" "TongueHouseModel" "sides" "[I", Cond.lays "TongueHouseModel" "TongueHouseModel" "packed" "I", Cond.laysFinal "TongueHouseModel" "TongueHouseModel" "newValues" "[I", Cond.laysFinal "TongueHouseModel" "TongueHouseModel" "newParts" "[I", Cond.laysFinal "TongueHouseModel" "TongueHouseModel" "newMany" "[I", Cond.laysFinal "TongueHouseModel" "TongueHouseModel" "stems" "[I", Cond.laysFinal "TongueHouseModel" "TongueHouseModel" "itemIs" "[I", Cond.laysFinal "TongueHouseModel" "TongueHouseModel" "itemAsks" "[I", Cond.laysFinal "TongueHouseModel" "TongueHouseModel" "saidHow" "[I", Cond.laysFinal "TongueHouseModel" "TongueHouseModel" "saidA" "[I", Cond.laysFinal "TongueHouseModel" "TongueHouseModel" "saidB" "[I", Cond.laysFinal "TongueHouseModel" "TongueHouseModel" "saidF" "[I", Cond.laysFinal "TongueHouseModel" "TongueHouseModel" "argAt" "[I", Cond.lays "TongueHouseModel" "TongueHouseModel" "nItems" "I", Cond.lays "TongueHouseModel" "TongueHouseModel" "nSaid" "I"]
set_option maxRecDepth 100000 in
theorem pvb3_in : ∀ w ∈ pvb3, w ∈ lw_tbl := List.forall_mem_cons.mpr ⟨pv90, List.forall_mem_cons.mpr ⟨pv91, List.forall_mem_cons.mpr ⟨pv92, List.forall_mem_cons.mpr ⟨pv93, List.forall_mem_cons.mpr ⟨pv94, List.forall_mem_cons.mpr ⟨pv95, List.forall_mem_cons.mpr ⟨pv96, List.forall_mem_cons.mpr ⟨pv97, List.forall_mem_cons.mpr ⟨pv98, List.forall_mem_cons.mpr ⟨pv99, List.forall_mem_cons.mpr ⟨pv100, List.forall_mem_cons.mpr ⟨pv101, List.forall_mem_cons.mpr ⟨pv102, List.forall_mem_cons.mpr ⟨pv103, List.forall_mem_cons.mpr ⟨pv104, List.forall_mem_cons.mpr ⟨pv105, List.forall_mem_cons.mpr ⟨pv106, List.forall_mem_cons.mpr ⟨pv107, List.forall_mem_cons.mpr ⟨pv108, List.forall_mem_cons.mpr ⟨pv109, List.forall_mem_cons.mpr ⟨pv110, List.forall_mem_cons.mpr ⟨pv111, List.forall_mem_cons.mpr ⟨pv112, List.forall_mem_cons.mpr ⟨pv113, List.forall_mem_cons.mpr ⟨pv114, List.forall_mem_cons.mpr ⟨pv115, List.forall_mem_cons.mpr ⟨pv116, List.forall_mem_cons.mpr ⟨pv117, List.forall_mem_cons.mpr ⟨pv118, List.forall_mem_cons.mpr ⟨pv119, fun _ h => absurd h List.not_mem_nil⟩⟩⟩⟩⟩⟩⟩⟩⟩⟩⟩⟩⟩⟩⟩⟩⟩⟩⟩⟩⟩⟩⟩⟩⟩⟩⟩⟩⟩⟩
def pvb4 : List Cond := [Cond.lays "TongueHouseModel" "TongueHouseModel" "argument" "I", Cond.laysFinal "TongueHouseModel" "TongueHouseModel" "binder" "[J", Cond.lays "TongueHouseModel" "TongueHouseModel" "binders" "I", Cond.lays "TongueHouseModel" "TongueHouseModel" "termFun" "I", Cond.laysFinal "TongueHouseModel" "TongueHouseModel" "buf" "[B", Cond.laysFinal "TongueHouseModel" "TongueHouseModel" "made" "[B", Cond.lays "TongueHouseModel" "TongueHouseModel" "bufN" "I", Cond.lays "TongueHouseModel" "TongueHouseModel" "formsOf" "I", Cond.lays "TongueHouseModel" "TongueHouseModel" "formsAt" "I", Cond.laysFinal "TongueHouseModel" "TongueHouseModel" "formLetter" "[B", Cond.laysFinal "TongueHouseModel" "TongueHouseModel" "formSize" "[I", Cond.laysFinal "TongueHouseModel" "TongueHouseModel" "found" "[I", Cond.lays "TongueHouseModel" "TongueHouseModel" "foundN" "I", Cond.lays "TongueHouseModel" "TongueHouseModel" "foundT" "I", Cond.laysFinal "TongueHouseModel" "TongueHouseModel" "guessP" "[I", Cond.laysFinal "TongueHouseModel" "TongueHouseModel" "guessN" "[I", Cond.lays "TongueHouseModel" "TongueHouseModel" "guesses" "I", Cond.lays "TongueHouseModel" "TongueHouseModel" "guessAll" "I", Cond.lays "TongueHouseModel" "TongueHouseModel" "guessLong" "I", Cond.laysFinal "TongueHouseModel" "TongueHouseModel" "said" "[B", Cond.laysFinal "TongueHouseModel" "TongueHouseModel" "other" "[B", Cond.laysFinal "TongueHouseModel" "TongueHouseModel" "saidN" "[I", Cond.laysFinal "TongueHouseModel" "TongueHouseModel" "otherN" "[I", Cond.lays "TongueHouseModel" "TongueHouseModel" "n" "I", Cond.laysFinal "TongueHouseModel" "TongueHouseModel" "nKind" "[I", Cond.laysFinal "TongueHouseModel" "TongueHouseModel" "nTo" "[I", Cond.laysFinal "TongueHouseModel" "TongueHouseModel" "nValues" "[I", Cond.laysFinal "TongueHouseModel" "TongueHouseModel" "nNext" "[I", Cond.laysFinal "TongueHouseModel" "TongueHouseModel" "nAt" "[I", Cond.laysFinal "TongueHouseModel" "TongueHouseModel" "nMany" "[I"]
set_option maxRecDepth 100000 in
theorem pvb4_in : ∀ w ∈ pvb4, w ∈ lw_tbl := List.forall_mem_cons.mpr ⟨pv120, List.forall_mem_cons.mpr ⟨pv121, List.forall_mem_cons.mpr ⟨pv122, List.forall_mem_cons.mpr ⟨pv123, List.forall_mem_cons.mpr ⟨pv124, List.forall_mem_cons.mpr ⟨pv125, List.forall_mem_cons.mpr ⟨pv126, List.forall_mem_cons.mpr ⟨pv127, List.forall_mem_cons.mpr ⟨pv128, List.forall_mem_cons.mpr ⟨pv129, List.forall_mem_cons.mpr ⟨pv130, List.forall_mem_cons.mpr ⟨pv131, List.forall_mem_cons.mpr ⟨pv132, List.forall_mem_cons.mpr ⟨pv133, List.forall_mem_cons.mpr ⟨pv134, List.forall_mem_cons.mpr ⟨pv135, List.forall_mem_cons.mpr ⟨pv136, List.forall_mem_cons.mpr ⟨pv137, List.forall_mem_cons.mpr ⟨pv138, List.forall_mem_cons.mpr ⟨pv139, List.forall_mem_cons.mpr ⟨pv140, List.forall_mem_cons.mpr ⟨pv141, List.forall_mem_cons.mpr ⟨pv142, List.forall_mem_cons.mpr ⟨pv143, List.forall_mem_cons.mpr ⟨pv144, List.forall_mem_cons.mpr ⟨pv145, List.forall_mem_cons.mpr ⟨pv146, List.forall_mem_cons.mpr ⟨pv147, List.forall_mem_cons.mpr ⟨pv148, List.forall_mem_cons.mpr ⟨pv149, fun _ h => absurd h List.not_mem_nil⟩⟩⟩⟩⟩⟩⟩⟩⟩⟩⟩⟩⟩⟩⟩⟩⟩⟩⟩⟩⟩⟩⟩⟩⟩⟩⟩⟩⟩⟩
def pvb5 : List Cond := [Cond.laysFinal "TongueHouseModel" "TongueHouseModel" "span" "[I", Cond.laysFinal "TongueHouseModel" "TongueHouseModel" "yNode" "[I", Cond.laysFinal "TongueHouseModel" "TongueHouseModel" "yA" "[I", Cond.laysFinal "TongueHouseModel" "TongueHouseModel" "yB" "[I", Cond.laysFinal "TongueHouseModel" "TongueHouseModel" "yLin" "[I", Cond.laysFinal "TongueHouseModel" "TongueHouseModel" "yArg" "[I", Cond.laysFinal "TongueHouseModel" "TongueHouseModel" "yOrder" "[I", Cond.lays "TongueHouseModel" "TongueHouseModel" "nodes" "I", Cond.lays "TongueHouseModel" "TongueHouseModel" "ways" "I", Cond.lays "TongueHouseModel" "TongueHouseModel" "forestTongue" "I", Cond.lays "TongueHouseModel" "TongueHouseModel" "tooMany" "Z", Cond.lays "TongueHouseModel" "TongueHouseModel" "tries" "I", Cond.laysFinal "TongueHouseModel" "TongueHouseModel" "eff" "[I", Cond.laysFinal "TongueHouseModel" "TongueHouseModel" "fin" "[I", Cond.laysFinal "TongueHouseModel" "TongueHouseModel" "argNode" "[I", Cond.laysFinal "TongueHouseModel" "TongueHouseModel" "itemNode" "[I", Cond.lays "TongueHouseModel" "TongueHouseModel" "pt" "I", Cond.lays "TongueHouseModel" "TongueHouseModel" "pLin" "I", Cond.lays "TongueHouseModel" "TongueHouseModel" "pFrom" "I", Cond.lays "TongueHouseModel" "TongueHouseModel" "pTo" "I", Cond.lays "TongueHouseModel" "TongueHouseModel" "pNumber" "I", Cond.laysFinal "TongueHouseModel" "TongueHouseModel" "nTrees" "[J", Cond.laysFinal "TongueHouseModel" "TongueHouseModel" "topN" "[I", Cond.laysFinal "TongueHouseModel" "TongueHouseModel" "topPrice" "[I", Cond.laysFinal "TongueHouseModel" "TongueHouseModel" "topWay" "[I", Cond.laysFinal "TongueHouseModel" "TongueHouseModel" "topRanks" "[I", Cond.laysFinal "TongueHouseModel" "TongueHouseModel" "barred" "[Z", Cond.lays "TongueHouseModel" "TongueHouseModel" "forest" "I", Cond.lays "TongueHouseModel" "TongueHouseModel" "forestN" "I", Cond.lays "TongueHouseModel" "TongueHouseModel" "noted" "I"]
set_option maxRecDepth 100000 in
theorem pvb5_in : ∀ w ∈ pvb5, w ∈ lw_tbl := List.forall_mem_cons.mpr ⟨pv150, List.forall_mem_cons.mpr ⟨pv151, List.forall_mem_cons.mpr ⟨pv152, List.forall_mem_cons.mpr ⟨pv153, List.forall_mem_cons.mpr ⟨pv154, List.forall_mem_cons.mpr ⟨pv155, List.forall_mem_cons.mpr ⟨pv156, List.forall_mem_cons.mpr ⟨pv157, List.forall_mem_cons.mpr ⟨pv158, List.forall_mem_cons.mpr ⟨pv159, List.forall_mem_cons.mpr ⟨pv160, List.forall_mem_cons.mpr ⟨pv161, List.forall_mem_cons.mpr ⟨pv162, List.forall_mem_cons.mpr ⟨pv163, List.forall_mem_cons.mpr ⟨pv164, List.forall_mem_cons.mpr ⟨pv165, List.forall_mem_cons.mpr ⟨pv166, List.forall_mem_cons.mpr ⟨pv167, List.forall_mem_cons.mpr ⟨pv168, List.forall_mem_cons.mpr ⟨pv169, List.forall_mem_cons.mpr ⟨pv170, List.forall_mem_cons.mpr ⟨pv171, List.forall_mem_cons.mpr ⟨pv172, List.forall_mem_cons.mpr ⟨pv173, List.forall_mem_cons.mpr ⟨pv174, List.forall_mem_cons.mpr ⟨pv175, List.forall_mem_cons.mpr ⟨pv176, List.forall_mem_cons.mpr ⟨pv177, List.forall_mem_cons.mpr ⟨pv178, List.forall_mem_cons.mpr ⟨pv179, fun _ h => absurd h List.not_mem_nil⟩⟩⟩⟩⟩⟩⟩⟩⟩⟩⟩⟩⟩⟩⟩⟩⟩⟩⟩⟩⟩⟩⟩⟩⟩⟩⟩⟩⟩⟩
def pvb6 : List Cond := [Cond.lays "TongueHouseModel" "TongueHouseModel" "notedWays" "I", Cond.lays "TongueHouseModel" "TongueHouseModel" "all" "J", Cond.lays "TongueHouseModel" "TongueHouseModel" "left" "J", Cond.laysFinal "TongueHouseModel" "TongueHouseModel" "readNode" "[I", Cond.laysFinal "TongueHouseModel" "TongueHouseModel" "readRank" "[I", Cond.laysFinal "TongueHouseModel" "TongueHouseModel" "readPrice" "[I", Cond.lays "TongueHouseModel" "TongueHouseModel" "readings" "I", Cond.laysFinal "TongueHouseModel" "TongueHouseModel" "tree" "[I", Cond.lays "TongueHouseModel" "TongueHouseModel" "treeN" "I", Cond.laysFinal "TongueHouseModel" "TongueHouseModel" "placeFun" "[I", Cond.laysFinal "TongueHouseModel" "TongueHouseModel" "placeN" "[I", Cond.laysFinal "TongueHouseModel" "TongueHouseModel" "optText" "[B", Cond.laysFinal "TongueHouseModel" "TongueHouseModel" "optSize" "[I", Cond.laysFinal "TongueHouseModel" "TongueHouseModel" "optValues" "[I", Cond.laysFinal "TongueHouseModel" "TongueHouseModel" "optPrice" "[I", Cond.laysFinal "TongueHouseModel" "TongueHouseModel" "optOrder" "[I", Cond.laysFinal "TongueHouseModel" "TongueHouseModel" "optN" "[I", Cond.laysFinal "TongueHouseModel" "TongueHouseModel" "argTree" "[I", Cond.laysFinal "TongueHouseModel" "TongueHouseModel" "picked" "[I", Cond.laysFinal "TongueHouseModel" "TongueHouseModel" "candidate" "[B", Cond.laysFinal "TongueHouseModel" "TongueHouseModel" "candidateN" "[I", Cond.lays "TongueHouseModel" "TongueHouseModel" "candidates" "I", Cond.laysFinal "TongueHouseModel" "TongueHouseModel" "kept" "[B", Cond.laysFinal "TongueHouseModel" "TongueHouseModel" "keptN" "[I", Cond.laysFinal "TongueHouseModel" "TongueHouseModel" "keptTongue" "[I", Cond.laysFinal "TongueHouseModel" "TongueHouseModel" "keptSize" "[I", Cond.lays "TongueHouseModel" "TongueHouseModel" "collected" "I", Cond.laysFinal "TongueHouseModel" "TongueHouseModel" "asked" "[I", Cond.laysFinal "TongueHouseModel" "TongueHouseModel" "askedN" "[I", Cond.laysFinal "TongueHouseModel" "TongueHouseModel" "hitAt" "[I"]
set_option maxRecDepth 100000 in
theorem pvb6_in : ∀ w ∈ pvb6, w ∈ lw_tbl := List.forall_mem_cons.mpr ⟨pv180, List.forall_mem_cons.mpr ⟨pv181, List.forall_mem_cons.mpr ⟨pv182, List.forall_mem_cons.mpr ⟨pv183, List.forall_mem_cons.mpr ⟨pv184, List.forall_mem_cons.mpr ⟨pv185, List.forall_mem_cons.mpr ⟨pv186, List.forall_mem_cons.mpr ⟨pv187, List.forall_mem_cons.mpr ⟨pv188, List.forall_mem_cons.mpr ⟨pv189, List.forall_mem_cons.mpr ⟨pv190, List.forall_mem_cons.mpr ⟨pv191, List.forall_mem_cons.mpr ⟨pv192, List.forall_mem_cons.mpr ⟨pv193, List.forall_mem_cons.mpr ⟨pv194, List.forall_mem_cons.mpr ⟨pv195, List.forall_mem_cons.mpr ⟨pv196, List.forall_mem_cons.mpr ⟨pv197, List.forall_mem_cons.mpr ⟨pv198, List.forall_mem_cons.mpr ⟨pv199, List.forall_mem_cons.mpr ⟨pv200, List.forall_mem_cons.mpr ⟨pv201, List.forall_mem_cons.mpr ⟨pv202, List.forall_mem_cons.mpr ⟨pv203, List.forall_mem_cons.mpr ⟨pv204, List.forall_mem_cons.mpr ⟨pv205, List.forall_mem_cons.mpr ⟨pv206, List.forall_mem_cons.mpr ⟨pv207, List.forall_mem_cons.mpr ⟨pv208, List.forall_mem_cons.mpr ⟨pv209, fun _ h => absurd h List.not_mem_nil⟩⟩⟩⟩⟩⟩⟩⟩⟩⟩⟩⟩⟩⟩⟩⟩⟩⟩⟩⟩⟩⟩⟩⟩⟩⟩⟩⟩⟩⟩
def pvb7 : List Cond := [Cond.laysFinal "TongueHouseModel" "TongueHouseModel" "hitWord" "[I", Cond.lays "TongueHouseModel" "TongueHouseModel" "hits" "I", Cond.laysFinal "TongueHouseModel" "TongueHouseModel" "hKind" "[I", Cond.laysFinal "TongueHouseModel" "TongueHouseModel" "hA" "[I", Cond.laysFinal "TongueHouseModel" "TongueHouseModel" "hB" "[I", Cond.laysFinal "TongueHouseModel" "TongueHouseModel" "hName" "[J", Cond.lays "TongueHouseModel" "TongueHouseModel" "hp" "I", Cond.lays "TongueHouseModel" "TongueHouseModel" "hEnd" "I", Cond.lays "TongueHouseModel" "TongueHouseModel" "large" "Z", Cond.laysFinal "TongueHouseModel" "TongueHouseModel" "bound" "[I", Cond.lays "TongueHouseModel" "TongueHouseModel" "bounds" "I", Cond.lays "TongueHouseModel" "TongueHouseModel" "looks" "I", Cond.laysFinal "TongueHouseModel" "TongueHouseModel" "W_AND" "J", Cond.laysFinal "TongueHouseModel" "TongueHouseModel" "W_OR" "J", Cond.laysFinal "TongueHouseModel" "TongueHouseModel" "W_IF" "J", Cond.laysFinal "TongueHouseModel" "TongueHouseModel" "W_NOT" "J", Cond.laysFinal "TongueHouseModel" "TongueHouseModel" "W_ALL" "J", Cond.laysFinal "TongueHouseModel" "TongueHouseModel" "W_SOME" "J", Cond.laysFinal "TongueHouseModel" "TongueHouseModel" "W_IS" "J"]
set_option maxRecDepth 100000 in
theorem pvb7_in : ∀ w ∈ pvb7, w ∈ lw_tbl := List.forall_mem_cons.mpr ⟨pv210, List.forall_mem_cons.mpr ⟨pv211, List.forall_mem_cons.mpr ⟨pv212, List.forall_mem_cons.mpr ⟨pv213, List.forall_mem_cons.mpr ⟨pv214, List.forall_mem_cons.mpr ⟨pv215, List.forall_mem_cons.mpr ⟨pv216, List.forall_mem_cons.mpr ⟨pv217, List.forall_mem_cons.mpr ⟨pv218, List.forall_mem_cons.mpr ⟨pv219, List.forall_mem_cons.mpr ⟨pv220, List.forall_mem_cons.mpr ⟨pv221, List.forall_mem_cons.mpr ⟨pv222, List.forall_mem_cons.mpr ⟨pv223, List.forall_mem_cons.mpr ⟨pv224, List.forall_mem_cons.mpr ⟨pv225, List.forall_mem_cons.mpr ⟨pv226, List.forall_mem_cons.mpr ⟨pv227, List.forall_mem_cons.mpr ⟨pv228, fun _ h => absurd h List.not_mem_nil⟩⟩⟩⟩⟩⟩⟩⟩⟩⟩⟩⟩⟩⟩⟩⟩⟩⟩⟩
set_option maxRecDepth 100000 in
theorem pvb_split : u_ws RX13 TX13 229 = pvb0 ++ (pvb1 ++ (pvb2 ++ (pvb3 ++ (pvb4 ++ (pvb5 ++ (pvb6 ++ (pvb7))))))) := rfl
theorem pvb_all : ∀ w ∈ u_ws RX13 TX13 229, w ∈ lw_tbl := by
  rw [pvb_split]
  exact List.forall_mem_append.mpr ⟨pvb0_in, List.forall_mem_append.mpr ⟨pvb1_in, List.forall_mem_append.mpr ⟨pvb2_in, List.forall_mem_append.mpr ⟨pvb3_in, List.forall_mem_append.mpr ⟨pvb4_in, List.forall_mem_append.mpr ⟨pvb5_in, List.forall_mem_append.mpr ⟨pvb6_in, pvb7_in⟩⟩⟩⟩⟩⟩⟩
theorem pl_u13 : GoodIn lw_tbl (u_ws RX13 TX13 229) := goodIn_sub pvb_all pu13
set_option maxRecDepth 100000 in
theorem pl_u0 : GoodIn lw_tbl (u_ws RX0 TX0 22) := goodIn_r _ [543, 545, 547, 549, 551, 553, 555, 557, 559, 561, 563, 565, 567, 569, 571, 573, 575, 577, 579, 581, 583, 585] (by decide +kernel) pu0
set_option maxRecDepth 100000 in
theorem pl_u1 : GoodIn lw_tbl (u_ws RX1 TX1 19) := goodIn_r _ [797, 799, 801, 803, 805, 807, 809, 811, 813, 815, 817, 819, 821, 823, 825, 827, 829, 831, 833] (by decide +kernel) pu1
set_option maxRecDepth 100000 in
theorem pl_u4 : GoodIn lw_tbl (u_ws RX4 TX4 2) := goodIn_r _ [262, 264] (by decide +kernel) pu4
set_option maxRecDepth 100000 in
theorem pl_u5 : GoodIn lw_tbl (u_ws RX5 TX5 19) := goodIn_r _ [614, 616, 618, 620, 622, 624, 626, 628, 630, 632, 634, 636, 638, 640, 642, 644, 646, 648, 650] (by decide +kernel) pu5
set_option maxRecDepth 100000 in
theorem pl_u6 : GoodIn lw_tbl (u_ws RX6 TX6 19) := goodIn_r _ [463, 465, 467, 469, 471, 473, 475, 477, 479, 481, 483, 485, 487, 489, 491, 493, 495, 497, 499] (by decide +kernel) pu6
set_option maxRecDepth 100000 in
theorem pl_u8 : GoodIn lw_tbl (u_ws RX8 TX8 21) := goodIn_r _ [329, 331, 333, 335, 337, 339, 341, 343, 345, 347, 349, 351, 353, 355, 357, 359, 361, 363, 365, 367, 369] (by decide +kernel) pu8
set_option maxRecDepth 100000 in
theorem pl_u9 : GoodIn lw_tbl (u_ws RX9 TX9 10) := goodIn_r _ [415, 417, 419, 421, 423, 425, 427, 429, 431, 433] (by decide +kernel) pu9
set_option maxRecDepth 100000 in
theorem pl_u12 : GoodIn lw_tbl (u_ws RX12 TX12 17) := goodIn_r _ [856, 858, 860, 862, 864, 866, 868, 870, 872, 874, 876, 878, 880, 882, 884, 886, 888] (by decide +kernel) pu12
theorem pl_at : ∀ w ∈ px_atI.filter goodWord, w ∈ lw_tbl := by decide +kernel
theorem pl_in : ∀ w ∈ pp_ws, w ∈ lw_tbl := fun w h => by
  rcases List.mem_append.mp h with h | h
  · exact (pl_in0 w h).1
  rcases List.mem_append.mp h with h | h
  · exact pl_at w h
  rcases List.mem_append.mp h with h | h
  · exact (pl_u0 w h).1
  rcases List.mem_append.mp h with h | h
  · exact (pl_u1 w h).1
  rcases List.mem_append.mp h with h | h
  · exact (pl_u4 w h).1
  rcases List.mem_append.mp h with h | h
  · exact (pl_u5 w h).1
  rcases List.mem_append.mp h with h | h
  · exact (pl_u6 w h).1
  rcases List.mem_append.mp h with h | h
  · exact (pl_u8 w h).1
  rcases List.mem_append.mp h with h | h
  · exact (pl_u9 w h).1
  rcases List.mem_append.mp h with h | h
  · exact (pl_u12 w h).1
  exact (pl_u13 w h).1
theorem pl_good {w : Cond} (h : w ∈ pp_ws) : w ∈ lw_tbl ∧ ((w.onTables && w.keeps) = true ∨ ∃ ty, w = .arrayClass ty) := ⟨pl_in w h, good_of_word (pp_good w h)⟩
theorem pl_gV {c1 : Cond} {own C : String} {index : Nat} {y : MethodName} (h0 : c1 ∈ pp_ws) (h1 : Cond.methodLink own index y ∈ pp_ws) (h2 : Cond.instanceMethod y ∈ pp_ws) (h3 : Cond.selects C y y ∈ pp_ws) (h4 : Cond.initialized C ∈ pp_ws) : GoodIn lw_tbl (wsV own index C y (c1 :: pp_ws)) := fun w hw => by
  obtain ⟨h8, h9⟩ := pp_gV (c0 := c1) h0 h1 h2 h3 h4 w hw
  rcases List.mem_cons.mp h8 with rfl | h8
  · exact pl_good h0
  · exact pl_good h8
theorem pl_gS {c1 : Cond} {own : String} {index : Nat} {y : MethodName} (h0 : c1 ∈ pp_ws) (h1 : Cond.methodLink own index y ∈ pp_ws) (h2 : Cond.static y ∈ pp_ws) (h3 : Cond.initialized y.cls ∈ pp_ws) : GoodIn lw_tbl (va_wsS own index y (c1 :: pp_ws)) := fun w hw => by
  obtain ⟨h8, h9⟩ := pp_gS (c0 := c1) h0 h1 h2 h3 w hw
  rcases List.mem_cons.mp h8 with rfl | h8
  · exact pl_good h0
  · exact pl_good h8
theorem pl_gI {c1 : Cond} (h0 : c1 ∈ pp_ws) : GoodIn lw_tbl (c1 :: pp_ws) := fun w hw => by
  rcases List.mem_cons.mp hw with rfl | hw
  · exact pl_good h0
  · exact pl_good hw
