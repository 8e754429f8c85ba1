/-! THE WORDS among the tables. -/
theorem pk_t1 : ∀ w ∈ tables_1_1, w ∈ lw_tbl := fun w h => List.mem_append_right _ (List.mem_append_left _ h)
theorem pk_t2 : ∀ w ∈ tables_1_2, w ∈ lw_tbl := fun w h => List.mem_append_right _ (List.mem_append_right _ (List.mem_append_left _ h))
theorem pk_t3 : ∀ w ∈ tables_1_3, w ∈ lw_tbl := fun w h => List.mem_append_right _ (List.mem_append_right _ (List.mem_append_right _ (List.mem_append_left _ h)))
theorem pk_t4 : ∀ w ∈ tables_1_4, w ∈ lw_tbl := fun w h => List.mem_append_right _ (List.mem_append_right _ (List.mem_append_right _ (List.mem_append_right _ (List.mem_append_left _ h))))
theorem pk_t5 : ∀ w ∈ tables_1_5, w ∈ lw_tbl := fun w h => List.mem_append_right _ (List.mem_append_right _ (List.mem_append_right _ (List.mem_append_right _ (List.mem_append_right _ (List.mem_append_left _ h)))))
theorem pk_t6 : ∀ w ∈ tables_1_6, w ∈ lw_tbl := fun w h => List.mem_append_right _ (List.mem_append_right _ (List.mem_append_right _ (List.mem_append_right _ (List.mem_append_right _ (List.mem_append_right _ (List.mem_append_left _ h))))))
theorem pk_t7 : ∀ w ∈ tables_1_7, w ∈ lw_tbl := fun w h => List.mem_append_right _ (List.mem_append_right _ (List.mem_append_right _ (List.mem_append_right _ (List.mem_append_right _ (List.mem_append_right _ (List.mem_append_right _ (List.mem_append_left _ h)))))))
theorem pk_t8 : ∀ w ∈ tables_1_8, w ∈ lw_tbl := fun w h => List.mem_append_right _ (List.mem_append_right _ (List.mem_append_right _ (List.mem_append_right _ (List.mem_append_right _ (List.mem_append_right _ (List.mem_append_right _ (List.mem_append_right _ (List.mem_append_left _ h))))))))
theorem pk_t9 : ∀ w ∈ tables_1_9, w ∈ lw_tbl := fun w h => List.mem_append_right _ (List.mem_append_right _ (List.mem_append_right _ (List.mem_append_right _ (List.mem_append_right _ (List.mem_append_right _ (List.mem_append_right _ (List.mem_append_right _ (List.mem_append_right _ (List.mem_append_left _ h)))))))))
theorem pk_t10 : ∀ w ∈ tables_1_10, w ∈ lw_tbl := fun w h => List.mem_append_right _ (List.mem_append_right _ (List.mem_append_right _ (List.mem_append_right _ (List.mem_append_right _ (List.mem_append_right _ (List.mem_append_right _ (List.mem_append_right _ (List.mem_append_right _ (List.mem_append_right _ (List.mem_append_left _ h))))))))))
theorem pk_t11 : ∀ w ∈ tables_1_11, w ∈ lw_tbl := fun w h => List.mem_append_right _ (List.mem_append_right _ (List.mem_append_right _ (List.mem_append_right _ (List.mem_append_right _ (List.mem_append_right _ (List.mem_append_right _ (List.mem_append_right _ (List.mem_append_right _ (List.mem_append_right _ (List.mem_append_right _ (List.mem_append_left _ h)))))))))))
theorem pk_t12 : ∀ w ∈ tables_1_12, w ∈ lw_tbl := fun w h => List.mem_append_right _ (List.mem_append_right _ (List.mem_append_right _ (List.mem_append_right _ (List.mem_append_right _ (List.mem_append_right _ (List.mem_append_right _ (List.mem_append_right _ (List.mem_append_right _ (List.mem_append_right _ (List.mem_append_right _ (List.mem_append_right _ (List.mem_append_left _ h))))))))))))
theorem pk_t13 : ∀ w ∈ tables_1_13, w ∈ lw_tbl := fun w h => List.mem_append_right _ (List.mem_append_right _ (List.mem_append_right _ (List.mem_append_right _ (List.mem_append_right _ (List.mem_append_right _ (List.mem_append_right _ (List.mem_append_right _ (List.mem_append_right _ (List.mem_append_right _ (List.mem_append_right _ (List.mem_append_right _ (List.mem_append_right _ (List.mem_append_left _ h)))))))))))))
theorem pk_t14 : ∀ w ∈ tables_1_14, w ∈ lw_tbl := fun w h => List.mem_append_right _ (List.mem_append_right _ (List.mem_append_right _ (List.mem_append_right _ (List.mem_append_right _ (List.mem_append_right _ (List.mem_append_right _ (List.mem_append_right _ (List.mem_append_right _ (List.mem_append_right _ (List.mem_append_right _ (List.mem_append_right _ (List.mem_append_right _ (List.mem_append_right _ (List.mem_append_left _ h))))))))))))))
theorem pk_t15 : ∀ w ∈ tables_1_15, w ∈ lw_tbl := fun w h => List.mem_append_right _ (List.mem_append_right _ (List.mem_append_right _ (List.mem_append_right _ (List.mem_append_right _ (List.mem_append_right _ (List.mem_append_right _ (List.mem_append_right _ (List.mem_append_right _ (List.mem_append_right _ (List.mem_append_right _ (List.mem_append_right _ (List.mem_append_right _ (List.mem_append_right _ (List.mem_append_right _ (h)))))))))))))))
set_option maxRecDepth 100000 in
theorem gw0 : Cond.code yX0_forget cX0_forget 1 none ∈ lw_tbl := pk_t7 _ (List.mem_of_getElem? (i := 144) rfl)
set_option maxRecDepth 100000 in
theorem gw1 : Cond.methodLink RX0 75 yX0_forget ∈ lw_tbl := pk_t7 _ (List.mem_of_getElem? (i := 157) rfl)
set_option maxRecDepth 100000 in
theorem gw2 : Cond.instanceMethod yX0_forget ∈ lw_tbl := pk_t7 _ (List.mem_of_getElem? (i := 142) rfl)
set_option maxRecDepth 100000 in
theorem gw3 : Cond.selects "TongueHouse$Chart" yX0_forget yX0_forget ∈ lw_tbl := pk_t7 _ (List.mem_of_getElem? (i := 143) rfl)
set_option maxRecDepth 100000 in
theorem gw4 : Cond.initialized "TongueHouse$Chart" ∈ lw_tbl := pk_t1 _ (List.mem_of_getElem? (i := 6) rfl)
set_option maxRecDepth 100000 in
theorem gw5 : Cond.code yX0_orderLins cX0_orderLins 4 none ∈ lw_tbl := pk_t7 _ (List.mem_of_getElem? (i := 161) rfl)
set_option maxRecDepth 100000 in
theorem gw6 : Cond.methodLink RX0 78 yX0_orderLins ∈ lw_tbl := pk_t7 _ (List.mem_of_getElem? (i := 158) rfl)
set_option maxRecDepth 100000 in
theorem gw7 : Cond.instanceMethod yX0_orderLins ∈ lw_tbl := pk_t7 _ (List.mem_of_getElem? (i := 160) rfl)
set_option maxRecDepth 100000 in
theorem gw8 : Cond.selects "TongueHouse$Chart" yX0_orderLins yX0_orderLins ∈ lw_tbl := List.mem_append_left _ (List.mem_of_getElem? (i := 66) (by decide +kernel))
set_option maxRecDepth 100000 in
theorem gw9 : Cond.code yX2_findSame cX2_findSame 7 (some .int) ∈ lw_tbl := pk_t7 _ (List.mem_of_getElem? (i := 56) rfl)
set_option maxRecDepth 100000 in
theorem gw10 : Cond.methodLink RX0 102 yX2_findSame ∈ lw_tbl := pk_t7 _ (List.mem_of_getElem? (i := 162) rfl)
set_option maxRecDepth 100000 in
theorem gw11 : Cond.instanceMethod yX2_findSame ∈ lw_tbl := pk_t7 _ (List.mem_of_getElem? (i := 54) rfl)
set_option maxRecDepth 100000 in
theorem gw12 : Cond.selects "TongueHouse$Forms" yX2_findSame yX2_findSame ∈ lw_tbl := pk_t7 _ (List.mem_of_getElem? (i := 55) rfl)
set_option maxRecDepth 100000 in
theorem gw13 : Cond.initialized "TongueHouse$Forms" ∈ lw_tbl := pk_t1 _ (List.mem_of_getElem? (i := 23) rfl)
set_option maxRecDepth 100000 in
theorem gw14 : Cond.code yX0_fillSpan cX0_fillSpan 7 none ∈ lw_tbl := pk_t7 _ (List.mem_of_getElem? (i := 166) rfl)
set_option maxRecDepth 100000 in
theorem gw15 : Cond.methodLink RX0 119 yX0_fillSpan ∈ lw_tbl := pk_t7 _ (List.mem_of_getElem? (i := 163) rfl)
set_option maxRecDepth 100000 in
theorem gw16 : Cond.instanceMethod yX0_fillSpan ∈ lw_tbl := pk_t7 _ (List.mem_of_getElem? (i := 165) rfl)
set_option maxRecDepth 100000 in
theorem gw17 : Cond.selects "TongueHouse$Chart" yX0_fillSpan yX0_fillSpan ∈ lw_tbl := List.mem_append_left _ (List.mem_of_getElem? (i := 67) (by decide +kernel))
set_option maxRecDepth 100000 in
theorem gw18 : Cond.code yX0_layForms cX0_layForms 5 none ∈ lw_tbl := pk_t7 _ (List.mem_of_getElem? (i := 170) rfl)
set_option maxRecDepth 100000 in
theorem gw19 : Cond.methodLink RX0 151 yX0_layForms ∈ lw_tbl := pk_t7 _ (List.mem_of_getElem? (i := 167) rfl)
set_option maxRecDepth 100000 in
theorem gw20 : Cond.instanceMethod yX0_layForms ∈ lw_tbl := pk_t7 _ (List.mem_of_getElem? (i := 169) rfl)
set_option maxRecDepth 100000 in
theorem gw21 : Cond.selects "TongueHouse$Chart" yX0_layForms yX0_layForms ∈ lw_tbl := List.mem_append_left _ (List.mem_of_getElem? (i := 68) (by decide +kernel))
set_option maxRecDepth 100000 in
theorem gw22 : Cond.code yX0_lay cX0_lay 11 none ∈ lw_tbl := pk_t7 _ (List.mem_of_getElem? (i := 181) rfl)
set_option maxRecDepth 100000 in
theorem gw23 : Cond.methodLink RX0 156 yX0_lay ∈ lw_tbl := pk_t7 _ (List.mem_of_getElem? (i := 178) rfl)
set_option maxRecDepth 100000 in
theorem gw24 : Cond.instanceMethod yX0_lay ∈ lw_tbl := pk_t7 _ (List.mem_of_getElem? (i := 180) rfl)
set_option maxRecDepth 100000 in
theorem gw25 : Cond.selects "TongueHouse$Chart" yX0_lay yX0_lay ∈ lw_tbl := List.mem_append_left _ (List.mem_of_getElem? (i := 70) (by decide +kernel))
set_option maxRecDepth 100000 in
theorem gw26 : Cond.code yX11_wordFun cX11_wordFun 2 (some .int) ∈ lw_tbl := pk_t6 _ (List.mem_of_getElem? (i := 17) rfl)
set_option maxRecDepth 100000 in
theorem gw27 : Cond.methodLink RX0 163 yX11_wordFun ∈ lw_tbl := pk_t7 _ (List.mem_of_getElem? (i := 171) rfl)
set_option maxRecDepth 100000 in
theorem gw28 : Cond.instanceMethod yX11_wordFun ∈ lw_tbl := pk_t6 _ (List.mem_of_getElem? (i := 15) rfl)
set_option maxRecDepth 100000 in
theorem gw29 : Cond.selects "TongueHouse$Tongue" yX11_wordFun yX11_wordFun ∈ lw_tbl := pk_t6 _ (List.mem_of_getElem? (i := 16) rfl)
set_option maxRecDepth 100000 in
theorem gw30 : Cond.initialized "TongueHouse$Tongue" ∈ lw_tbl := pk_t1 _ (List.mem_of_getElem? (i := 22) rfl)
set_option maxRecDepth 100000 in
theorem gw31 : Cond.code yX11_formValues cX11_formValues 6 (some .int) ∈ lw_tbl := pk_t7 _ (List.mem_of_getElem? (i := 78) rfl)
set_option maxRecDepth 100000 in
theorem gw32 : Cond.methodLink RX0 167 yX11_formValues ∈ lw_tbl := pk_t7 _ (List.mem_of_getElem? (i := 172) rfl)
set_option maxRecDepth 100000 in
theorem gw33 : Cond.instanceMethod yX11_formValues ∈ lw_tbl := pk_t7 _ (List.mem_of_getElem? (i := 76) rfl)
set_option maxRecDepth 100000 in
theorem gw34 : Cond.selects "TongueHouse$Tongue" yX11_formValues yX11_formValues ∈ lw_tbl := pk_t7 _ (List.mem_of_getElem? (i := 77) rfl)
set_option maxRecDepth 100000 in
theorem gw35 : Cond.code yX0_putWay cX0_putWay 5 none ∈ lw_tbl := pk_t7 _ (List.mem_of_getElem? (i := 176) rfl)
set_option maxRecDepth 100000 in
theorem gw36 : Cond.methodLink RX0 170 yX0_putWay ∈ lw_tbl := pk_t7 _ (List.mem_of_getElem? (i := 173) rfl)
set_option maxRecDepth 100000 in
theorem gw37 : Cond.instanceMethod yX0_putWay ∈ lw_tbl := pk_t7 _ (List.mem_of_getElem? (i := 175) rfl)
set_option maxRecDepth 100000 in
theorem gw38 : Cond.selects "TongueHouse$Chart" yX0_putWay yX0_putWay ∈ lw_tbl := List.mem_append_left _ (List.mem_of_getElem? (i := 69) (by decide +kernel))
set_option maxRecDepth 100000 in
theorem gw39 : Cond.code yX3_unite cX3_unite 9 (some .int) ∈ lw_tbl := pk_t7 _ (List.mem_of_getElem? (i := 185) rfl)
set_option maxRecDepth 100000 in
theorem gw40 : Cond.methodLink RX0 174 yX3_unite ∈ lw_tbl := pk_t7 _ (List.mem_of_getElem? (i := 182) rfl)
set_option maxRecDepth 100000 in
theorem gw41 : Cond.instanceMethod yX3_unite ∈ lw_tbl := pk_t7 _ (List.mem_of_getElem? (i := 183) rfl)
set_option maxRecDepth 100000 in
theorem gw42 : Cond.selects "TongueHouse$Lin" yX3_unite yX3_unite ∈ lw_tbl := pk_t7 _ (List.mem_of_getElem? (i := 184) rfl)
set_option maxRecDepth 100000 in
theorem gw43 : Cond.initialized "TongueHouse$Lin" ∈ lw_tbl := pk_t1 _ (List.mem_of_getElem? (i := 26) rfl)
set_option maxRecDepth 100000 in
theorem gw44 : Cond.code yX0_isAt cX0_isAt 5 (some .boolean) ∈ lw_tbl := pk_t7 _ (List.mem_of_getElem? (i := 189) rfl)
set_option maxRecDepth 100000 in
theorem gw45 : Cond.methodLink RX0 190 yX0_isAt ∈ lw_tbl := pk_t7 _ (List.mem_of_getElem? (i := 186) rfl)
set_option maxRecDepth 100000 in
theorem gw46 : Cond.instanceMethod yX0_isAt ∈ lw_tbl := pk_t7 _ (List.mem_of_getElem? (i := 188) rfl)
set_option maxRecDepth 100000 in
theorem gw47 : Cond.selects "TongueHouse$Chart" yX0_isAt yX0_isAt ∈ lw_tbl := List.mem_append_left _ (List.mem_of_getElem? (i := 71) (by decide +kernel))
set_option maxRecDepth 100000 in
theorem gw48 : Cond.code yX0_spanAt cX0_spanAt 3 (some .int) ∈ lw_tbl := pk_t7 _ (List.mem_of_getElem? (i := 192) rfl)
set_option maxRecDepth 100000 in
theorem gw49 : Cond.methodLink RX0 123 yX0_spanAt ∈ lw_tbl := pk_t7 _ (List.mem_of_getElem? (i := 190) rfl)
set_option maxRecDepth 100000 in
theorem gw50 : Cond.static yX0_spanAt ∈ lw_tbl := pk_t7 _ (List.mem_of_getElem? (i := 191) rfl)
set_option maxRecDepth 100000 in
theorem gw51 : Cond.code yX3_fit cX3_fit 5 (some .int) ∈ lw_tbl := pk_t7 _ (List.mem_of_getElem? (i := 196) rfl)
set_option maxRecDepth 100000 in
theorem gw52 : Cond.methodLink RX0 201 yX3_fit ∈ lw_tbl := pk_t7 _ (List.mem_of_getElem? (i := 194) rfl)
set_option maxRecDepth 100000 in
theorem gw53 : Cond.static yX3_fit ∈ lw_tbl := pk_t7 _ (List.mem_of_getElem? (i := 195) rfl)
set_option maxRecDepth 100000 in
theorem gw54 : Cond.code yX9_isWord cX9_isWord 2 (some .boolean) ∈ lw_tbl := pk_t6 _ (List.mem_of_getElem? (i := 235) rfl)
set_option maxRecDepth 100000 in
theorem gw55 : Cond.methodLink RX1 57 yX9_isWord ∈ lw_tbl := pk_t7 _ (List.mem_of_getElem? (i := 52) rfl)
set_option maxRecDepth 100000 in
theorem gw56 : Cond.instanceMethod yX9_isWord ∈ lw_tbl := pk_t6 _ (List.mem_of_getElem? (i := 233) rfl)
set_option maxRecDepth 100000 in
theorem gw57 : Cond.selects "TongueHouse$Text" yX9_isWord yX9_isWord ∈ lw_tbl := pk_t6 _ (List.mem_of_getElem? (i := 234) rfl)
set_option maxRecDepth 100000 in
theorem gw58 : Cond.initialized "TongueHouse$Text" ∈ lw_tbl := pk_t1 _ (List.mem_of_getElem? (i := 4) rfl)
set_option maxRecDepth 100000 in
theorem gw59 : Cond.methodLink RX1 76 yX2_findSame ∈ lw_tbl := pk_t7 _ (List.mem_of_getElem? (i := 53) rfl)
set_option maxRecDepth 100000 in
theorem gw60 : Cond.methodLink RX1 97 yX11_wordFun ∈ lw_tbl := pk_t7 _ (List.mem_of_getElem? (i := 73) rfl)
set_option maxRecDepth 100000 in
theorem gw61 : Cond.code yX11_wordCost cX11_wordCost 2 (some .int) ∈ lw_tbl := pk_t6 _ (List.mem_of_getElem? (i := 71) rfl)
set_option maxRecDepth 100000 in
theorem gw62 : Cond.methodLink RX1 101 yX11_wordCost ∈ lw_tbl := pk_t7 _ (List.mem_of_getElem? (i := 74) rfl)
set_option maxRecDepth 100000 in
theorem gw63 : Cond.instanceMethod yX11_wordCost ∈ lw_tbl := pk_t6 _ (List.mem_of_getElem? (i := 69) rfl)
set_option maxRecDepth 100000 in
theorem gw64 : Cond.selects "TongueHouse$Tongue" yX11_wordCost yX11_wordCost ∈ lw_tbl := pk_t6 _ (List.mem_of_getElem? (i := 70) rfl)
set_option maxRecDepth 100000 in
theorem gw65 : Cond.methodLink RX1 107 yX11_formValues ∈ lw_tbl := pk_t7 _ (List.mem_of_getElem? (i := 75) rfl)
set_option maxRecDepth 100000 in
theorem gw66 : Cond.code yX1_countEndings cX1_countEndings 6 none ∈ lw_tbl := pk_t7 _ (List.mem_of_getElem? (i := 105) rfl)
set_option maxRecDepth 100000 in
theorem gw67 : Cond.methodLink RX1 128 yX1_countEndings ∈ lw_tbl := pk_t7 _ (List.mem_of_getElem? (i := 102) rfl)
set_option maxRecDepth 100000 in
theorem gw68 : Cond.instanceMethod yX1_countEndings ∈ lw_tbl := pk_t7 _ (List.mem_of_getElem? (i := 104) rfl)
set_option maxRecDepth 100000 in
theorem gw69 : Cond.selects "TongueHouse$Finder" yX1_countEndings yX1_countEndings ∈ lw_tbl := List.mem_append_left _ (List.mem_of_getElem? (i := 63) (by decide +kernel))
set_option maxRecDepth 100000 in
theorem gw70 : Cond.initialized "TongueHouse$Finder" ∈ lw_tbl := pk_t1 _ (List.mem_of_getElem? (i := 10) rfl)
set_option maxRecDepth 100000 in
theorem gw71 : Cond.code yX11_cellsOf cX11_cellsOf 2 (some .int) ∈ lw_tbl := pk_t7 _ (List.mem_of_getElem? (i := 35) rfl)
set_option maxRecDepth 100000 in
theorem gw72 : Cond.methodLink RX1 148 yX11_cellsOf ∈ lw_tbl := pk_t7 _ (List.mem_of_getElem? (i := 107) rfl)
set_option maxRecDepth 100000 in
theorem gw73 : Cond.instanceMethod yX11_cellsOf ∈ lw_tbl := pk_t7 _ (List.mem_of_getElem? (i := 33) rfl)
set_option maxRecDepth 100000 in
theorem gw74 : Cond.selects "TongueHouse$Tongue" yX11_cellsOf yX11_cellsOf ∈ lw_tbl := pk_t7 _ (List.mem_of_getElem? (i := 34) rfl)
set_option maxRecDepth 100000 in
theorem gw75 : Cond.code yX2_endsWith cX2_endsWith 7 (some .boolean) ∈ lw_tbl := pk_t7 _ (List.mem_of_getElem? (i := 60) rfl)
set_option maxRecDepth 100000 in
theorem gw76 : Cond.methodLink RX1 151 yX2_endsWith ∈ lw_tbl := pk_t7 _ (List.mem_of_getElem? (i := 108) rfl)
set_option maxRecDepth 100000 in
theorem gw77 : Cond.instanceMethod yX2_endsWith ∈ lw_tbl := pk_t7 _ (List.mem_of_getElem? (i := 58) rfl)
set_option maxRecDepth 100000 in
theorem gw78 : Cond.selects "TongueHouse$Forms" yX2_endsWith yX2_endsWith ∈ lw_tbl := pk_t7 _ (List.mem_of_getElem? (i := 59) rfl)
set_option maxRecDepth 100000 in
theorem gw79 : Cond.code yX11_wordPattern cX11_wordPattern 2 (some .int) ∈ lw_tbl := pk_t7 _ (List.mem_of_getElem? (i := 39) rfl)
set_option maxRecDepth 100000 in
theorem gw80 : Cond.methodLink RX1 155 yX11_wordPattern ∈ lw_tbl := pk_t7 _ (List.mem_of_getElem? (i := 109) rfl)
set_option maxRecDepth 100000 in
theorem gw81 : Cond.instanceMethod yX11_wordPattern ∈ lw_tbl := pk_t7 _ (List.mem_of_getElem? (i := 37) rfl)
set_option maxRecDepth 100000 in
theorem gw82 : Cond.selects "TongueHouse$Tongue" yX11_wordPattern yX11_wordPattern ∈ lw_tbl := pk_t7 _ (List.mem_of_getElem? (i := 38) rfl)
set_option maxRecDepth 100000 in
theorem gw83 : Cond.code yX1_readQuestion cX1_readQuestion 5 (some .boolean) ∈ lw_tbl := pk_t9 _ (List.mem_of_getElem? (i := 0) rfl)
set_option maxRecDepth 100000 in
theorem gw84 : Cond.methodLink RX1 168 yX1_readQuestion ∈ lw_tbl := pk_t8 _ (List.mem_of_getElem? (i := 237) rfl)
set_option maxRecDepth 100000 in
theorem gw85 : Cond.instanceMethod yX1_readQuestion ∈ lw_tbl := pk_t8 _ (List.mem_of_getElem? (i := 239) rfl)
set_option maxRecDepth 100000 in
theorem gw86 : Cond.selects "TongueHouse$Finder" yX1_readQuestion yX1_readQuestion ∈ lw_tbl := List.mem_append_left _ (List.mem_of_getElem? (i := 93) (by decide +kernel))
set_option maxRecDepth 100000 in
theorem gw87 : Cond.code yX9_putBytes cX9_putBytes 5 none ∈ lw_tbl := pk_t6 _ (List.mem_of_getElem? (i := 95) rfl)
set_option maxRecDepth 100000 in
theorem gw88 : Cond.methodLink RX1 172 yX9_putBytes ∈ lw_tbl := pk_t9 _ (List.mem_of_getElem? (i := 5) rfl)
set_option maxRecDepth 100000 in
theorem gw89 : Cond.instanceMethod yX9_putBytes ∈ lw_tbl := pk_t6 _ (List.mem_of_getElem? (i := 93) rfl)
set_option maxRecDepth 100000 in
theorem gw90 : Cond.selects "TongueHouse$Text" yX9_putBytes yX9_putBytes ∈ lw_tbl := pk_t6 _ (List.mem_of_getElem? (i := 94) rfl)
set_option maxRecDepth 100000 in
theorem gw91 : Cond.code yX9_split cX9_split 4 (some .boolean) ∈ lw_tbl := pk_t7 _ (List.mem_of_getElem? (i := 148) rfl)
set_option maxRecDepth 100000 in
theorem gw92 : Cond.methodLink RX1 176 yX9_split ∈ lw_tbl := pk_t9 _ (List.mem_of_getElem? (i := 6) rfl)
set_option maxRecDepth 100000 in
theorem gw93 : Cond.instanceMethod yX9_split ∈ lw_tbl := pk_t7 _ (List.mem_of_getElem? (i := 146) rfl)
set_option maxRecDepth 100000 in
theorem gw94 : Cond.selects "TongueHouse$Text" yX9_split yX9_split ∈ lw_tbl := pk_t7 _ (List.mem_of_getElem? (i := 147) rfl)
set_option maxRecDepth 100000 in
theorem gw95 : Cond.code yX1_searchWords cX1_searchWords 7 none ∈ lw_tbl := pk_t9 _ (List.mem_of_getElem? (i := 10) rfl)
set_option maxRecDepth 100000 in
theorem gw96 : Cond.methodLink RX1 179 yX1_searchWords ∈ lw_tbl := pk_t9 _ (List.mem_of_getElem? (i := 7) rfl)
set_option maxRecDepth 100000 in
theorem gw97 : Cond.instanceMethod yX1_searchWords ∈ lw_tbl := pk_t9 _ (List.mem_of_getElem? (i := 9) rfl)
set_option maxRecDepth 100000 in
theorem gw98 : Cond.selects "TongueHouse$Finder" yX1_searchWords yX1_searchWords ∈ lw_tbl := List.mem_append_left _ (List.mem_of_getElem? (i := 94) (by decide +kernel))
set_option maxRecDepth 100000 in
theorem gw99 : Cond.code yX9_rewind cX9_rewind 1 none ∈ lw_tbl := pk_t3 _ (List.mem_of_getElem? (i := 229) rfl)
set_option maxRecDepth 100000 in
theorem gw100 : Cond.methodLink RX1 186 yX9_rewind ∈ lw_tbl := pk_t9 _ (List.mem_of_getElem? (i := 1) rfl)
set_option maxRecDepth 100000 in
theorem gw101 : Cond.instanceMethod yX9_rewind ∈ lw_tbl := pk_t3 _ (List.mem_of_getElem? (i := 227) rfl)
set_option maxRecDepth 100000 in
theorem gw102 : Cond.selects "TongueHouse$Text" yX9_rewind yX9_rewind ∈ lw_tbl := pk_t3 _ (List.mem_of_getElem? (i := 228) rfl)
set_option maxRecDepth 100000 in
theorem gw103 : Cond.code yX4_find cX4_find 4 (some .int) ∈ lw_tbl := pk_t4 _ (List.mem_of_getElem? (i := 33) rfl)
set_option maxRecDepth 100000 in
theorem gw104 : Cond.methodLink RX1 199 yX4_find ∈ lw_tbl := pk_t9 _ (List.mem_of_getElem? (i := 2) rfl)
set_option maxRecDepth 100000 in
theorem gw105 : Cond.instanceMethod yX4_find ∈ lw_tbl := pk_t4 _ (List.mem_of_getElem? (i := 31) rfl)
set_option maxRecDepth 100000 in
theorem gw106 : Cond.selects "TongueHouse$Names" yX4_find yX4_find ∈ lw_tbl := pk_t4 _ (List.mem_of_getElem? (i := 32) rfl)
set_option maxRecDepth 100000 in
theorem gw107 : Cond.initialized "TongueHouse$Names" ∈ lw_tbl := pk_t1 _ (List.mem_of_getElem? (i := 3) rfl)
set_option maxRecDepth 100000 in
theorem gw108 : Cond.code yX9_lettersSize cX9_lettersSize 1 (some .int) ∈ lw_tbl := pk_t5 _ (List.mem_of_getElem? (i := 36) rfl)
set_option maxRecDepth 100000 in
theorem gw109 : Cond.methodLink RX1 206 yX9_lettersSize ∈ lw_tbl := pk_t9 _ (List.mem_of_getElem? (i := 3) rfl)
set_option maxRecDepth 100000 in
theorem gw110 : Cond.instanceMethod yX9_lettersSize ∈ lw_tbl := pk_t5 _ (List.mem_of_getElem? (i := 34) rfl)
set_option maxRecDepth 100000 in
theorem gw111 : Cond.selects "TongueHouse$Text" yX9_lettersSize yX9_lettersSize ∈ lw_tbl := pk_t5 _ (List.mem_of_getElem? (i := 35) rfl)
set_option maxRecDepth 100000 in
theorem gw112 : Cond.code yX9_advance cX9_advance 3 none ∈ lw_tbl := pk_t3 _ (List.mem_of_getElem? (i := 233) rfl)
set_option maxRecDepth 100000 in
theorem gw113 : Cond.methodLink RX1 210 yX9_advance ∈ lw_tbl := pk_t9 _ (List.mem_of_getElem? (i := 4) rfl)
set_option maxRecDepth 100000 in
theorem gw114 : Cond.instanceMethod yX9_advance ∈ lw_tbl := pk_t3 _ (List.mem_of_getElem? (i := 231) rfl)
set_option maxRecDepth 100000 in
theorem gw115 : Cond.selects "TongueHouse$Text" yX9_advance yX9_advance ∈ lw_tbl := pk_t3 _ (List.mem_of_getElem? (i := 232) rfl)
set_option maxRecDepth 100000 in
theorem gw116 : Cond.code yX1_kindsOf cX1_kindsOf 6 (some .int) ∈ lw_tbl := pk_t9 _ (List.mem_of_getElem? (i := 14) rfl)
set_option maxRecDepth 100000 in
theorem gw117 : Cond.methodLink RX1 215 yX1_kindsOf ∈ lw_tbl := pk_t9 _ (List.mem_of_getElem? (i := 11) rfl)
set_option maxRecDepth 100000 in
theorem gw118 : Cond.instanceMethod yX1_kindsOf ∈ lw_tbl := pk_t9 _ (List.mem_of_getElem? (i := 13) rfl)
set_option maxRecDepth 100000 in
theorem gw119 : Cond.selects "TongueHouse$Finder" yX1_kindsOf yX1_kindsOf ∈ lw_tbl := List.mem_append_left _ (List.mem_of_getElem? (i := 95) (by decide +kernel))
set_option maxRecDepth 100000 in
theorem gw120 : Cond.code yX1_fitsAt cX1_fitsAt 7 (some .boolean) ∈ lw_tbl := pk_t9 _ (List.mem_of_getElem? (i := 18) rfl)
set_option maxRecDepth 100000 in
theorem gw121 : Cond.methodLink RX1 219 yX1_fitsAt ∈ lw_tbl := pk_t9 _ (List.mem_of_getElem? (i := 15) rfl)
set_option maxRecDepth 100000 in
theorem gw122 : Cond.instanceMethod yX1_fitsAt ∈ lw_tbl := pk_t9 _ (List.mem_of_getElem? (i := 17) rfl)
set_option maxRecDepth 100000 in
theorem gw123 : Cond.selects "TongueHouse$Finder" yX1_fitsAt yX1_fitsAt ∈ lw_tbl := List.mem_append_left _ (List.mem_of_getElem? (i := 96) (by decide +kernel))
set_option maxRecDepth 100000 in
theorem gw124 : Cond.code yX11_shiftOf cX11_shiftOf 1 (some .int) ∈ lw_tbl := pk_t5 _ (List.mem_of_getElem? (i := 77) rfl)
set_option maxRecDepth 100000 in
theorem gw125 : Cond.methodLink RX1 110 yX11_shiftOf ∈ lw_tbl := pk_t7 _ (List.mem_of_getElem? (i := 79) rfl)
set_option maxRecDepth 100000 in
theorem gw126 : Cond.static yX11_shiftOf ∈ lw_tbl := pk_t5 _ (List.mem_of_getElem? (i := 76) rfl)
set_option maxRecDepth 100000 in
theorem gw127 : Cond.code yJ9_min_7cf53 cJ9_min_7cf53 2 (some .int) ∈ lw_tbl := pk_t6 _ (List.mem_of_getElem? (i := 51) rfl)
set_option maxRecDepth 100000 in
theorem gw128 : Cond.methodLink RX1 119 yJ9_min_7cf53 ∈ lw_tbl := pk_t7 _ (List.mem_of_getElem? (i := 101) rfl)
set_option maxRecDepth 100000 in
theorem gw129 : Cond.static yJ9_min_7cf53 ∈ lw_tbl := pk_t6 _ (List.mem_of_getElem? (i := 50) rfl)
set_option maxRecDepth 100000 in
theorem gw130 : Cond.initialized "java/lang/Math" ∈ lw_tbl := pk_t1 _ (List.mem_of_getElem? (i := 25) rfl)
set_option maxRecDepth 100000 in
theorem gw131 : Cond.code yJ7_fill_53178 cJ7_fill_53178 4 none ∈ lw_tbl := pk_t4 _ (List.mem_of_getElem? (i := 68) rfl)
set_option maxRecDepth 100000 in
theorem gw132 : Cond.methodLink RX1 139 yJ7_fill_53178 ∈ lw_tbl := pk_t7 _ (List.mem_of_getElem? (i := 106) rfl)
set_option maxRecDepth 100000 in
theorem gw133 : Cond.static yJ7_fill_53178 ∈ lw_tbl := pk_t4 _ (List.mem_of_getElem? (i := 67) rfl)
set_option maxRecDepth 100000 in
theorem gw134 : Cond.initialized "java/util/Arrays" ∈ lw_tbl := pk_t1 _ (List.mem_of_getElem? (i := 24) rfl)
set_option maxRecDepth 100000 in
theorem gw135 : Cond.methodLink RX2 59 yX11_cellsOf ∈ lw_tbl := pk_t7 _ (List.mem_of_getElem? (i := 32) rfl)
set_option maxRecDepth 100000 in
theorem gw136 : Cond.code yX2_join cX2_join 13 (some .int) ∈ lw_tbl := pk_t7 _ (List.mem_of_getElem? (i := 43) rfl)
set_option maxRecDepth 100000 in
theorem gw137 : Cond.methodLink RX2 63 yX2_join ∈ lw_tbl := pk_t7 _ (List.mem_of_getElem? (i := 40) rfl)
set_option maxRecDepth 100000 in
theorem gw138 : Cond.instanceMethod yX2_join ∈ lw_tbl := pk_t7 _ (List.mem_of_getElem? (i := 42) rfl)
set_option maxRecDepth 100000 in
theorem gw139 : Cond.selects "TongueHouse$Forms" yX2_join yX2_join ∈ lw_tbl := List.mem_append_left _ (List.mem_of_getElem? (i := 62) (by decide +kernel))
set_option maxRecDepth 100000 in
theorem gw140 : Cond.code yX2_soundAll cX2_soundAll 6 (some .int) ∈ lw_tbl := pk_t7 _ (List.mem_of_getElem? (i := 4) rfl)
set_option maxRecDepth 100000 in
theorem gw141 : Cond.methodLink RX2 67 yX2_soundAll ∈ lw_tbl := pk_t7 _ (List.mem_of_getElem? (i := 1) rfl)
set_option maxRecDepth 100000 in
theorem gw142 : Cond.instanceMethod yX2_soundAll ∈ lw_tbl := pk_t7 _ (List.mem_of_getElem? (i := 3) rfl)
set_option maxRecDepth 100000 in
theorem gw143 : Cond.selects "TongueHouse$Forms" yX2_soundAll yX2_soundAll ∈ lw_tbl := List.mem_append_left _ (List.mem_of_getElem? (i := 57) (by decide +kernel))
set_option maxRecDepth 100000 in
theorem gw144 : Cond.methodLink RX2 81 yX2_endsWith ∈ lw_tbl := pk_t7 _ (List.mem_of_getElem? (i := 57) rfl)
set_option maxRecDepth 100000 in
theorem gw145 : Cond.methodLink RX2 85 yX11_wordPattern ∈ lw_tbl := pk_t7 _ (List.mem_of_getElem? (i := 44) rfl)
set_option maxRecDepth 100000 in
theorem gw146 : Cond.code yX2_soundOnce cX2_soundOnce 9 (some .int) ∈ lw_tbl := pk_t7 _ (List.mem_of_getElem? (i := 8) rfl)
set_option maxRecDepth 100000 in
theorem gw147 : Cond.methodLink RX2 101 yX2_soundOnce ∈ lw_tbl := pk_t7 _ (List.mem_of_getElem? (i := 5) rfl)
set_option maxRecDepth 100000 in
theorem gw148 : Cond.instanceMethod yX2_soundOnce ∈ lw_tbl := pk_t7 _ (List.mem_of_getElem? (i := 7) rfl)
set_option maxRecDepth 100000 in
theorem gw149 : Cond.selects "TongueHouse$Forms" yX2_soundOnce yX2_soundOnce ∈ lw_tbl := List.mem_append_left _ (List.mem_of_getElem? (i := 58) (by decide +kernel))
set_option maxRecDepth 100000 in
theorem gw150 : Cond.code yX2_fitsAt cX2_fitsAt 8 (some .int) ∈ lw_tbl := pk_t7 _ (List.mem_of_getElem? (i := 12) rfl)
set_option maxRecDepth 100000 in
theorem gw151 : Cond.methodLink RX2 107 yX2_fitsAt ∈ lw_tbl := pk_t7 _ (List.mem_of_getElem? (i := 9) rfl)
set_option maxRecDepth 100000 in
theorem gw152 : Cond.instanceMethod yX2_fitsAt ∈ lw_tbl := pk_t7 _ (List.mem_of_getElem? (i := 11) rfl)
set_option maxRecDepth 100000 in
theorem gw153 : Cond.selects "TongueHouse$Forms" yX2_fitsAt yX2_fitsAt ∈ lw_tbl := List.mem_append_left _ (List.mem_of_getElem? (i := 59) (by decide +kernel))
set_option maxRecDepth 100000 in
theorem gw154 : Cond.code yX2_leftFits cX2_leftFits 8 (some .boolean) ∈ lw_tbl := pk_t7 _ (List.mem_of_getElem? (i := 16) rfl)
set_option maxRecDepth 100000 in
theorem gw155 : Cond.methodLink RX2 111 yX2_leftFits ∈ lw_tbl := pk_t7 _ (List.mem_of_getElem? (i := 13) rfl)
set_option maxRecDepth 100000 in
theorem gw156 : Cond.instanceMethod yX2_leftFits ∈ lw_tbl := pk_t7 _ (List.mem_of_getElem? (i := 15) rfl)
set_option maxRecDepth 100000 in
theorem gw157 : Cond.selects "TongueHouse$Forms" yX2_leftFits yX2_leftFits ∈ lw_tbl := List.mem_append_left _ (List.mem_of_getElem? (i := 60) (by decide +kernel))
set_option maxRecDepth 100000 in
theorem gw158 : Cond.code yX2_rightFits cX2_rightFits 7 (some .boolean) ∈ lw_tbl := pk_t7 _ (List.mem_of_getElem? (i := 20) rfl)
set_option maxRecDepth 100000 in
theorem gw159 : Cond.methodLink RX2 115 yX2_rightFits ∈ lw_tbl := pk_t7 _ (List.mem_of_getElem? (i := 17) rfl)
set_option maxRecDepth 100000 in
theorem gw160 : Cond.instanceMethod yX2_rightFits ∈ lw_tbl := pk_t7 _ (List.mem_of_getElem? (i := 19) rfl)
set_option maxRecDepth 100000 in
theorem gw161 : Cond.selects "TongueHouse$Forms" yX2_rightFits yX2_rightFits ∈ lw_tbl := List.mem_append_left _ (List.mem_of_getElem? (i := 61) (by decide +kernel))
set_option maxRecDepth 100000 in
theorem gw162 : Cond.code yX2_hash cX2_hash 5 (some .int) ∈ lw_tbl := pk_t7 _ (List.mem_of_getElem? (i := 47) rfl)
set_option maxRecDepth 100000 in
theorem gw163 : Cond.methodLink RX2 77 yX2_hash ∈ lw_tbl := pk_t7 _ (List.mem_of_getElem? (i := 45) rfl)
set_option maxRecDepth 100000 in
theorem gw164 : Cond.static yX2_hash ∈ lw_tbl := pk_t7 _ (List.mem_of_getElem? (i := 46) rfl)
set_option maxRecDepth 100000 in
theorem gw165 : Cond.methodLink RX2 38 yJ7_fill_53178 ∈ lw_tbl := pk_t4 _ (List.mem_of_getElem? (i := 66) rfl)
set_option maxRecDepth 100000 in
theorem gw166 : Cond.code yJ9_max_7cf53 cJ9_max_7cf53 2 (some .int) ∈ lw_tbl := pk_t5 _ (List.mem_of_getElem? (i := 88) rfl)
set_option maxRecDepth 100000 in
theorem gw167 : Cond.methodLink RX3 40 yJ9_max_7cf53 ∈ lw_tbl := pk_t8 _ (List.mem_of_getElem? (i := 72) rfl)
set_option maxRecDepth 100000 in
theorem gw168 : Cond.static yJ9_max_7cf53 ∈ lw_tbl := pk_t5 _ (List.mem_of_getElem? (i := 87) rfl)
set_option maxRecDepth 100000 in
theorem gw169 : Cond.methodLink RX5 79 yX11_wordFun ∈ lw_tbl := pk_t6 _ (List.mem_of_getElem? (i := 14) rfl)
set_option maxRecDepth 100000 in
theorem gw170 : Cond.methodLink RX5 97 yX11_wordCost ∈ lw_tbl := pk_t6 _ (List.mem_of_getElem? (i := 68) rfl)
set_option maxRecDepth 100000 in
theorem gw171 : Cond.code yX5_funOf cX5_funOf 3 (some .int) ∈ lw_tbl := pk_t6 _ (List.mem_of_getElem? (i := 13) rfl)
set_option maxRecDepth 100000 in
theorem gw172 : Cond.methodLink RX5 108 yX5_funOf ∈ lw_tbl := pk_t6 _ (List.mem_of_getElem? (i := 10) rfl)
set_option maxRecDepth 100000 in
theorem gw173 : Cond.instanceMethod yX5_funOf ∈ lw_tbl := pk_t6 _ (List.mem_of_getElem? (i := 12) rfl)
set_option maxRecDepth 100000 in
theorem gw174 : Cond.selects "TongueHouse$Ranking" yX5_funOf yX5_funOf ∈ lw_tbl := List.mem_append_left _ (List.mem_of_getElem? (i := 42) (by decide +kernel))
set_option maxRecDepth 100000 in
theorem gw175 : Cond.initialized "TongueHouse$Ranking" ∈ lw_tbl := pk_t1 _ (List.mem_of_getElem? (i := 7) rfl)
set_option maxRecDepth 100000 in
theorem gw176 : Cond.code yX5_slotsOf cX5_slotsOf 3 (some .int) ∈ lw_tbl := pk_t6 _ (List.mem_of_getElem? (i := 21) rfl)
set_option maxRecDepth 100000 in
theorem gw177 : Cond.methodLink RX5 117 yX5_slotsOf ∈ lw_tbl := pk_t6 _ (List.mem_of_getElem? (i := 18) rfl)
set_option maxRecDepth 100000 in
theorem gw178 : Cond.instanceMethod yX5_slotsOf ∈ lw_tbl := pk_t6 _ (List.mem_of_getElem? (i := 20) rfl)
set_option maxRecDepth 100000 in
theorem gw179 : Cond.selects "TongueHouse$Ranking" yX5_slotsOf yX5_slotsOf ∈ lw_tbl := List.mem_append_left _ (List.mem_of_getElem? (i := 43) (by decide +kernel))
set_option maxRecDepth 100000 in
theorem gw180 : Cond.code yX5_rank cX5_rank 4 none ∈ lw_tbl := pk_t6 _ (List.mem_of_getElem? (i := 40) rfl)
set_option maxRecDepth 100000 in
theorem gw181 : Cond.methodLink RX5 146 yX5_rank ∈ lw_tbl := pk_t6 _ (List.mem_of_getElem? (i := 37) rfl)
set_option maxRecDepth 100000 in
theorem gw182 : Cond.instanceMethod yX5_rank ∈ lw_tbl := pk_t6 _ (List.mem_of_getElem? (i := 39) rfl)
set_option maxRecDepth 100000 in
theorem gw183 : Cond.selects "TongueHouse$Ranking" yX5_rank yX5_rank ∈ lw_tbl := List.mem_append_left _ (List.mem_of_getElem? (i := 44) (by decide +kernel))
set_option maxRecDepth 100000 in
theorem gw184 : Cond.code yX5_reach cX5_reach 4 none ∈ lw_tbl := pk_t6 _ (List.mem_of_getElem? (i := 44) rfl)
set_option maxRecDepth 100000 in
theorem gw185 : Cond.methodLink RX5 152 yX5_reach ∈ lw_tbl := pk_t6 _ (List.mem_of_getElem? (i := 41) rfl)
set_option maxRecDepth 100000 in
theorem gw186 : Cond.instanceMethod yX5_reach ∈ lw_tbl := pk_t6 _ (List.mem_of_getElem? (i := 43) rfl)
set_option maxRecDepth 100000 in
theorem gw187 : Cond.selects "TongueHouse$Ranking" yX5_reach yX5_reach ∈ lw_tbl := List.mem_append_left _ (List.mem_of_getElem? (i := 45) (by decide +kernel))
set_option maxRecDepth 100000 in
theorem gw188 : Cond.code yX5_sortWays cX5_sortWays 3 none ∈ lw_tbl := pk_t6 _ (List.mem_of_getElem? (i := 48) rfl)
set_option maxRecDepth 100000 in
theorem gw189 : Cond.methodLink RX5 155 yX5_sortWays ∈ lw_tbl := pk_t6 _ (List.mem_of_getElem? (i := 45) rfl)
set_option maxRecDepth 100000 in
theorem gw190 : Cond.instanceMethod yX5_sortWays ∈ lw_tbl := pk_t6 _ (List.mem_of_getElem? (i := 47) rfl)
set_option maxRecDepth 100000 in
theorem gw191 : Cond.selects "TongueHouse$Ranking" yX5_sortWays yX5_sortWays ∈ lw_tbl := List.mem_append_left _ (List.mem_of_getElem? (i := 46) (by decide +kernel))
set_option maxRecDepth 100000 in
theorem gw192 : Cond.code yX5_ownPrice cX5_ownPrice 4 (some .int) ∈ lw_tbl := pk_t6 _ (List.mem_of_getElem? (i := 67) rfl)
set_option maxRecDepth 100000 in
theorem gw193 : Cond.methodLink RX5 161 yX5_ownPrice ∈ lw_tbl := pk_t6 _ (List.mem_of_getElem? (i := 64) rfl)
set_option maxRecDepth 100000 in
theorem gw194 : Cond.instanceMethod yX5_ownPrice ∈ lw_tbl := pk_t6 _ (List.mem_of_getElem? (i := 66) rfl)
set_option maxRecDepth 100000 in
theorem gw195 : Cond.selects "TongueHouse$Ranking" yX5_ownPrice yX5_ownPrice ∈ lw_tbl := List.mem_append_left _ (List.mem_of_getElem? (i := 50) (by decide +kernel))
set_option maxRecDepth 100000 in
theorem gw196 : Cond.code yX5_choose cX5_choose 9 none ∈ lw_tbl := pk_t6 _ (List.mem_of_getElem? (i := 75) rfl)
set_option maxRecDepth 100000 in
theorem gw197 : Cond.methodLink RX5 164 yX5_choose ∈ lw_tbl := pk_t6 _ (List.mem_of_getElem? (i := 72) rfl)
set_option maxRecDepth 100000 in
theorem gw198 : Cond.instanceMethod yX5_choose ∈ lw_tbl := pk_t6 _ (List.mem_of_getElem? (i := 74) rfl)
set_option maxRecDepth 100000 in
theorem gw199 : Cond.selects "TongueHouse$Ranking" yX5_choose yX5_choose ∈ lw_tbl := List.mem_append_left _ (List.mem_of_getElem? (i := 51) (by decide +kernel))
set_option maxRecDepth 100000 in
theorem gw200 : Cond.code yX5_putTop cX5_putTop 4 none ∈ lw_tbl := pk_t6 _ (List.mem_of_getElem? (i := 83) rfl)
set_option maxRecDepth 100000 in
theorem gw201 : Cond.methodLink RX5 168 yX5_putTop ∈ lw_tbl := pk_t6 _ (List.mem_of_getElem? (i := 80) rfl)
set_option maxRecDepth 100000 in
theorem gw202 : Cond.instanceMethod yX5_putTop ∈ lw_tbl := pk_t6 _ (List.mem_of_getElem? (i := 82) rfl)
set_option maxRecDepth 100000 in
theorem gw203 : Cond.selects "TongueHouse$Ranking" yX5_putTop yX5_putTop ∈ lw_tbl := List.mem_append_left _ (List.mem_of_getElem? (i := 53) (by decide +kernel))
set_option maxRecDepth 100000 in
theorem gw204 : Cond.code yX5_merge cX5_merge 8 none ∈ lw_tbl := pk_t6 _ (List.mem_of_getElem? (i := 55) rfl)
set_option maxRecDepth 100000 in
theorem gw205 : Cond.methodLink RX5 175 yX5_merge ∈ lw_tbl := pk_t6 _ (List.mem_of_getElem? (i := 52) rfl)
set_option maxRecDepth 100000 in
theorem gw206 : Cond.instanceMethod yX5_merge ∈ lw_tbl := pk_t6 _ (List.mem_of_getElem? (i := 54) rfl)
set_option maxRecDepth 100000 in
theorem gw207 : Cond.selects "TongueHouse$Ranking" yX5_merge yX5_merge ∈ lw_tbl := List.mem_append_left _ (List.mem_of_getElem? (i := 47) (by decide +kernel))
set_option maxRecDepth 100000 in
theorem gw208 : Cond.code yX5_compare cX5_compare 7 (some .int) ∈ lw_tbl := pk_t6 _ (List.mem_of_getElem? (i := 59) rfl)
set_option maxRecDepth 100000 in
theorem gw209 : Cond.methodLink RX5 179 yX5_compare ∈ lw_tbl := pk_t6 _ (List.mem_of_getElem? (i := 56) rfl)
set_option maxRecDepth 100000 in
theorem gw210 : Cond.instanceMethod yX5_compare ∈ lw_tbl := pk_t6 _ (List.mem_of_getElem? (i := 58) rfl)
set_option maxRecDepth 100000 in
theorem gw211 : Cond.selects "TongueHouse$Ranking" yX5_compare yX5_compare ∈ lw_tbl := List.mem_append_left _ (List.mem_of_getElem? (i := 48) (by decide +kernel))
set_option maxRecDepth 100000 in
theorem gw212 : Cond.code yX5_compareArguments cX5_compareArguments 6 (some .int) ∈ lw_tbl := pk_t6 _ (List.mem_of_getElem? (i := 63) rfl)
set_option maxRecDepth 100000 in
theorem gw213 : Cond.methodLink RX5 184 yX5_compareArguments ∈ lw_tbl := pk_t6 _ (List.mem_of_getElem? (i := 60) rfl)
set_option maxRecDepth 100000 in
theorem gw214 : Cond.instanceMethod yX5_compareArguments ∈ lw_tbl := pk_t6 _ (List.mem_of_getElem? (i := 62) rfl)
set_option maxRecDepth 100000 in
theorem gw215 : Cond.selects "TongueHouse$Ranking" yX5_compareArguments yX5_compareArguments ∈ lw_tbl := List.mem_append_left _ (List.mem_of_getElem? (i := 49) (by decide +kernel))
set_option maxRecDepth 100000 in
theorem gw216 : Cond.code yX5_putList cX5_putList 8 none ∈ lw_tbl := pk_t6 _ (List.mem_of_getElem? (i := 79) rfl)
set_option maxRecDepth 100000 in
theorem gw217 : Cond.methodLink RX5 194 yX5_putList ∈ lw_tbl := pk_t6 _ (List.mem_of_getElem? (i := 76) rfl)
set_option maxRecDepth 100000 in
theorem gw218 : Cond.instanceMethod yX5_putList ∈ lw_tbl := pk_t6 _ (List.mem_of_getElem? (i := 78) rfl)
set_option maxRecDepth 100000 in
theorem gw219 : Cond.selects "TongueHouse$Ranking" yX5_putList yX5_putList ∈ lw_tbl := List.mem_append_left _ (List.mem_of_getElem? (i := 52) (by decide +kernel))
set_option maxRecDepth 100000 in
theorem gw220 : Cond.code yX5_comesBefore cX5_comesBefore 3 (some .boolean) ∈ lw_tbl := pk_t6 _ (List.mem_of_getElem? (i := 87) rfl)
set_option maxRecDepth 100000 in
theorem gw221 : Cond.methodLink RX5 197 yX5_comesBefore ∈ lw_tbl := pk_t6 _ (List.mem_of_getElem? (i := 84) rfl)
set_option maxRecDepth 100000 in
theorem gw222 : Cond.instanceMethod yX5_comesBefore ∈ lw_tbl := pk_t6 _ (List.mem_of_getElem? (i := 86) rfl)
set_option maxRecDepth 100000 in
theorem gw223 : Cond.selects "TongueHouse$Ranking" yX5_comesBefore yX5_comesBefore ∈ lw_tbl := List.mem_append_left _ (List.mem_of_getElem? (i := 54) (by decide +kernel))
set_option maxRecDepth 100000 in
theorem gw224 : Cond.code yX5_times cX5_times 4 (some .long) ∈ lw_tbl := pk_t6 _ (List.mem_of_getElem? (i := 24) rfl)
set_option maxRecDepth 100000 in
theorem gw225 : Cond.methodLink RX5 123 yX5_times ∈ lw_tbl := pk_t6 _ (List.mem_of_getElem? (i := 22) rfl)
set_option maxRecDepth 100000 in
theorem gw226 : Cond.static yX5_times ∈ lw_tbl := pk_t6 _ (List.mem_of_getElem? (i := 23) rfl)
set_option maxRecDepth 100000 in
theorem gw227 : Cond.code yJ9_min_f86c9 cJ9_min_f86c9 4 (some .long) ∈ lw_tbl := pk_t6 _ (List.mem_of_getElem? (i := 28) rfl)
set_option maxRecDepth 100000 in
theorem gw228 : Cond.methodLink RX5 132 yJ9_min_f86c9 ∈ lw_tbl := pk_t6 _ (List.mem_of_getElem? (i := 26) rfl)
set_option maxRecDepth 100000 in
theorem gw229 : Cond.static yJ9_min_f86c9 ∈ lw_tbl := pk_t6 _ (List.mem_of_getElem? (i := 27) rfl)
set_option maxRecDepth 100000 in
theorem gw230 : Cond.methodLink RX5 172 yJ9_min_7cf53 ∈ lw_tbl := pk_t6 _ (List.mem_of_getElem? (i := 49) rfl)
set_option maxRecDepth 100000 in
theorem gw231 : Cond.code yX8_mark cX8_mark 2 none ∈ lw_tbl := pk_t3 _ (List.mem_of_getElem? (i := 218) rfl)
set_option maxRecDepth 100000 in
theorem gw232 : Cond.methodLink RX6 51 yX8_mark ∈ lw_tbl := pk_t3 _ (List.mem_of_getElem? (i := 215) rfl)
set_option maxRecDepth 100000 in
theorem gw233 : Cond.instanceMethod yX8_mark ∈ lw_tbl := pk_t3 _ (List.mem_of_getElem? (i := 216) rfl)
set_option maxRecDepth 100000 in
theorem gw234 : Cond.selects "TongueHouse$Store" yX8_mark yX8_mark ∈ lw_tbl := pk_t3 _ (List.mem_of_getElem? (i := 217) rfl)
set_option maxRecDepth 100000 in
theorem gw235 : Cond.initialized "TongueHouse$Store" ∈ lw_tbl := pk_t1 _ (List.mem_of_getElem? (i := 2) rfl)
set_option maxRecDepth 100000 in
theorem gw236 : Cond.methodLink RX6 56 yX9_rewind ∈ lw_tbl := pk_t3 _ (List.mem_of_getElem? (i := 226) rfl)
set_option maxRecDepth 100000 in
theorem gw237 : Cond.code yX6_wrong cX6_wrong 3 (some .boolean) ∈ lw_tbl := pk_t4 _ (List.mem_of_getElem? (i := 19) rfl)
set_option maxRecDepth 100000 in
theorem gw238 : Cond.methodLink RX6 70 yX6_wrong ∈ lw_tbl := pk_t4 _ (List.mem_of_getElem? (i := 16) rfl)
set_option maxRecDepth 100000 in
theorem gw239 : Cond.instanceMethod yX6_wrong ∈ lw_tbl := pk_t4 _ (List.mem_of_getElem? (i := 18) rfl)
set_option maxRecDepth 100000 in
theorem gw240 : Cond.selects "TongueHouse$Reader" yX6_wrong yX6_wrong ∈ lw_tbl := List.mem_append_left _ (List.mem_of_getElem? (i := 3) (by decide +kernel))
set_option maxRecDepth 100000 in
theorem gw241 : Cond.initialized "TongueHouse$Reader" ∈ lw_tbl := pk_t1 _ (List.mem_of_getElem? (i := 5) rfl)
set_option maxRecDepth 100000 in
theorem gw242 : Cond.methodLink RX6 78 yX9_advance ∈ lw_tbl := pk_t4 _ (List.mem_of_getElem? (i := 20) rfl)
set_option maxRecDepth 100000 in
theorem gw243 : Cond.code yX6_readTongue cX6_readTongue 4 (some .boolean) ∈ lw_tbl := pk_t4 _ (List.mem_of_getElem? (i := 25) rfl)
set_option maxRecDepth 100000 in
theorem gw244 : Cond.methodLink RX6 83 yX6_readTongue ∈ lw_tbl := pk_t4 _ (List.mem_of_getElem? (i := 22) rfl)
set_option maxRecDepth 100000 in
theorem gw245 : Cond.instanceMethod yX6_readTongue ∈ lw_tbl := pk_t4 _ (List.mem_of_getElem? (i := 24) rfl)
set_option maxRecDepth 100000 in
theorem gw246 : Cond.selects "TongueHouse$Reader" yX6_readTongue yX6_readTongue ∈ lw_tbl := List.mem_append_left _ (List.mem_of_getElem? (i := 4) (by decide +kernel))
set_option maxRecDepth 100000 in
theorem gw247 : Cond.code yX6_readNewName cX6_readNewName 4 (some .boolean) ∈ lw_tbl := pk_t4 _ (List.mem_of_getElem? (i := 203) rfl)
set_option maxRecDepth 100000 in
theorem gw248 : Cond.methodLink RX6 93 yX6_readNewName ∈ lw_tbl := pk_t4 _ (List.mem_of_getElem? (i := 200) rfl)
set_option maxRecDepth 100000 in
theorem gw249 : Cond.instanceMethod yX6_readNewName ∈ lw_tbl := pk_t4 _ (List.mem_of_getElem? (i := 202) rfl)
set_option maxRecDepth 100000 in
theorem gw250 : Cond.selects "TongueHouse$Reader" yX6_readNewName yX6_readNewName ∈ lw_tbl := List.mem_append_left _ (List.mem_of_getElem? (i := 8) (by decide +kernel))
set_option maxRecDepth 100000 in
theorem gw251 : Cond.code yX6_readFun cX6_readFun 7 (some .boolean) ∈ lw_tbl := pk_t4 _ (List.mem_of_getElem? (i := 213) rfl)
set_option maxRecDepth 100000 in
theorem gw252 : Cond.methodLink RX6 99 yX6_readFun ∈ lw_tbl := pk_t4 _ (List.mem_of_getElem? (i := 210) rfl)
set_option maxRecDepth 100000 in
theorem gw253 : Cond.instanceMethod yX6_readFun ∈ lw_tbl := pk_t4 _ (List.mem_of_getElem? (i := 212) rfl)
set_option maxRecDepth 100000 in
theorem gw254 : Cond.selects "TongueHouse$Reader" yX6_readFun yX6_readFun ∈ lw_tbl := List.mem_append_left _ (List.mem_of_getElem? (i := 10) (by decide +kernel))
set_option maxRecDepth 100000 in
theorem gw255 : Cond.code yX6_readMean cX6_readMean 2 (some .boolean) ∈ lw_tbl := pk_t4 _ (List.mem_of_getElem? (i := 232) rfl)
set_option maxRecDepth 100000 in
theorem gw256 : Cond.methodLink RX6 104 yX6_readMean ∈ lw_tbl := pk_t4 _ (List.mem_of_getElem? (i := 229) rfl)
set_option maxRecDepth 100000 in
theorem gw257 : Cond.instanceMethod yX6_readMean ∈ lw_tbl := pk_t4 _ (List.mem_of_getElem? (i := 231) rfl)
set_option maxRecDepth 100000 in
theorem gw258 : Cond.selects "TongueHouse$Reader" yX6_readMean yX6_readMean ∈ lw_tbl := List.mem_append_left _ (List.mem_of_getElem? (i := 14) (by decide +kernel))
set_option maxRecDepth 100000 in
theorem gw259 : Cond.code yX6_readFact cX6_readFact 6 (some .boolean) ∈ lw_tbl := pk_t5 _ (List.mem_of_getElem? (i := 14) rfl)
set_option maxRecDepth 100000 in
theorem gw260 : Cond.methodLink RX6 114 yX6_readFact ∈ lw_tbl := pk_t5 _ (List.mem_of_getElem? (i := 11) rfl)
set_option maxRecDepth 100000 in
theorem gw261 : Cond.instanceMethod yX6_readFact ∈ lw_tbl := pk_t5 _ (List.mem_of_getElem? (i := 13) rfl)
set_option maxRecDepth 100000 in
theorem gw262 : Cond.selects "TongueHouse$Reader" yX6_readFact yX6_readFact ∈ lw_tbl := List.mem_append_left _ (List.mem_of_getElem? (i := 19) (by decide +kernel))
set_option maxRecDepth 100000 in
theorem gw263 : Cond.code yX6_readFeature cX6_readFeature 7 (some .boolean) ∈ lw_tbl := pk_t5 _ (List.mem_of_getElem? (i := 28) rfl)
set_option maxRecDepth 100000 in
theorem gw264 : Cond.methodLink RX6 140 yX6_readFeature ∈ lw_tbl := pk_t5 _ (List.mem_of_getElem? (i := 25) rfl)
set_option maxRecDepth 100000 in
theorem gw265 : Cond.instanceMethod yX6_readFeature ∈ lw_tbl := pk_t5 _ (List.mem_of_getElem? (i := 27) rfl)
set_option maxRecDepth 100000 in
theorem gw266 : Cond.selects "TongueHouse$Reader" yX6_readFeature yX6_readFeature ∈ lw_tbl := List.mem_append_left _ (List.mem_of_getElem? (i := 20) (by decide +kernel))
set_option maxRecDepth 100000 in
theorem gw267 : Cond.code yX6_readClass cX6_readClass 5 (some .boolean) ∈ lw_tbl := pk_t5 _ (List.mem_of_getElem? (i := 32) rfl)
set_option maxRecDepth 100000 in
theorem gw268 : Cond.methodLink RX6 143 yX6_readClass ∈ lw_tbl := pk_t5 _ (List.mem_of_getElem? (i := 29) rfl)
set_option maxRecDepth 100000 in
theorem gw269 : Cond.instanceMethod yX6_readClass ∈ lw_tbl := pk_t5 _ (List.mem_of_getElem? (i := 31) rfl)
set_option maxRecDepth 100000 in
theorem gw270 : Cond.selects "TongueHouse$Reader" yX6_readClass yX6_readClass ∈ lw_tbl := List.mem_append_left _ (List.mem_of_getElem? (i := 21) (by decide +kernel))
set_option maxRecDepth 100000 in
theorem gw271 : Cond.code yX6_readSound cX6_readSound 1 (some .boolean) ∈ lw_tbl := pk_t5 _ (List.mem_of_getElem? (i := 40) rfl)
set_option maxRecDepth 100000 in
theorem gw272 : Cond.methodLink RX6 146 yX6_readSound ∈ lw_tbl := pk_t5 _ (List.mem_of_getElem? (i := 37) rfl)
set_option maxRecDepth 100000 in
theorem gw273 : Cond.instanceMethod yX6_readSound ∈ lw_tbl := pk_t5 _ (List.mem_of_getElem? (i := 39) rfl)
set_option maxRecDepth 100000 in
theorem gw274 : Cond.selects "TongueHouse$Reader" yX6_readSound yX6_readSound ∈ lw_tbl := List.mem_append_left _ (List.mem_of_getElem? (i := 22) (by decide +kernel))
set_option maxRecDepth 100000 in
theorem gw275 : Cond.code yX6_readPattern cX6_readPattern 6 (some .boolean) ∈ lw_tbl := pk_t5 _ (List.mem_of_getElem? (i := 61) rfl)
set_option maxRecDepth 100000 in
theorem gw276 : Cond.methodLink RX6 149 yX6_readPattern ∈ lw_tbl := pk_t5 _ (List.mem_of_getElem? (i := 58) rfl)
set_option maxRecDepth 100000 in
theorem gw277 : Cond.instanceMethod yX6_readPattern ∈ lw_tbl := pk_t5 _ (List.mem_of_getElem? (i := 60) rfl)
set_option maxRecDepth 100000 in
theorem gw278 : Cond.selects "TongueHouse$Reader" yX6_readPattern yX6_readPattern ∈ lw_tbl := List.mem_append_left _ (List.mem_of_getElem? (i := 26) (by decide +kernel))
set_option maxRecDepth 100000 in
theorem gw279 : Cond.code yX6_readWord cX6_readWord 2 (some .boolean) ∈ lw_tbl := pk_t5 _ (List.mem_of_getElem? (i := 92) rfl)
set_option maxRecDepth 100000 in
theorem gw280 : Cond.methodLink RX6 152 yX6_readWord ∈ lw_tbl := pk_t5 _ (List.mem_of_getElem? (i := 89) rfl)
set_option maxRecDepth 100000 in
theorem gw281 : Cond.instanceMethod yX6_readWord ∈ lw_tbl := pk_t5 _ (List.mem_of_getElem? (i := 91) rfl)
set_option maxRecDepth 100000 in
theorem gw282 : Cond.selects "TongueHouse$Reader" yX6_readWord yX6_readWord ∈ lw_tbl := List.mem_append_left _ (List.mem_of_getElem? (i := 32) (by decide +kernel))
set_option maxRecDepth 100000 in
theorem gw283 : Cond.code yX6_readLin cX6_readLin 4 (some .boolean) ∈ lw_tbl := pk_t5 _ (List.mem_of_getElem? (i := 105) rfl)
set_option maxRecDepth 100000 in
theorem gw284 : Cond.methodLink RX6 155 yX6_readLin ∈ lw_tbl := pk_t5 _ (List.mem_of_getElem? (i := 102) rfl)
set_option maxRecDepth 100000 in
theorem gw285 : Cond.instanceMethod yX6_readLin ∈ lw_tbl := pk_t5 _ (List.mem_of_getElem? (i := 104) rfl)
set_option maxRecDepth 100000 in
theorem gw286 : Cond.selects "TongueHouse$Reader" yX6_readLin yX6_readLin ∈ lw_tbl := List.mem_append_left _ (List.mem_of_getElem? (i := 35) (by decide +kernel))
set_option maxRecDepth 100000 in
theorem gw287 : Cond.code yX6_need cX6_need 2 (some .boolean) ∈ lw_tbl := pk_t4 _ (List.mem_of_getElem? (i := 29) rfl)
set_option maxRecDepth 100000 in
theorem gw288 : Cond.methodLink RX6 161 yX6_need ∈ lw_tbl := pk_t4 _ (List.mem_of_getElem? (i := 26) rfl)
set_option maxRecDepth 100000 in
theorem gw289 : Cond.instanceMethod yX6_need ∈ lw_tbl := pk_t4 _ (List.mem_of_getElem? (i := 28) rfl)
set_option maxRecDepth 100000 in
theorem gw290 : Cond.selects "TongueHouse$Reader" yX6_need yX6_need ∈ lw_tbl := List.mem_append_left _ (List.mem_of_getElem? (i := 5) (by decide +kernel))
set_option maxRecDepth 100000 in
theorem gw291 : Cond.methodLink RX6 165 yX4_find ∈ lw_tbl := pk_t4 _ (List.mem_of_getElem? (i := 30) rfl)
set_option maxRecDepth 100000 in
theorem gw292 : Cond.code yX6_take cX6_take 2 (some .boolean) ∈ lw_tbl := pk_t4 _ (List.mem_of_getElem? (i := 45) rfl)
set_option maxRecDepth 100000 in
theorem gw293 : Cond.methodLink RX6 171 yX6_take ∈ lw_tbl := pk_t4 _ (List.mem_of_getElem? (i := 42) rfl)
set_option maxRecDepth 100000 in
theorem gw294 : Cond.instanceMethod yX6_take ∈ lw_tbl := pk_t4 _ (List.mem_of_getElem? (i := 44) rfl)
set_option maxRecDepth 100000 in
theorem gw295 : Cond.selects "TongueHouse$Reader" yX6_take yX6_take ∈ lw_tbl := List.mem_append_left _ (List.mem_of_getElem? (i := 7) (by decide +kernel))
set_option maxRecDepth 100000 in
theorem gw296 : Cond.code yX6_isWord cX6_isWord 3 (some .boolean) ∈ lw_tbl := pk_t4 _ (List.mem_of_getElem? (i := 226) rfl)
set_option maxRecDepth 100000 in
theorem gw297 : Cond.methodLink RX6 183 yX6_isWord ∈ lw_tbl := pk_t4 _ (List.mem_of_getElem? (i := 223) rfl)
set_option maxRecDepth 100000 in
theorem gw298 : Cond.instanceMethod yX6_isWord ∈ lw_tbl := pk_t4 _ (List.mem_of_getElem? (i := 225) rfl)
set_option maxRecDepth 100000 in
theorem gw299 : Cond.selects "TongueHouse$Reader" yX6_isWord yX6_isWord ∈ lw_tbl := List.mem_append_left _ (List.mem_of_getElem? (i := 13) (by decide +kernel))
set_option maxRecDepth 100000 in
theorem gw300 : Cond.methodLink RX6 208 yX9_lettersSize ∈ lw_tbl := pk_t5 _ (List.mem_of_getElem? (i := 33) rfl)
set_option maxRecDepth 100000 in
theorem gw301 : Cond.code yX8_keepByte cX8_keepByte 2 none ∈ lw_tbl := pk_t5 _ (List.mem_of_getElem? (i := 53) rfl)
set_option maxRecDepth 100000 in
theorem gw302 : Cond.methodLink RX6 216 yX8_keepByte ∈ lw_tbl := pk_t5 _ (List.mem_of_getElem? (i := 50) rfl)
set_option maxRecDepth 100000 in
theorem gw303 : Cond.instanceMethod yX8_keepByte ∈ lw_tbl := pk_t5 _ (List.mem_of_getElem? (i := 51) rfl)
set_option maxRecDepth 100000 in
theorem gw304 : Cond.selects "TongueHouse$Store" yX8_keepByte yX8_keepByte ∈ lw_tbl := pk_t5 _ (List.mem_of_getElem? (i := 52) rfl)
set_option maxRecDepth 100000 in
theorem gw305 : Cond.code yX4_isFull cX4_isFull 1 (some .boolean) ∈ lw_tbl := pk_t4 _ (List.mem_of_getElem? (i := 37) rfl)
set_option maxRecDepth 100000 in
theorem gw306 : Cond.methodLink RX6 223 yX4_isFull ∈ lw_tbl := pk_t4 _ (List.mem_of_getElem? (i := 34) rfl)
set_option maxRecDepth 100000 in
theorem gw307 : Cond.instanceMethod yX4_isFull ∈ lw_tbl := pk_t4 _ (List.mem_of_getElem? (i := 35) rfl)
set_option maxRecDepth 100000 in
theorem gw308 : Cond.selects "TongueHouse$Names" yX4_isFull yX4_isFull ∈ lw_tbl := pk_t4 _ (List.mem_of_getElem? (i := 36) rfl)
set_option maxRecDepth 100000 in
theorem gw309 : Cond.code yX6_closes cX6_closes 2 (some .boolean) ∈ lw_tbl := pk_t4 _ (List.mem_of_getElem? (i := 41) rfl)
set_option maxRecDepth 100000 in
theorem gw310 : Cond.methodLink RX6 225 yX6_closes ∈ lw_tbl := pk_t4 _ (List.mem_of_getElem? (i := 38) rfl)
set_option maxRecDepth 100000 in
theorem gw311 : Cond.instanceMethod yX6_closes ∈ lw_tbl := pk_t4 _ (List.mem_of_getElem? (i := 40) rfl)
set_option maxRecDepth 100000 in
theorem gw312 : Cond.selects "TongueHouse$Reader" yX6_closes yX6_closes ∈ lw_tbl := List.mem_append_left _ (List.mem_of_getElem? (i := 6) (by decide +kernel))
set_option maxRecDepth 100000 in
theorem gw313 : Cond.code yX8_makeTongue cX8_makeTongue 4 none ∈ lw_tbl := pk_t4 _ (List.mem_of_getElem? (i := 49) rfl)
set_option maxRecDepth 100000 in
theorem gw314 : Cond.methodLink RX6 232 yX8_makeTongue ∈ lw_tbl := pk_t4 _ (List.mem_of_getElem? (i := 46) rfl)
set_option maxRecDepth 100000 in
theorem gw315 : Cond.instanceMethod yX8_makeTongue ∈ lw_tbl := pk_t4 _ (List.mem_of_getElem? (i := 47) rfl)
set_option maxRecDepth 100000 in
theorem gw316 : Cond.selects "TongueHouse$Store" yX8_makeTongue yX8_makeTongue ∈ lw_tbl := pk_t4 _ (List.mem_of_getElem? (i := 48) rfl)
set_option maxRecDepth 100000 in
theorem gw317 : Cond.code yX6_needNew cX6_needNew 2 (some .boolean) ∈ lw_tbl := pk_t4 _ (List.mem_of_getElem? (i := 207) rfl)
set_option maxRecDepth 100000 in
theorem gw318 : Cond.methodLink RX6 236 yX6_needNew ∈ lw_tbl := pk_t4 _ (List.mem_of_getElem? (i := 204) rfl)
set_option maxRecDepth 100000 in
theorem gw319 : Cond.instanceMethod yX6_needNew ∈ lw_tbl := pk_t4 _ (List.mem_of_getElem? (i := 206) rfl)
set_option maxRecDepth 100000 in
theorem gw320 : Cond.selects "TongueHouse$Reader" yX6_needNew yX6_needNew ∈ lw_tbl := List.mem_append_left _ (List.mem_of_getElem? (i := 9) (by decide +kernel))
set_option maxRecDepth 100000 in
theorem gw321 : Cond.code yX4_put cX4_put 3 none ∈ lw_tbl := pk_t4 _ (List.mem_of_getElem? (i := 198) rfl)
set_option maxRecDepth 100000 in
theorem gw322 : Cond.methodLink RX6 239 yX4_put ∈ lw_tbl := pk_t4 _ (List.mem_of_getElem? (i := 208) rfl)
set_option maxRecDepth 100000 in
theorem gw323 : Cond.instanceMethod yX4_put ∈ lw_tbl := pk_t4 _ (List.mem_of_getElem? (i := 196) rfl)
set_option maxRecDepth 100000 in
theorem gw324 : Cond.selects "TongueHouse$Names" yX4_put yX4_put ∈ lw_tbl := pk_t4 _ (List.mem_of_getElem? (i := 197) rfl)
set_option maxRecDepth 100000 in
theorem gw325 : Cond.code yX6_needKnown cX6_needKnown 2 (some .boolean) ∈ lw_tbl := pk_t4 _ (List.mem_of_getElem? (i := 217) rfl)
set_option maxRecDepth 100000 in
theorem gw326 : Cond.methodLink RX6 245 yX6_needKnown ∈ lw_tbl := pk_t4 _ (List.mem_of_getElem? (i := 214) rfl)
set_option maxRecDepth 100000 in
theorem gw327 : Cond.instanceMethod yX6_needKnown ∈ lw_tbl := pk_t4 _ (List.mem_of_getElem? (i := 216) rfl)
set_option maxRecDepth 100000 in
theorem gw328 : Cond.selects "TongueHouse$Reader" yX6_needKnown yX6_needKnown ∈ lw_tbl := List.mem_append_left _ (List.mem_of_getElem? (i := 11) (by decide +kernel))
set_option maxRecDepth 100000 in
theorem gw329 : Cond.code yX6_readCost cX6_readCost 1 (some .boolean) ∈ lw_tbl := pk_t4 _ (List.mem_of_getElem? (i := 221) rfl)
set_option maxRecDepth 100000 in
theorem gw330 : Cond.methodLink RX6 248 yX6_readCost ∈ lw_tbl := pk_t4 _ (List.mem_of_getElem? (i := 218) rfl)
set_option maxRecDepth 100000 in
theorem gw331 : Cond.instanceMethod yX6_readCost ∈ lw_tbl := pk_t4 _ (List.mem_of_getElem? (i := 220) rfl)
set_option maxRecDepth 100000 in
theorem gw332 : Cond.selects "TongueHouse$Reader" yX6_readCost yX6_readCost ∈ lw_tbl := List.mem_append_left _ (List.mem_of_getElem? (i := 12) (by decide +kernel))
set_option maxRecDepth 100000 in
theorem gw333 : Cond.code yX8_findFact cX8_findFact 6 (some .int) ∈ lw_tbl := pk_t5 _ (List.mem_of_getElem? (i := 18) rfl)
set_option maxRecDepth 100000 in
theorem gw334 : Cond.methodLink RX6 269 yX8_findFact ∈ lw_tbl := pk_t5 _ (List.mem_of_getElem? (i := 15) rfl)
set_option maxRecDepth 100000 in
theorem gw335 : Cond.instanceMethod yX8_findFact ∈ lw_tbl := pk_t5 _ (List.mem_of_getElem? (i := 16) rfl)
set_option maxRecDepth 100000 in
theorem gw336 : Cond.selects "TongueHouse$Store" yX8_findFact yX8_findFact ∈ lw_tbl := pk_t5 _ (List.mem_of_getElem? (i := 17) rfl)
set_option maxRecDepth 100000 in
theorem gw337 : Cond.code yX6_readContext cX6_readContext 2 (some .boolean) ∈ lw_tbl := pk_t5 _ (List.mem_of_getElem? (i := 45) rfl)
set_option maxRecDepth 100000 in
theorem gw338 : Cond.methodLink RX6 297 yX6_readContext ∈ lw_tbl := pk_t5 _ (List.mem_of_getElem? (i := 42) rfl)
set_option maxRecDepth 100000 in
theorem gw339 : Cond.instanceMethod yX6_readContext ∈ lw_tbl := pk_t5 _ (List.mem_of_getElem? (i := 44) rfl)
set_option maxRecDepth 100000 in
theorem gw340 : Cond.selects "TongueHouse$Reader" yX6_readContext yX6_readContext ∈ lw_tbl := List.mem_append_left _ (List.mem_of_getElem? (i := 23) (by decide +kernel))
set_option maxRecDepth 100000 in
theorem gw341 : Cond.code yX6_keepLetters cX6_keepLetters 4 (some .int) ∈ lw_tbl := pk_t5 _ (List.mem_of_getElem? (i := 49) rfl)
set_option maxRecDepth 100000 in
theorem gw342 : Cond.methodLink RX6 300 yX6_keepLetters ∈ lw_tbl := pk_t5 _ (List.mem_of_getElem? (i := 46) rfl)
set_option maxRecDepth 100000 in
theorem gw343 : Cond.instanceMethod yX6_keepLetters ∈ lw_tbl := pk_t5 _ (List.mem_of_getElem? (i := 48) rfl)
set_option maxRecDepth 100000 in
theorem gw344 : Cond.selects "TongueHouse$Reader" yX6_keepLetters yX6_keepLetters ∈ lw_tbl := List.mem_append_left _ (List.mem_of_getElem? (i := 24) (by decide +kernel))
set_option maxRecDepth 100000 in
theorem gw345 : Cond.code yX6_readSide cX6_readSide 4 (some .boolean) ∈ lw_tbl := pk_t5 _ (List.mem_of_getElem? (i := 57) rfl)
set_option maxRecDepth 100000 in
theorem gw346 : Cond.methodLink RX6 303 yX6_readSide ∈ lw_tbl := pk_t5 _ (List.mem_of_getElem? (i := 54) rfl)
set_option maxRecDepth 100000 in
theorem gw347 : Cond.instanceMethod yX6_readSide ∈ lw_tbl := pk_t5 _ (List.mem_of_getElem? (i := 56) rfl)
set_option maxRecDepth 100000 in
theorem gw348 : Cond.selects "TongueHouse$Reader" yX6_readSide yX6_readSide ∈ lw_tbl := List.mem_append_left _ (List.mem_of_getElem? (i := 25) (by decide +kernel))
set_option maxRecDepth 100000 in
theorem gw349 : Cond.code yX6_readParent cX6_readParent 2 (some .boolean) ∈ lw_tbl := pk_t5 _ (List.mem_of_getElem? (i := 66) rfl)
set_option maxRecDepth 100000 in
theorem gw350 : Cond.methodLink RX6 320 yX6_readParent ∈ lw_tbl := pk_t5 _ (List.mem_of_getElem? (i := 63) rfl)
set_option maxRecDepth 100000 in
theorem gw351 : Cond.instanceMethod yX6_readParent ∈ lw_tbl := pk_t5 _ (List.mem_of_getElem? (i := 65) rfl)
set_option maxRecDepth 100000 in
theorem gw352 : Cond.selects "TongueHouse$Reader" yX6_readParent yX6_readParent ∈ lw_tbl := List.mem_append_left _ (List.mem_of_getElem? (i := 27) (by decide +kernel))
set_option maxRecDepth 100000 in
theorem gw353 : Cond.code yX6_readCell cX6_readCell 3 (some .boolean) ∈ lw_tbl := pk_t5 _ (List.mem_of_getElem? (i := 70) rfl)
set_option maxRecDepth 100000 in
theorem gw354 : Cond.methodLink RX6 323 yX6_readCell ∈ lw_tbl := pk_t5 _ (List.mem_of_getElem? (i := 67) rfl)
set_option maxRecDepth 100000 in
theorem gw355 : Cond.instanceMethod yX6_readCell ∈ lw_tbl := pk_t5 _ (List.mem_of_getElem? (i := 69) rfl)
set_option maxRecDepth 100000 in
theorem gw356 : Cond.selects "TongueHouse$Reader" yX6_readCell yX6_readCell ∈ lw_tbl := List.mem_append_left _ (List.mem_of_getElem? (i := 28) (by decide +kernel))
set_option maxRecDepth 100000 in
theorem gw357 : Cond.code yX6_placeCell cX6_placeCell 2 (some .boolean) ∈ lw_tbl := pk_t5 _ (List.mem_of_getElem? (i := 85) rfl)
set_option maxRecDepth 100000 in
theorem gw358 : Cond.methodLink RX6 326 yX6_placeCell ∈ lw_tbl := pk_t5 _ (List.mem_of_getElem? (i := 82) rfl)
set_option maxRecDepth 100000 in
theorem gw359 : Cond.instanceMethod yX6_placeCell ∈ lw_tbl := pk_t5 _ (List.mem_of_getElem? (i := 84) rfl)
set_option maxRecDepth 100000 in
theorem gw360 : Cond.selects "TongueHouse$Reader" yX6_placeCell yX6_placeCell ∈ lw_tbl := List.mem_append_left _ (List.mem_of_getElem? (i := 31) (by decide +kernel))
set_option maxRecDepth 100000 in
theorem gw361 : Cond.code yX6_readValues cX6_readValues 5 (some .boolean) ∈ lw_tbl := pk_t5 _ (List.mem_of_getElem? (i := 74) rfl)
set_option maxRecDepth 100000 in
theorem gw362 : Cond.methodLink RX6 333 yX6_readValues ∈ lw_tbl := pk_t5 _ (List.mem_of_getElem? (i := 71) rfl)
set_option maxRecDepth 100000 in
theorem gw363 : Cond.instanceMethod yX6_readValues ∈ lw_tbl := pk_t5 _ (List.mem_of_getElem? (i := 73) rfl)
set_option maxRecDepth 100000 in
theorem gw364 : Cond.selects "TongueHouse$Reader" yX6_readValues yX6_readValues ∈ lw_tbl := List.mem_append_left _ (List.mem_of_getElem? (i := 29) (by decide +kernel))
set_option maxRecDepth 100000 in
theorem gw365 : Cond.code yX6_readPart cX6_readPart 1 (some .boolean) ∈ lw_tbl := pk_t5 _ (List.mem_of_getElem? (i := 81) rfl)
set_option maxRecDepth 100000 in
theorem gw366 : Cond.methodLink RX6 336 yX6_readPart ∈ lw_tbl := pk_t5 _ (List.mem_of_getElem? (i := 78) rfl)
set_option maxRecDepth 100000 in
theorem gw367 : Cond.instanceMethod yX6_readPart ∈ lw_tbl := pk_t5 _ (List.mem_of_getElem? (i := 80) rfl)
set_option maxRecDepth 100000 in
theorem gw368 : Cond.selects "TongueHouse$Reader" yX6_readPart yX6_readPart ∈ lw_tbl := List.mem_append_left _ (List.mem_of_getElem? (i := 30) (by decide +kernel))
set_option maxRecDepth 100000 in
theorem gw369 : Cond.code yX6_readStems cX6_readStems 2 (some .boolean) ∈ lw_tbl := pk_t5 _ (List.mem_of_getElem? (i := 96) rfl)
set_option maxRecDepth 100000 in
theorem gw370 : Cond.methodLink RX6 345 yX6_readStems ∈ lw_tbl := pk_t5 _ (List.mem_of_getElem? (i := 93) rfl)
set_option maxRecDepth 100000 in
theorem gw371 : Cond.instanceMethod yX6_readStems ∈ lw_tbl := pk_t5 _ (List.mem_of_getElem? (i := 95) rfl)
set_option maxRecDepth 100000 in
theorem gw372 : Cond.selects "TongueHouse$Reader" yX6_readStems yX6_readStems ∈ lw_tbl := List.mem_append_left _ (List.mem_of_getElem? (i := 33) (by decide +kernel))
set_option maxRecDepth 100000 in
theorem gw373 : Cond.code yX6_readHas cX6_readHas 1 (some .boolean) ∈ lw_tbl := pk_t5 _ (List.mem_of_getElem? (i := 100) rfl)
set_option maxRecDepth 100000 in
theorem gw374 : Cond.methodLink RX6 348 yX6_readHas ∈ lw_tbl := pk_t5 _ (List.mem_of_getElem? (i := 97) rfl)
set_option maxRecDepth 100000 in
theorem gw375 : Cond.instanceMethod yX6_readHas ∈ lw_tbl := pk_t5 _ (List.mem_of_getElem? (i := 99) rfl)
set_option maxRecDepth 100000 in
theorem gw376 : Cond.selects "TongueHouse$Reader" yX6_readHas yX6_readHas ∈ lw_tbl := List.mem_append_left _ (List.mem_of_getElem? (i := 34) (by decide +kernel))
set_option maxRecDepth 100000 in
theorem gw377 : Cond.code yX6_readItems cX6_readItems 3 (some .boolean) ∈ lw_tbl := pk_t5 _ (List.mem_of_getElem? (i := 199) rfl)
set_option maxRecDepth 100000 in
theorem gw378 : Cond.methodLink RX6 368 yX6_readItems ∈ lw_tbl := pk_t5 _ (List.mem_of_getElem? (i := 196) rfl)
set_option maxRecDepth 100000 in
theorem gw379 : Cond.instanceMethod yX6_readItems ∈ lw_tbl := pk_t5 _ (List.mem_of_getElem? (i := 198) rfl)
set_option maxRecDepth 100000 in
theorem gw380 : Cond.selects "TongueHouse$Reader" yX6_readItems yX6_readItems ∈ lw_tbl := List.mem_append_left _ (List.mem_of_getElem? (i := 36) (by decide +kernel))
set_option maxRecDepth 100000 in
theorem gw381 : Cond.code yX6_readSaids cX6_readSaids 4 (some .boolean) ∈ lw_tbl := pk_t5 _ (List.mem_of_getElem? (i := 207) rfl)
set_option maxRecDepth 100000 in
theorem gw382 : Cond.methodLink RX6 372 yX6_readSaids ∈ lw_tbl := pk_t5 _ (List.mem_of_getElem? (i := 204) rfl)
set_option maxRecDepth 100000 in
theorem gw383 : Cond.instanceMethod yX6_readSaids ∈ lw_tbl := pk_t5 _ (List.mem_of_getElem? (i := 206) rfl)
set_option maxRecDepth 100000 in
theorem gw384 : Cond.selects "TongueHouse$Reader" yX6_readSaids yX6_readSaids ∈ lw_tbl := List.mem_append_left _ (List.mem_of_getElem? (i := 38) (by decide +kernel))
set_option maxRecDepth 100000 in
theorem gw385 : Cond.code yX11_linsOf cX11_linsOf 4 (some .int) ∈ lw_tbl := pk_t5 _ (List.mem_of_getElem? (i := 225) rfl)
set_option maxRecDepth 100000 in
theorem gw386 : Cond.methodLink RX6 383 yX11_linsOf ∈ lw_tbl := pk_t5 _ (List.mem_of_getElem? (i := 222) rfl)
set_option maxRecDepth 100000 in
theorem gw387 : Cond.instanceMethod yX11_linsOf ∈ lw_tbl := pk_t5 _ (List.mem_of_getElem? (i := 223) rfl)
set_option maxRecDepth 100000 in
theorem gw388 : Cond.selects "TongueHouse$Tongue" yX11_linsOf yX11_linsOf ∈ lw_tbl := pk_t5 _ (List.mem_of_getElem? (i := 224) rfl)
set_option maxRecDepth 100000 in
theorem gw389 : Cond.code yX6_readArgument cX6_readArgument 3 (some .boolean) ∈ lw_tbl := pk_t5 _ (List.mem_of_getElem? (i := 203) rfl)
set_option maxRecDepth 100000 in
theorem gw390 : Cond.methodLink RX6 399 yX6_readArgument ∈ lw_tbl := pk_t5 _ (List.mem_of_getElem? (i := 200) rfl)
set_option maxRecDepth 100000 in
theorem gw391 : Cond.instanceMethod yX6_readArgument ∈ lw_tbl := pk_t5 _ (List.mem_of_getElem? (i := 202) rfl)
set_option maxRecDepth 100000 in
theorem gw392 : Cond.selects "TongueHouse$Reader" yX6_readArgument yX6_readArgument ∈ lw_tbl := List.mem_append_left _ (List.mem_of_getElem? (i := 37) (by decide +kernel))
set_option maxRecDepth 100000 in
theorem gw393 : Cond.code yX6_readAgree cX6_readAgree 4 (some .boolean) ∈ lw_tbl := pk_t5 _ (List.mem_of_getElem? (i := 213) rfl)
set_option maxRecDepth 100000 in
theorem gw394 : Cond.methodLink RX6 424 yX6_readAgree ∈ lw_tbl := pk_t5 _ (List.mem_of_getElem? (i := 210) rfl)
set_option maxRecDepth 100000 in
theorem gw395 : Cond.instanceMethod yX6_readAgree ∈ lw_tbl := pk_t5 _ (List.mem_of_getElem? (i := 212) rfl)
set_option maxRecDepth 100000 in
theorem gw396 : Cond.selects "TongueHouse$Reader" yX6_readAgree yX6_readAgree ∈ lw_tbl := List.mem_append_left _ (List.mem_of_getElem? (i := 39) (by decide +kernel))
set_option maxRecDepth 100000 in
theorem gw397 : Cond.code yX6_readGive cX6_readGive 4 (some .boolean) ∈ lw_tbl := pk_t5 _ (List.mem_of_getElem? (i := 221) rfl)
set_option maxRecDepth 100000 in
theorem gw398 : Cond.methodLink RX6 427 yX6_readGive ∈ lw_tbl := pk_t5 _ (List.mem_of_getElem? (i := 218) rfl)
set_option maxRecDepth 100000 in
theorem gw399 : Cond.instanceMethod yX6_readGive ∈ lw_tbl := pk_t5 _ (List.mem_of_getElem? (i := 220) rfl)
set_option maxRecDepth 100000 in
theorem gw400 : Cond.selects "TongueHouse$Reader" yX6_readGive yX6_readGive ∈ lw_tbl := List.mem_append_left _ (List.mem_of_getElem? (i := 41) (by decide +kernel))
set_option maxRecDepth 100000 in
theorem gw401 : Cond.code yX6_needArgument cX6_needArgument 3 (some .boolean) ∈ lw_tbl := pk_t5 _ (List.mem_of_getElem? (i := 217) rfl)
set_option maxRecDepth 100000 in
theorem gw402 : Cond.methodLink RX6 430 yX6_needArgument ∈ lw_tbl := pk_t5 _ (List.mem_of_getElem? (i := 214) rfl)
set_option maxRecDepth 100000 in
theorem gw403 : Cond.instanceMethod yX6_needArgument ∈ lw_tbl := pk_t5 _ (List.mem_of_getElem? (i := 216) rfl)
set_option maxRecDepth 100000 in
theorem gw404 : Cond.selects "TongueHouse$Reader" yX6_needArgument yX6_needArgument ∈ lw_tbl := List.mem_append_left _ (List.mem_of_getElem? (i := 40) (by decide +kernel))
set_option maxRecDepth 100000 in
theorem gw405 : Cond.code yX6_readTerm cX6_readTerm 7 (some .boolean) ∈ lw_tbl := pk_t4 _ (List.mem_of_getElem? (i := 236) rfl)
set_option maxRecDepth 100000 in
theorem gw406 : Cond.methodLink RX6 448 yX6_readTerm ∈ lw_tbl := pk_t4 _ (List.mem_of_getElem? (i := 233) rfl)
set_option maxRecDepth 100000 in
theorem gw407 : Cond.instanceMethod yX6_readTerm ∈ lw_tbl := pk_t4 _ (List.mem_of_getElem? (i := 235) rfl)
set_option maxRecDepth 100000 in
theorem gw408 : Cond.selects "TongueHouse$Reader" yX6_readTerm yX6_readTerm ∈ lw_tbl := List.mem_append_left _ (List.mem_of_getElem? (i := 15) (by decide +kernel))
set_option maxRecDepth 100000 in
theorem gw409 : Cond.code yX6_readBinder cX6_readBinder 3 (some .boolean) ∈ lw_tbl := pk_t5 _ (List.mem_of_getElem? (i := 0) rfl)
set_option maxRecDepth 100000 in
theorem gw410 : Cond.methodLink RX6 457 yX6_readBinder ∈ lw_tbl := pk_t4 _ (List.mem_of_getElem? (i := 237) rfl)
set_option maxRecDepth 100000 in
theorem gw411 : Cond.instanceMethod yX6_readBinder ∈ lw_tbl := pk_t4 _ (List.mem_of_getElem? (i := 239) rfl)
set_option maxRecDepth 100000 in
theorem gw412 : Cond.selects "TongueHouse$Reader" yX6_readBinder yX6_readBinder ∈ lw_tbl := List.mem_append_left _ (List.mem_of_getElem? (i := 16) (by decide +kernel))
set_option maxRecDepth 100000 in
theorem gw413 : Cond.code yX6_readAtom cX6_readAtom 4 (some .boolean) ∈ lw_tbl := pk_t5 _ (List.mem_of_getElem? (i := 8) rfl)
set_option maxRecDepth 100000 in
theorem gw414 : Cond.methodLink RX6 460 yX6_readAtom ∈ lw_tbl := pk_t5 _ (List.mem_of_getElem? (i := 5) rfl)
set_option maxRecDepth 100000 in
theorem gw415 : Cond.instanceMethod yX6_readAtom ∈ lw_tbl := pk_t5 _ (List.mem_of_getElem? (i := 7) rfl)
set_option maxRecDepth 100000 in
theorem gw416 : Cond.selects "TongueHouse$Reader" yX6_readAtom yX6_readAtom ∈ lw_tbl := List.mem_append_left _ (List.mem_of_getElem? (i := 18) (by decide +kernel))
set_option maxRecDepth 100000 in
theorem gw417 : Cond.code yX6_putNode cX6_putNode 6 none ∈ lw_tbl := pk_t5 _ (List.mem_of_getElem? (i := 4) rfl)
set_option maxRecDepth 100000 in
theorem gw418 : Cond.methodLink RX6 465 yX6_putNode ∈ lw_tbl := pk_t5 _ (List.mem_of_getElem? (i := 1) rfl)
set_option maxRecDepth 100000 in
theorem gw419 : Cond.instanceMethod yX6_putNode ∈ lw_tbl := pk_t5 _ (List.mem_of_getElem? (i := 3) rfl)
set_option maxRecDepth 100000 in
theorem gw420 : Cond.selects "TongueHouse$Reader" yX6_putNode yX6_putNode ∈ lw_tbl := List.mem_append_left _ (List.mem_of_getElem? (i := 17) (by decide +kernel))
set_option maxRecDepth 100000 in
theorem gw421 : Cond.code yX6_kindWanted cX6_kindWanted 2 (some .int) ∈ lw_tbl := pk_t8 _ (List.mem_of_getElem? (i := 3) rfl)
set_option maxRecDepth 100000 in
theorem gw422 : Cond.methodLink RX6 469 yX6_kindWanted ∈ lw_tbl := pk_t8 _ (List.mem_of_getElem? (i := 0) rfl)
set_option maxRecDepth 100000 in
theorem gw423 : Cond.instanceMethod yX6_kindWanted ∈ lw_tbl := pk_t8 _ (List.mem_of_getElem? (i := 2) rfl)
set_option maxRecDepth 100000 in
theorem gw424 : Cond.selects "TongueHouse$Reader" yX6_kindWanted yX6_kindWanted ∈ lw_tbl := List.mem_append_left _ (List.mem_of_getElem? (i := 72) (by decide +kernel))
set_option maxRecDepth 100000 in
theorem gw425 : Cond.code yX6_closeArguments cX6_closeArguments 4 (some .int) ∈ lw_tbl := pk_t8 _ (List.mem_of_getElem? (i := 7) rfl)
set_option maxRecDepth 100000 in
theorem gw426 : Cond.methodLink RX6 472 yX6_closeArguments ∈ lw_tbl := pk_t8 _ (List.mem_of_getElem? (i := 4) rfl)
set_option maxRecDepth 100000 in
theorem gw427 : Cond.instanceMethod yX6_closeArguments ∈ lw_tbl := pk_t8 _ (List.mem_of_getElem? (i := 6) rfl)
set_option maxRecDepth 100000 in
theorem gw428 : Cond.selects "TongueHouse$Reader" yX6_closeArguments yX6_closeArguments ∈ lw_tbl := List.mem_append_left _ (List.mem_of_getElem? (i := 73) (by decide +kernel))
set_option maxRecDepth 100000 in
theorem gw429 : Cond.methodLink RX6 198 yX11_shiftOf ∈ lw_tbl := pk_t5 _ (List.mem_of_getElem? (i := 75) rfl)
set_option maxRecDepth 100000 in
theorem gw430 : Cond.methodLink RX6 291 yJ7_fill_53178 ∈ lw_tbl := pk_t5 _ (List.mem_of_getElem? (i := 41) rfl)
set_option maxRecDepth 100000 in
theorem gw431 : Cond.methodLink RX6 339 yJ9_max_7cf53 ∈ lw_tbl := pk_t5 _ (List.mem_of_getElem? (i := 86) rfl)
set_option maxRecDepth 100000 in
theorem gw432 : Cond.code yX8_findChildren cX8_findChildren 8 none ∈ lw_tbl := pk_t8 _ (List.mem_of_getElem? (i := 45) rfl)
set_option maxRecDepth 100000 in
theorem gw433 : Cond.methodLink RX7 53 yX8_findChildren ∈ lw_tbl := pk_t8 _ (List.mem_of_getElem? (i := 42) rfl)
set_option maxRecDepth 100000 in
theorem gw434 : Cond.instanceMethod yX8_findChildren ∈ lw_tbl := pk_t8 _ (List.mem_of_getElem? (i := 43) rfl)
set_option maxRecDepth 100000 in
theorem gw435 : Cond.selects "TongueHouse$Store" yX8_findChildren yX8_findChildren ∈ lw_tbl := pk_t8 _ (List.mem_of_getElem? (i := 44) rfl)
set_option maxRecDepth 100000 in
theorem gw436 : Cond.code yX7_pickWords cX7_pickWords 6 none ∈ lw_tbl := pk_t8 _ (List.mem_of_getElem? (i := 49) rfl)
set_option maxRecDepth 100000 in
theorem gw437 : Cond.methodLink RX7 66 yX7_pickWords ∈ lw_tbl := pk_t8 _ (List.mem_of_getElem? (i := 46) rfl)
set_option maxRecDepth 100000 in
theorem gw438 : Cond.instanceMethod yX7_pickWords ∈ lw_tbl := pk_t8 _ (List.mem_of_getElem? (i := 48) rfl)
set_option maxRecDepth 100000 in
theorem gw439 : Cond.selects "TongueHouse$Sayer" yX7_pickWords yX7_pickWords ∈ lw_tbl := List.mem_append_left _ (List.mem_of_getElem? (i := 74) (by decide +kernel))
set_option maxRecDepth 100000 in
theorem gw440 : Cond.initialized "TongueHouse$Sayer" ∈ lw_tbl := pk_t1 _ (List.mem_of_getElem? (i := 8) rfl)
set_option maxRecDepth 100000 in
theorem gw441 : Cond.code yX7_pickLins cX7_pickLins 6 none ∈ lw_tbl := pk_t8 _ (List.mem_of_getElem? (i := 61) rfl)
set_option maxRecDepth 100000 in
theorem gw442 : Cond.methodLink RX7 70 yX7_pickLins ∈ lw_tbl := pk_t8 _ (List.mem_of_getElem? (i := 58) rfl)
set_option maxRecDepth 100000 in
theorem gw443 : Cond.instanceMethod yX7_pickLins ∈ lw_tbl := pk_t8 _ (List.mem_of_getElem? (i := 60) rfl)
set_option maxRecDepth 100000 in
theorem gw444 : Cond.selects "TongueHouse$Sayer" yX7_pickLins yX7_pickLins ∈ lw_tbl := List.mem_append_left _ (List.mem_of_getElem? (i := 76) (by decide +kernel))
set_option maxRecDepth 100000 in
theorem gw445 : Cond.methodLink RX7 78 yX11_wordFun ∈ lw_tbl := pk_t8 _ (List.mem_of_getElem? (i := 50) rfl)
set_option maxRecDepth 100000 in
theorem gw446 : Cond.methodLink RX7 82 yX11_cellsOf ∈ lw_tbl := pk_t8 _ (List.mem_of_getElem? (i := 51) rfl)
set_option maxRecDepth 100000 in
theorem gw447 : Cond.methodLink RX7 94 yX11_wordCost ∈ lw_tbl := pk_t8 _ (List.mem_of_getElem? (i := 52) rfl)
set_option maxRecDepth 100000 in
theorem gw448 : Cond.methodLink RX7 100 yX11_formValues ∈ lw_tbl := pk_t8 _ (List.mem_of_getElem? (i := 53) rfl)
set_option maxRecDepth 100000 in
theorem gw449 : Cond.code yX7_putOption cX7_putOption 9 none ∈ lw_tbl := pk_t8 _ (List.mem_of_getElem? (i := 57) rfl)
set_option maxRecDepth 100000 in
theorem gw450 : Cond.methodLink RX7 103 yX7_putOption ∈ lw_tbl := pk_t8 _ (List.mem_of_getElem? (i := 54) rfl)
set_option maxRecDepth 100000 in
theorem gw451 : Cond.instanceMethod yX7_putOption ∈ lw_tbl := pk_t8 _ (List.mem_of_getElem? (i := 56) rfl)
set_option maxRecDepth 100000 in
theorem gw452 : Cond.selects "TongueHouse$Sayer" yX7_putOption yX7_putOption ∈ lw_tbl := List.mem_append_left _ (List.mem_of_getElem? (i := 75) (by decide +kernel))
set_option maxRecDepth 100000 in
theorem gw453 : Cond.code yX7_pick cX7_pick 10 none ∈ lw_tbl := pk_t8 _ (List.mem_of_getElem? (i := 65) rfl)
set_option maxRecDepth 100000 in
theorem gw454 : Cond.methodLink RX7 127 yX7_pick ∈ lw_tbl := pk_t8 _ (List.mem_of_getElem? (i := 62) rfl)
set_option maxRecDepth 100000 in
theorem gw455 : Cond.instanceMethod yX7_pick ∈ lw_tbl := pk_t8 _ (List.mem_of_getElem? (i := 64) rfl)
set_option maxRecDepth 100000 in
theorem gw456 : Cond.selects "TongueHouse$Sayer" yX7_pick yX7_pick ∈ lw_tbl := List.mem_append_left _ (List.mem_of_getElem? (i := 77) (by decide +kernel))
set_option maxRecDepth 100000 in
theorem gw457 : Cond.methodLink RX7 134 yX3_unite ∈ lw_tbl := pk_t8 _ (List.mem_of_getElem? (i := 66) rfl)
set_option maxRecDepth 100000 in
theorem gw458 : Cond.code yX3_clashes cX3_clashes 8 (some .boolean) ∈ lw_tbl := pk_t8 _ (List.mem_of_getElem? (i := 71) rfl)
set_option maxRecDepth 100000 in
theorem gw459 : Cond.methodLink RX7 151 yX3_clashes ∈ lw_tbl := pk_t8 _ (List.mem_of_getElem? (i := 68) rfl)
set_option maxRecDepth 100000 in
theorem gw460 : Cond.instanceMethod yX3_clashes ∈ lw_tbl := pk_t8 _ (List.mem_of_getElem? (i := 69) rfl)
set_option maxRecDepth 100000 in
theorem gw461 : Cond.selects "TongueHouse$Lin" yX3_clashes yX3_clashes ∈ lw_tbl := pk_t8 _ (List.mem_of_getElem? (i := 70) rfl)
set_option maxRecDepth 100000 in
theorem gw462 : Cond.code yX9_putSpaced cX9_putSpaced 4 none ∈ lw_tbl := pk_t8 _ (List.mem_of_getElem? (i := 80) rfl)
set_option maxRecDepth 100000 in
theorem gw463 : Cond.methodLink RX7 159 yX9_putSpaced ∈ lw_tbl := pk_t8 _ (List.mem_of_getElem? (i := 77) rfl)
set_option maxRecDepth 100000 in
theorem gw464 : Cond.instanceMethod yX9_putSpaced ∈ lw_tbl := pk_t8 _ (List.mem_of_getElem? (i := 78) rfl)
set_option maxRecDepth 100000 in
theorem gw465 : Cond.selects "TongueHouse$Text" yX9_putSpaced yX9_putSpaced ∈ lw_tbl := pk_t8 _ (List.mem_of_getElem? (i := 79) rfl)
set_option maxRecDepth 100000 in
theorem gw466 : Cond.methodLink RX7 147 yX3_fit ∈ lw_tbl := pk_t8 _ (List.mem_of_getElem? (i := 67) rfl)
set_option maxRecDepth 100000 in
theorem gw467 : Cond.code yX11_saveSizes cX11_saveSizes 3 none ∈ lw_tbl := pk_t3 _ (List.mem_of_getElem? (i := 222) rfl)
set_option maxRecDepth 100000 in
theorem gw468 : Cond.methodLink RX8 91 yX11_saveSizes ∈ lw_tbl := pk_t3 _ (List.mem_of_getElem? (i := 219) rfl)
set_option maxRecDepth 100000 in
theorem gw469 : Cond.instanceMethod yX11_saveSizes ∈ lw_tbl := pk_t3 _ (List.mem_of_getElem? (i := 220) rfl)
set_option maxRecDepth 100000 in
theorem gw470 : Cond.selects "TongueHouse$Tongue" yX11_saveSizes yX11_saveSizes ∈ lw_tbl := pk_t3 _ (List.mem_of_getElem? (i := 221) rfl)
set_option maxRecDepth 100000 in
theorem gw471 : Cond.code yX11_loadSizes cX11_loadSizes 3 none ∈ lw_tbl := pk_t5 _ (List.mem_of_getElem? (i := 233) rfl)
set_option maxRecDepth 100000 in
theorem gw472 : Cond.methodLink RX8 101 yX11_loadSizes ∈ lw_tbl := pk_t5 _ (List.mem_of_getElem? (i := 230) rfl)
set_option maxRecDepth 100000 in
theorem gw473 : Cond.instanceMethod yX11_loadSizes ∈ lw_tbl := pk_t5 _ (List.mem_of_getElem? (i := 231) rfl)
set_option maxRecDepth 100000 in
theorem gw474 : Cond.selects "TongueHouse$Tongue" yX11_loadSizes yX11_loadSizes ∈ lw_tbl := pk_t5 _ (List.mem_of_getElem? (i := 232) rfl)
set_option maxRecDepth 100000 in
theorem gw475 : Cond.code yX11_forgetAll cX11_forgetAll 1 none ∈ lw_tbl := pk_t4 _ (List.mem_of_getElem? (i := 194) rfl)
set_option maxRecDepth 100000 in
theorem gw476 : Cond.methodLink RX8 107 yX11_forgetAll ∈ lw_tbl := pk_t4 _ (List.mem_of_getElem? (i := 191) rfl)
set_option maxRecDepth 100000 in
theorem gw477 : Cond.instanceMethod yX11_forgetAll ∈ lw_tbl := pk_t4 _ (List.mem_of_getElem? (i := 192) rfl)
set_option maxRecDepth 100000 in
theorem gw478 : Cond.selects "TongueHouse$Tongue" yX11_forgetAll yX11_forgetAll ∈ lw_tbl := pk_t4 _ (List.mem_of_getElem? (i := 193) rfl)
set_option maxRecDepth 100000 in
theorem gw479 : Cond.methodLink RX8 110 yX4_put ∈ lw_tbl := pk_t4 _ (List.mem_of_getElem? (i := 195) rfl)
set_option maxRecDepth 100000 in
theorem gw480 : Cond.code yX9_putName cX9_putName 5 none ∈ lw_tbl := pk_t8 _ (List.mem_of_getElem? (i := 22) rfl)
set_option maxRecDepth 100000 in
theorem gw481 : Cond.methodLink RX8 117 yX9_putName ∈ lw_tbl := pk_t8 _ (List.mem_of_getElem? (i := 19) rfl)
set_option maxRecDepth 100000 in
theorem gw482 : Cond.instanceMethod yX9_putName ∈ lw_tbl := pk_t8 _ (List.mem_of_getElem? (i := 20) rfl)
set_option maxRecDepth 100000 in
theorem gw483 : Cond.selects "TongueHouse$Text" yX9_putName yX9_putName ∈ lw_tbl := pk_t8 _ (List.mem_of_getElem? (i := 21) rfl)
set_option maxRecDepth 100000 in
theorem gw484 : Cond.code yX9_put cX9_put 2 none ∈ lw_tbl := pk_t6 _ (List.mem_of_getElem? (i := 99) rfl)
set_option maxRecDepth 100000 in
theorem gw485 : Cond.methodLink RX8 122 yX9_put ∈ lw_tbl := pk_t8 _ (List.mem_of_getElem? (i := 23) rfl)
set_option maxRecDepth 100000 in
theorem gw486 : Cond.instanceMethod yX9_put ∈ lw_tbl := pk_t6 _ (List.mem_of_getElem? (i := 97) rfl)
set_option maxRecDepth 100000 in
theorem gw487 : Cond.selects "TongueHouse$Text" yX9_put yX9_put ∈ lw_tbl := pk_t6 _ (List.mem_of_getElem? (i := 98) rfl)
set_option maxRecDepth 100000 in
theorem gw488 : Cond.methodLink RX9 26 yX9_put ∈ lw_tbl := pk_t6 _ (List.mem_of_getElem? (i := 96) rfl)
set_option maxRecDepth 100000 in
theorem gw489 : Cond.methodLink RX9 30 yX9_putBytes ∈ lw_tbl := pk_t8 _ (List.mem_of_getElem? (i := 81) rfl)
set_option maxRecDepth 100000 in
theorem gw490 : Cond.methodLink RX9 37 yX9_putSpaced ∈ lw_tbl := pk_t9 _ (List.mem_of_getElem? (i := 45) rfl)
set_option maxRecDepth 100000 in
theorem gw491 : Cond.code yX9_putWordsBetween cX9_putWordsBetween 5 none ∈ lw_tbl := pk_t9 _ (List.mem_of_getElem? (i := 44) rfl)
set_option maxRecDepth 100000 in
theorem gw492 : Cond.methodLink RX9 40 yX9_putWordsBetween ∈ lw_tbl := pk_t9 _ (List.mem_of_getElem? (i := 41) rfl)
set_option maxRecDepth 100000 in
theorem gw493 : Cond.instanceMethod yX9_putWordsBetween ∈ lw_tbl := pk_t9 _ (List.mem_of_getElem? (i := 42) rfl)
set_option maxRecDepth 100000 in
theorem gw494 : Cond.selects "TongueHouse$Text" yX9_putWordsBetween yX9_putWordsBetween ∈ lw_tbl := pk_t9 _ (List.mem_of_getElem? (i := 43) rfl)
set_option maxRecDepth 100000 in
theorem gw495 : Cond.methodLink RX9 52 yX9_advance ∈ lw_tbl := pk_t3 _ (List.mem_of_getElem? (i := 230) rfl)
set_option maxRecDepth 100000 in
theorem gw496 : Cond.code yX9_takeName cX9_takeName 3 none ∈ lw_tbl := pk_t4 _ (List.mem_of_getElem? (i := 0) rfl)
set_option maxRecDepth 100000 in
theorem gw497 : Cond.methodLink RX9 61 yX9_takeName ∈ lw_tbl := pk_t3 _ (List.mem_of_getElem? (i := 237) rfl)
set_option maxRecDepth 100000 in
theorem gw498 : Cond.instanceMethod yX9_takeName ∈ lw_tbl := pk_t3 _ (List.mem_of_getElem? (i := 239) rfl)
set_option maxRecDepth 100000 in
theorem gw499 : Cond.selects "TongueHouse$Text" yX9_takeName yX9_takeName ∈ lw_tbl := List.mem_append_left _ (List.mem_of_getElem? (i := 0) (by decide +kernel))
set_option maxRecDepth 100000 in
theorem gw500 : Cond.code yX9_takeNumber cX9_takeNumber 2 none ∈ lw_tbl := pk_t4 _ (List.mem_of_getElem? (i := 4) rfl)
set_option maxRecDepth 100000 in
theorem gw501 : Cond.methodLink RX9 64 yX9_takeNumber ∈ lw_tbl := pk_t4 _ (List.mem_of_getElem? (i := 1) rfl)
set_option maxRecDepth 100000 in
theorem gw502 : Cond.instanceMethod yX9_takeNumber ∈ lw_tbl := pk_t4 _ (List.mem_of_getElem? (i := 3) rfl)
set_option maxRecDepth 100000 in
theorem gw503 : Cond.selects "TongueHouse$Text" yX9_takeNumber yX9_takeNumber ∈ lw_tbl := List.mem_append_left _ (List.mem_of_getElem? (i := 1) (by decide +kernel))
set_option maxRecDepth 100000 in
theorem gw504 : Cond.code yX9_takeLetters cX9_takeLetters 3 none ∈ lw_tbl := pk_t4 _ (List.mem_of_getElem? (i := 8) rfl)
set_option maxRecDepth 100000 in
theorem gw505 : Cond.methodLink RX9 67 yX9_takeLetters ∈ lw_tbl := pk_t4 _ (List.mem_of_getElem? (i := 5) rfl)
set_option maxRecDepth 100000 in
theorem gw506 : Cond.instanceMethod yX9_takeLetters ∈ lw_tbl := pk_t4 _ (List.mem_of_getElem? (i := 7) rfl)
set_option maxRecDepth 100000 in
theorem gw507 : Cond.selects "TongueHouse$Text" yX9_takeLetters yX9_takeLetters ∈ lw_tbl := List.mem_append_left _ (List.mem_of_getElem? (i := 2) (by decide +kernel))
set_option maxRecDepth 100000 in
theorem gw508 : Cond.methodLink RX9 80 yX9_rewind ∈ lw_tbl := pk_t6 _ (List.mem_of_getElem? (i := 223) rfl)
set_option maxRecDepth 100000 in
theorem gw509 : Cond.code yX9_isLetter cX9_isLetter 1 (some .boolean) ∈ lw_tbl := pk_t3 _ (List.mem_of_getElem? (i := 236) rfl)
set_option maxRecDepth 100000 in
theorem gw510 : Cond.methodLink RX9 45 yX9_isLetter ∈ lw_tbl := pk_t3 _ (List.mem_of_getElem? (i := 234) rfl)
set_option maxRecDepth 100000 in
theorem gw511 : Cond.static yX9_isLetter ∈ lw_tbl := pk_t3 _ (List.mem_of_getElem? (i := 235) rfl)
set_option maxRecDepth 100000 in
theorem gw512 : Cond.code yX9_isSign cX9_isSign 1 (some .boolean) ∈ lw_tbl := pk_t4 _ (List.mem_of_getElem? (i := 11) rfl)
set_option maxRecDepth 100000 in
theorem gw513 : Cond.methodLink RX9 70 yX9_isSign ∈ lw_tbl := pk_t4 _ (List.mem_of_getElem? (i := 9) rfl)
set_option maxRecDepth 100000 in
theorem gw514 : Cond.static yX9_isSign ∈ lw_tbl := pk_t4 _ (List.mem_of_getElem? (i := 10) rfl)
set_option maxRecDepth 100000 in
theorem gw515 : Cond.code yX10_putTogether cX10_putTogether 9 (some .boolean) ∈ lw_tbl := pk_t8 _ (List.mem_of_getElem? (i := 100) rfl)
set_option maxRecDepth 100000 in
theorem gw516 : Cond.methodLink RX10 61 yX10_putTogether ∈ lw_tbl := pk_t8 _ (List.mem_of_getElem? (i := 97) rfl)
set_option maxRecDepth 100000 in
theorem gw517 : Cond.instanceMethod yX10_putTogether ∈ lw_tbl := pk_t8 _ (List.mem_of_getElem? (i := 99) rfl)
set_option maxRecDepth 100000 in
theorem gw518 : Cond.selects "TongueHouse$Thought" yX10_putTogether yX10_putTogether ∈ lw_tbl := List.mem_append_left _ (List.mem_of_getElem? (i := 79) (by decide +kernel))
set_option maxRecDepth 100000 in
theorem gw519 : Cond.initialized "TongueHouse$Thought" ∈ lw_tbl := pk_t1 _ (List.mem_of_getElem? (i := 9) rfl)
set_option maxRecDepth 100000 in
theorem gw520 : Cond.code yX10_reduce cX10_reduce 3 (some .boolean) ∈ lw_tbl := pk_t8 _ (List.mem_of_getElem? (i := 106) rfl)
set_option maxRecDepth 100000 in
theorem gw521 : Cond.methodLink RX10 65 yX10_reduce ∈ lw_tbl := pk_t8 _ (List.mem_of_getElem? (i := 103) rfl)
set_option maxRecDepth 100000 in
theorem gw522 : Cond.instanceMethod yX10_reduce ∈ lw_tbl := pk_t8 _ (List.mem_of_getElem? (i := 105) rfl)
set_option maxRecDepth 100000 in
theorem gw523 : Cond.selects "TongueHouse$Thought" yX10_reduce yX10_reduce ∈ lw_tbl := List.mem_append_left _ (List.mem_of_getElem? (i := 80) (by decide +kernel))
set_option maxRecDepth 100000 in
theorem gw524 : Cond.methodLink RX10 69 yX8_findChildren ∈ lw_tbl := pk_t8 _ (List.mem_of_getElem? (i := 101) rfl)
set_option maxRecDepth 100000 in
theorem gw525 : Cond.code yX10_contract cX10_contract 9 (some .boolean) ∈ lw_tbl := pk_t8 _ (List.mem_of_getElem? (i := 110) rfl)
set_option maxRecDepth 100000 in
theorem gw526 : Cond.methodLink RX10 84 yX10_contract ∈ lw_tbl := pk_t8 _ (List.mem_of_getElem? (i := 107) rfl)
set_option maxRecDepth 100000 in
theorem gw527 : Cond.instanceMethod yX10_contract ∈ lw_tbl := pk_t8 _ (List.mem_of_getElem? (i := 109) rfl)
set_option maxRecDepth 100000 in
theorem gw528 : Cond.selects "TongueHouse$Thought" yX10_contract yX10_contract ∈ lw_tbl := List.mem_append_left _ (List.mem_of_getElem? (i := 81) (by decide +kernel))
set_option maxRecDepth 100000 in
theorem gw529 : Cond.code yX10_endOf cX10_endOf 4 (some .int) ∈ lw_tbl := pk_t8 _ (List.mem_of_getElem? (i := 114) rfl)
set_option maxRecDepth 100000 in
theorem gw530 : Cond.methodLink RX10 88 yX10_endOf ∈ lw_tbl := pk_t8 _ (List.mem_of_getElem? (i := 111) rfl)
set_option maxRecDepth 100000 in
theorem gw531 : Cond.instanceMethod yX10_endOf ∈ lw_tbl := pk_t8 _ (List.mem_of_getElem? (i := 113) rfl)
set_option maxRecDepth 100000 in
theorem gw532 : Cond.selects "TongueHouse$Thought" yX10_endOf yX10_endOf ∈ lw_tbl := List.mem_append_left _ (List.mem_of_getElem? (i := 82) (by decide +kernel))
set_option maxRecDepth 100000 in
theorem gw533 : Cond.code yX10_paste cX10_paste 10 (some .int) ∈ lw_tbl := pk_t8 _ (List.mem_of_getElem? (i := 119) rfl)
set_option maxRecDepth 100000 in
theorem gw534 : Cond.methodLink RX10 98 yX10_paste ∈ lw_tbl := pk_t8 _ (List.mem_of_getElem? (i := 116) rfl)
set_option maxRecDepth 100000 in
theorem gw535 : Cond.instanceMethod yX10_paste ∈ lw_tbl := pk_t8 _ (List.mem_of_getElem? (i := 118) rfl)
set_option maxRecDepth 100000 in
theorem gw536 : Cond.selects "TongueHouse$Thought" yX10_paste yX10_paste ∈ lw_tbl := List.mem_append_left _ (List.mem_of_getElem? (i := 83) (by decide +kernel))
set_option maxRecDepth 100000 in
theorem gw537 : Cond.code yX10_takeRest cX10_takeRest 6 (some .boolean) ∈ lw_tbl := pk_t8 _ (List.mem_of_getElem? (i := 123) rfl)
set_option maxRecDepth 100000 in
theorem gw538 : Cond.methodLink RX10 102 yX10_takeRest ∈ lw_tbl := pk_t8 _ (List.mem_of_getElem? (i := 120) rfl)
set_option maxRecDepth 100000 in
theorem gw539 : Cond.instanceMethod yX10_takeRest ∈ lw_tbl := pk_t8 _ (List.mem_of_getElem? (i := 122) rfl)
set_option maxRecDepth 100000 in
theorem gw540 : Cond.selects "TongueHouse$Thought" yX10_takeRest yX10_takeRest ∈ lw_tbl := List.mem_append_left _ (List.mem_of_getElem? (i := 84) (by decide +kernel))
set_option maxRecDepth 100000 in
theorem gw541 : Cond.methodLink RX10 106 yX9_put ∈ lw_tbl := pk_t8 _ (List.mem_of_getElem? (i := 128) rfl)
set_option maxRecDepth 100000 in
theorem gw542 : Cond.code yX9_putNumber cX9_putNumber 4 none ∈ lw_tbl := pk_t8 _ (List.mem_of_getElem? (i := 132) rfl)
set_option maxRecDepth 100000 in
theorem gw543 : Cond.methodLink RX10 112 yX9_putNumber ∈ lw_tbl := pk_t8 _ (List.mem_of_getElem? (i := 129) rfl)
set_option maxRecDepth 100000 in
theorem gw544 : Cond.instanceMethod yX9_putNumber ∈ lw_tbl := pk_t8 _ (List.mem_of_getElem? (i := 130) rfl)
set_option maxRecDepth 100000 in
theorem gw545 : Cond.selects "TongueHouse$Text" yX9_putNumber yX9_putNumber ∈ lw_tbl := pk_t8 _ (List.mem_of_getElem? (i := 131) rfl)
set_option maxRecDepth 100000 in
theorem gw546 : Cond.code yX10_tellLeaf cX10_tellLeaf 4 none ∈ lw_tbl := pk_t8 _ (List.mem_of_getElem? (i := 137) rfl)
set_option maxRecDepth 100000 in
theorem gw547 : Cond.methodLink RX10 115 yX10_tellLeaf ∈ lw_tbl := pk_t8 _ (List.mem_of_getElem? (i := 134) rfl)
set_option maxRecDepth 100000 in
theorem gw548 : Cond.instanceMethod yX10_tellLeaf ∈ lw_tbl := pk_t8 _ (List.mem_of_getElem? (i := 136) rfl)
set_option maxRecDepth 100000 in
theorem gw549 : Cond.selects "TongueHouse$Thought" yX10_tellLeaf yX10_tellLeaf ∈ lw_tbl := List.mem_append_left _ (List.mem_of_getElem? (i := 85) (by decide +kernel))
set_option maxRecDepth 100000 in
theorem gw550 : Cond.methodLink RX10 119 yX9_putName ∈ lw_tbl := pk_t8 _ (List.mem_of_getElem? (i := 138) rfl)
set_option maxRecDepth 100000 in
theorem gw551 : Cond.code yX10_goOn cX10_goOn 5 (some .int) ∈ lw_tbl := pk_t8 _ (List.mem_of_getElem? (i := 153) rfl)
set_option maxRecDepth 100000 in
theorem gw552 : Cond.methodLink RX10 136 yX10_goOn ∈ lw_tbl := pk_t8 _ (List.mem_of_getElem? (i := 150) rfl)
set_option maxRecDepth 100000 in
theorem gw553 : Cond.instanceMethod yX10_goOn ∈ lw_tbl := pk_t8 _ (List.mem_of_getElem? (i := 152) rfl)
set_option maxRecDepth 100000 in
theorem gw554 : Cond.selects "TongueHouse$Thought" yX10_goOn yX10_goOn ∈ lw_tbl := List.mem_append_left _ (List.mem_of_getElem? (i := 86) (by decide +kernel))
set_option maxRecDepth 100000 in
theorem gw555 : Cond.code yX10_lookAt cX10_lookAt 10 (some .int) ∈ lw_tbl := pk_t8 _ (List.mem_of_getElem? (i := 162) rfl)
set_option maxRecDepth 100000 in
theorem gw556 : Cond.methodLink RX10 139 yX10_lookAt ∈ lw_tbl := pk_t8 _ (List.mem_of_getElem? (i := 159) rfl)
set_option maxRecDepth 100000 in
theorem gw557 : Cond.instanceMethod yX10_lookAt ∈ lw_tbl := pk_t8 _ (List.mem_of_getElem? (i := 161) rfl)
set_option maxRecDepth 100000 in
theorem gw558 : Cond.selects "TongueHouse$Thought" yX10_lookAt yX10_lookAt ∈ lw_tbl := List.mem_append_left _ (List.mem_of_getElem? (i := 87) (by decide +kernel))
set_option maxRecDepth 100000 in
theorem gw559 : Cond.code yX10_stray cX10_stray 1 (some .int) ∈ lw_tbl := pk_t8 _ (List.mem_of_getElem? (i := 166) rfl)
set_option maxRecDepth 100000 in
theorem gw560 : Cond.methodLink RX10 143 yX10_stray ∈ lw_tbl := pk_t8 _ (List.mem_of_getElem? (i := 163) rfl)
set_option maxRecDepth 100000 in
theorem gw561 : Cond.instanceMethod yX10_stray ∈ lw_tbl := pk_t8 _ (List.mem_of_getElem? (i := 165) rfl)
set_option maxRecDepth 100000 in
theorem gw562 : Cond.selects "TongueHouse$Thought" yX10_stray yX10_stray ∈ lw_tbl := List.mem_append_left _ (List.mem_of_getElem? (i := 88) (by decide +kernel))
set_option maxRecDepth 100000 in
theorem gw563 : Cond.code yX10_openUp cX10_openUp 5 (some .int) ∈ lw_tbl := pk_t8 _ (List.mem_of_getElem? (i := 171) rfl)
set_option maxRecDepth 100000 in
theorem gw564 : Cond.methodLink RX10 152 yX10_openUp ∈ lw_tbl := pk_t8 _ (List.mem_of_getElem? (i := 168) rfl)
set_option maxRecDepth 100000 in
theorem gw565 : Cond.instanceMethod yX10_openUp ∈ lw_tbl := pk_t8 _ (List.mem_of_getElem? (i := 170) rfl)
set_option maxRecDepth 100000 in
theorem gw566 : Cond.selects "TongueHouse$Thought" yX10_openUp yX10_openUp ∈ lw_tbl := List.mem_append_left _ (List.mem_of_getElem? (i := 89) (by decide +kernel))
set_option maxRecDepth 100000 in
theorem gw567 : Cond.code yX10_openAll cX10_openAll 5 (some .int) ∈ lw_tbl := pk_t8 _ (List.mem_of_getElem? (i := 175) rfl)
set_option maxRecDepth 100000 in
theorem gw568 : Cond.methodLink RX10 162 yX10_openAll ∈ lw_tbl := pk_t8 _ (List.mem_of_getElem? (i := 172) rfl)
set_option maxRecDepth 100000 in
theorem gw569 : Cond.instanceMethod yX10_openAll ∈ lw_tbl := pk_t8 _ (List.mem_of_getElem? (i := 174) rfl)
set_option maxRecDepth 100000 in
theorem gw570 : Cond.selects "TongueHouse$Thought" yX10_openAll yX10_openAll ∈ lw_tbl := List.mem_append_left _ (List.mem_of_getElem? (i := 90) (by decide +kernel))
set_option maxRecDepth 100000 in
theorem gw571 : Cond.code yX10_thingAt cX10_thingAt 2 (some .int) ∈ lw_tbl := pk_t8 _ (List.mem_of_getElem? (i := 179) rfl)
set_option maxRecDepth 100000 in
theorem gw572 : Cond.methodLink RX10 166 yX10_thingAt ∈ lw_tbl := pk_t8 _ (List.mem_of_getElem? (i := 176) rfl)
set_option maxRecDepth 100000 in
theorem gw573 : Cond.instanceMethod yX10_thingAt ∈ lw_tbl := pk_t8 _ (List.mem_of_getElem? (i := 178) rfl)
set_option maxRecDepth 100000 in
theorem gw574 : Cond.selects "TongueHouse$Thought" yX10_thingAt yX10_thingAt ∈ lw_tbl := List.mem_append_left _ (List.mem_of_getElem? (i := 91) (by decide +kernel))
set_option maxRecDepth 100000 in
theorem gw575 : Cond.methodLink RX10 171 yX8_findFact ∈ lw_tbl := pk_t8 _ (List.mem_of_getElem? (i := 182) rfl)
set_option maxRecDepth 100000 in
theorem gw576 : Cond.methodLink RX10 178 yX4_find ∈ lw_tbl := pk_t8 _ (List.mem_of_getElem? (i := 180) rfl)
set_option maxRecDepth 100000 in
theorem gw577 : Cond.methodLink RX11 79 yX11_wordPattern ∈ lw_tbl := pk_t7 _ (List.mem_of_getElem? (i := 36) rfl)
set_option maxRecDepth 100000 in
theorem gw578 : Cond.code yX9_putFour cX9_putFour 2 none ∈ lw_tbl := pk_t6 _ (List.mem_of_getElem? (i := 177) rfl)
set_option maxRecDepth 100000 in
theorem gw579 : Cond.methodLink RX12 111 yX9_putFour ∈ lw_tbl := pk_t6 _ (List.mem_of_getElem? (i := 174) rfl)
set_option maxRecDepth 100000 in
theorem gw580 : Cond.instanceMethod yX9_putFour ∈ lw_tbl := pk_t6 _ (List.mem_of_getElem? (i := 175) rfl)
set_option maxRecDepth 100000 in
theorem gw581 : Cond.selects "TongueHouse$Text" yX9_putFour yX9_putFour ∈ lw_tbl := pk_t6 _ (List.mem_of_getElem? (i := 176) rfl)
set_option maxRecDepth 100000 in
theorem gw582 : Cond.code yX6_begin cX6_begin 1 none ∈ lw_tbl := pk_t3 _ (List.mem_of_getElem? (i := 214) rfl)
set_option maxRecDepth 100000 in
theorem gw583 : Cond.methodLink RX12 120 yX6_begin ∈ lw_tbl := pk_t3 _ (List.mem_of_getElem? (i := 211) rfl)
set_option maxRecDepth 100000 in
theorem gw584 : Cond.instanceMethod yX6_begin ∈ lw_tbl := pk_t3 _ (List.mem_of_getElem? (i := 212) rfl)
set_option maxRecDepth 100000 in
theorem gw585 : Cond.selects "TongueHouse$Reader" yX6_begin yX6_begin ∈ lw_tbl := pk_t3 _ (List.mem_of_getElem? (i := 213) rfl)
set_option maxRecDepth 100000 in
theorem gw586 : Cond.code yX6_readStatement cX6_readStatement 4 (some .boolean) ∈ lw_tbl := pk_t4 _ (List.mem_of_getElem? (i := 15) rfl)
set_option maxRecDepth 100000 in
theorem gw587 : Cond.methodLink RX12 126 yX6_readStatement ∈ lw_tbl := pk_t4 _ (List.mem_of_getElem? (i := 12) rfl)
set_option maxRecDepth 100000 in
theorem gw588 : Cond.instanceMethod yX6_readStatement ∈ lw_tbl := pk_t4 _ (List.mem_of_getElem? (i := 13) rfl)
set_option maxRecDepth 100000 in
theorem gw589 : Cond.selects "TongueHouse$Reader" yX6_readStatement yX6_readStatement ∈ lw_tbl := pk_t4 _ (List.mem_of_getElem? (i := 14) rfl)
set_option maxRecDepth 100000 in
theorem gw590 : Cond.code yX8_restore cX8_restore 2 none ∈ lw_tbl := pk_t5 _ (List.mem_of_getElem? (i := 229) rfl)
set_option maxRecDepth 100000 in
theorem gw591 : Cond.methodLink RX12 130 yX8_restore ∈ lw_tbl := pk_t5 _ (List.mem_of_getElem? (i := 226) rfl)
set_option maxRecDepth 100000 in
theorem gw592 : Cond.instanceMethod yX8_restore ∈ lw_tbl := pk_t5 _ (List.mem_of_getElem? (i := 227) rfl)
set_option maxRecDepth 100000 in
theorem gw593 : Cond.selects "TongueHouse$Store" yX8_restore yX8_restore ∈ lw_tbl := pk_t5 _ (List.mem_of_getElem? (i := 228) rfl)
set_option maxRecDepth 100000 in
theorem gw594 : Cond.code yX12_tongueAt cX12_tongueAt 2 (some (.object "TongueHouse$Tongue")) ∈ lw_tbl := pk_t6 _ (List.mem_of_getElem? (i := 213) rfl)
set_option maxRecDepth 100000 in
theorem gw595 : Cond.methodLink RX12 155 yX12_tongueAt ∈ lw_tbl := pk_t6 _ (List.mem_of_getElem? (i := 210) rfl)
set_option maxRecDepth 100000 in
theorem gw596 : Cond.instanceMethod yX12_tongueAt ∈ lw_tbl := pk_t6 _ (List.mem_of_getElem? (i := 212) rfl)
set_option maxRecDepth 100000 in
theorem gw597 : Cond.selects "TongueHouse" yX12_tongueAt yX12_tongueAt ∈ lw_tbl := List.mem_append_left _ (List.mem_of_getElem? (i := 56) (by decide +kernel))
set_option maxRecDepth 100000 in
theorem gw598 : Cond.initialized "TongueHouse" ∈ lw_tbl := pk_t1 _ (List.mem_of_getElem? (i := 1) rfl)
set_option maxRecDepth 100000 in
theorem gw599 : Cond.code yX11_namesOf cX11_namesOf 2 (some (.object "TongueHouse$Names")) ∈ lw_tbl := pk_t6 _ (List.mem_of_getElem? (i := 218) rfl)
