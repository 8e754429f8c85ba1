set_option maxRecDepth 100000 in
theorem gw600 : Cond.methodLink RX12 159 yX11_namesOf ∈ lw_tbl := pk_t6 _ (List.mem_of_getElem? (i := 215) rfl)
set_option maxRecDepth 100000 in
theorem gw601 : Cond.instanceMethod yX11_namesOf ∈ lw_tbl := pk_t6 _ (List.mem_of_getElem? (i := 216) rfl)
set_option maxRecDepth 100000 in
theorem gw602 : Cond.selects "TongueHouse$Tongue" yX11_namesOf yX11_namesOf ∈ lw_tbl := pk_t6 _ (List.mem_of_getElem? (i := 217) rfl)
set_option maxRecDepth 100000 in
theorem gw603 : Cond.code yX9_onlyName cX9_onlyName 3 (some .long) ∈ lw_tbl := pk_t6 _ (List.mem_of_getElem? (i := 222) rfl)
set_option maxRecDepth 100000 in
theorem gw604 : Cond.methodLink RX12 165 yX9_onlyName ∈ lw_tbl := pk_t6 _ (List.mem_of_getElem? (i := 219) rfl)
set_option maxRecDepth 100000 in
theorem gw605 : Cond.instanceMethod yX9_onlyName ∈ lw_tbl := pk_t6 _ (List.mem_of_getElem? (i := 220) rfl)
set_option maxRecDepth 100000 in
theorem gw606 : Cond.selects "TongueHouse$Text" yX9_onlyName yX9_onlyName ∈ lw_tbl := pk_t6 _ (List.mem_of_getElem? (i := 221) rfl)
set_option maxRecDepth 100000 in
theorem gw607 : Cond.methodLink RX12 169 yX4_find ∈ lw_tbl := pk_t6 _ (List.mem_of_getElem? (i := 224) rfl)
set_option maxRecDepth 100000 in
theorem gw608 : Cond.methodLink RX12 175 yX9_isWord ∈ lw_tbl := pk_t6 _ (List.mem_of_getElem? (i := 232) rfl)
set_option maxRecDepth 100000 in
theorem gw609 : Cond.code yX2_soundWord cX2_soundWord 3 (some .int) ∈ lw_tbl := pk_t6 _ (List.mem_of_getElem? (i := 239) rfl)
set_option maxRecDepth 100000 in
theorem gw610 : Cond.methodLink RX12 182 yX2_soundWord ∈ lw_tbl := pk_t6 _ (List.mem_of_getElem? (i := 236) rfl)
set_option maxRecDepth 100000 in
theorem gw611 : Cond.instanceMethod yX2_soundWord ∈ lw_tbl := pk_t6 _ (List.mem_of_getElem? (i := 237) rfl)
set_option maxRecDepth 100000 in
theorem gw612 : Cond.selects "TongueHouse$Forms" yX2_soundWord yX2_soundWord ∈ lw_tbl := pk_t6 _ (List.mem_of_getElem? (i := 238) rfl)
set_option maxRecDepth 100000 in
theorem gw613 : Cond.methodLink RX12 191 yX9_putBytes ∈ lw_tbl := pk_t6 _ (List.mem_of_getElem? (i := 92) rfl)
set_option maxRecDepth 100000 in
theorem gw614 : Cond.code yX2_build cX2_build 7 none ∈ lw_tbl := pk_t7 _ (List.mem_of_getElem? (i := 31) rfl)
set_option maxRecDepth 100000 in
theorem gw615 : Cond.methodLink RX12 195 yX2_build ∈ lw_tbl := pk_t7 _ (List.mem_of_getElem? (i := 28) rfl)
set_option maxRecDepth 100000 in
theorem gw616 : Cond.instanceMethod yX2_build ∈ lw_tbl := pk_t7 _ (List.mem_of_getElem? (i := 29) rfl)
set_option maxRecDepth 100000 in
theorem gw617 : Cond.selects "TongueHouse$Forms" yX2_build yX2_build ∈ lw_tbl := pk_t7 _ (List.mem_of_getElem? (i := 30) rfl)
set_option maxRecDepth 100000 in
theorem gw618 : Cond.code yX1_noteAnalyses cX1_noteAnalyses 4 (some .int) ∈ lw_tbl := pk_t7 _ (List.mem_of_getElem? (i := 51) rfl)
set_option maxRecDepth 100000 in
theorem gw619 : Cond.methodLink RX12 199 yX1_noteAnalyses ∈ lw_tbl := pk_t7 _ (List.mem_of_getElem? (i := 48) rfl)
set_option maxRecDepth 100000 in
theorem gw620 : Cond.instanceMethod yX1_noteAnalyses ∈ lw_tbl := pk_t7 _ (List.mem_of_getElem? (i := 49) rfl)
set_option maxRecDepth 100000 in
theorem gw621 : Cond.selects "TongueHouse$Finder" yX1_noteAnalyses yX1_noteAnalyses ∈ lw_tbl := pk_t7 _ (List.mem_of_getElem? (i := 50) rfl)
set_option maxRecDepth 100000 in
theorem gw622 : Cond.code yX1_tellAnalysis cX1_tellAnalysis 6 (some .int) ∈ lw_tbl := pk_t7 _ (List.mem_of_getElem? (i := 72) rfl)
set_option maxRecDepth 100000 in
theorem gw623 : Cond.methodLink RX12 203 yX1_tellAnalysis ∈ lw_tbl := pk_t7 _ (List.mem_of_getElem? (i := 69) rfl)
set_option maxRecDepth 100000 in
theorem gw624 : Cond.instanceMethod yX1_tellAnalysis ∈ lw_tbl := pk_t7 _ (List.mem_of_getElem? (i := 70) rfl)
set_option maxRecDepth 100000 in
theorem gw625 : Cond.selects "TongueHouse$Finder" yX1_tellAnalysis yX1_tellAnalysis ∈ lw_tbl := pk_t7 _ (List.mem_of_getElem? (i := 71) rfl)
set_option maxRecDepth 100000 in
theorem gw626 : Cond.methodLink RX12 212 yX11_cellsOf ∈ lw_tbl := pk_t7 _ (List.mem_of_getElem? (i := 88) rfl)
set_option maxRecDepth 100000 in
theorem gw627 : Cond.code yX1_noteGuesses cX1_noteGuesses 4 (some .int) ∈ lw_tbl := pk_t7 _ (List.mem_of_getElem? (i := 100) rfl)
set_option maxRecDepth 100000 in
theorem gw628 : Cond.methodLink RX12 223 yX1_noteGuesses ∈ lw_tbl := pk_t7 _ (List.mem_of_getElem? (i := 97) rfl)
set_option maxRecDepth 100000 in
theorem gw629 : Cond.instanceMethod yX1_noteGuesses ∈ lw_tbl := pk_t7 _ (List.mem_of_getElem? (i := 98) rfl)
set_option maxRecDepth 100000 in
theorem gw630 : Cond.selects "TongueHouse$Finder" yX1_noteGuesses yX1_noteGuesses ∈ lw_tbl := pk_t7 _ (List.mem_of_getElem? (i := 99) rfl)
set_option maxRecDepth 100000 in
theorem gw631 : Cond.code yX1_tellGuess cX1_tellGuess 3 (some .int) ∈ lw_tbl := pk_t7 _ (List.mem_of_getElem? (i := 120) rfl)
set_option maxRecDepth 100000 in
theorem gw632 : Cond.methodLink RX12 226 yX1_tellGuess ∈ lw_tbl := pk_t7 _ (List.mem_of_getElem? (i := 117) rfl)
set_option maxRecDepth 100000 in
theorem gw633 : Cond.instanceMethod yX1_tellGuess ∈ lw_tbl := pk_t7 _ (List.mem_of_getElem? (i := 118) rfl)
set_option maxRecDepth 100000 in
theorem gw634 : Cond.selects "TongueHouse$Finder" yX1_tellGuess yX1_tellGuess ∈ lw_tbl := pk_t7 _ (List.mem_of_getElem? (i := 119) rfl)
set_option maxRecDepth 100000 in
theorem gw635 : Cond.code yX12_checkKind cX12_checkKind 2 none ∈ lw_tbl := pk_t7 _ (List.mem_of_getElem? (i := 131) rfl)
set_option maxRecDepth 100000 in
theorem gw636 : Cond.methodLink RX12 229 yX12_checkKind ∈ lw_tbl := pk_t7 _ (List.mem_of_getElem? (i := 128) rfl)
set_option maxRecDepth 100000 in
theorem gw637 : Cond.instanceMethod yX12_checkKind ∈ lw_tbl := pk_t7 _ (List.mem_of_getElem? (i := 130) rfl)
set_option maxRecDepth 100000 in
theorem gw638 : Cond.selects "TongueHouse" yX12_checkKind yX12_checkKind ∈ lw_tbl := List.mem_append_left _ (List.mem_of_getElem? (i := 64) (by decide +kernel))
set_option maxRecDepth 100000 in
theorem gw639 : Cond.code yX12_parseTape cX12_parseTape 4 (some .int) ∈ lw_tbl := pk_t7 _ (List.mem_of_getElem? (i := 136) rfl)
set_option maxRecDepth 100000 in
theorem gw640 : Cond.methodLink RX12 232 yX12_parseTape ∈ lw_tbl := pk_t7 _ (List.mem_of_getElem? (i := 133) rfl)
set_option maxRecDepth 100000 in
theorem gw641 : Cond.instanceMethod yX12_parseTape ∈ lw_tbl := pk_t7 _ (List.mem_of_getElem? (i := 135) rfl)
set_option maxRecDepth 100000 in
theorem gw642 : Cond.selects "TongueHouse" yX12_parseTape yX12_parseTape ∈ lw_tbl := List.mem_append_left _ (List.mem_of_getElem? (i := 65) (by decide +kernel))
set_option maxRecDepth 100000 in
theorem gw643 : Cond.code yX5_total cX5_total 5 (some .long) ∈ lw_tbl := pk_t6 _ (List.mem_of_getElem? (i := 9) rfl)
set_option maxRecDepth 100000 in
theorem gw644 : Cond.methodLink RX12 236 yX5_total ∈ lw_tbl := pk_t6 _ (List.mem_of_getElem? (i := 6) rfl)
set_option maxRecDepth 100000 in
theorem gw645 : Cond.instanceMethod yX5_total ∈ lw_tbl := pk_t6 _ (List.mem_of_getElem? (i := 7) rfl)
set_option maxRecDepth 100000 in
theorem gw646 : Cond.selects "TongueHouse$Ranking" yX5_total yX5_total ∈ lw_tbl := pk_t6 _ (List.mem_of_getElem? (i := 8) rfl)
set_option maxRecDepth 100000 in
theorem gw647 : Cond.code yX5_setBarred cX5_setBarred 3 none ∈ lw_tbl := pk_t7 _ (List.mem_of_getElem? (i := 212) rfl)
set_option maxRecDepth 100000 in
theorem gw648 : Cond.methodLink RX12 242 yX5_setBarred ∈ lw_tbl := pk_t7 _ (List.mem_of_getElem? (i := 209) rfl)
set_option maxRecDepth 100000 in
theorem gw649 : Cond.instanceMethod yX5_setBarred ∈ lw_tbl := pk_t7 _ (List.mem_of_getElem? (i := 210) rfl)
set_option maxRecDepth 100000 in
theorem gw650 : Cond.selects "TongueHouse$Ranking" yX5_setBarred yX5_setBarred ∈ lw_tbl := pk_t7 _ (List.mem_of_getElem? (i := 211) rfl)
set_option maxRecDepth 100000 in
theorem gw651 : Cond.code yX5_priceOf cX5_priceOf 2 (some .int) ∈ lw_tbl := pk_t6 _ (List.mem_of_getElem? (i := 36) rfl)
set_option maxRecDepth 100000 in
theorem gw652 : Cond.methodLink RX12 246 yX5_priceOf ∈ lw_tbl := pk_t6 _ (List.mem_of_getElem? (i := 33) rfl)
set_option maxRecDepth 100000 in
theorem gw653 : Cond.instanceMethod yX5_priceOf ∈ lw_tbl := pk_t6 _ (List.mem_of_getElem? (i := 34) rfl)
set_option maxRecDepth 100000 in
theorem gw654 : Cond.selects "TongueHouse$Ranking" yX5_priceOf yX5_priceOf ∈ lw_tbl := pk_t6 _ (List.mem_of_getElem? (i := 35) rfl)
set_option maxRecDepth 100000 in
theorem gw655 : Cond.code yX5_spell cX5_spell 11 (some .int) ∈ lw_tbl := pk_t7 _ (List.mem_of_getElem? (i := 227) rfl)
set_option maxRecDepth 100000 in
theorem gw656 : Cond.methodLink RX12 252 yX5_spell ∈ lw_tbl := pk_t7 _ (List.mem_of_getElem? (i := 224) rfl)
set_option maxRecDepth 100000 in
theorem gw657 : Cond.instanceMethod yX5_spell ∈ lw_tbl := pk_t7 _ (List.mem_of_getElem? (i := 225) rfl)
set_option maxRecDepth 100000 in
theorem gw658 : Cond.selects "TongueHouse$Ranking" yX5_spell yX5_spell ∈ lw_tbl := pk_t7 _ (List.mem_of_getElem? (i := 226) rfl)
set_option maxRecDepth 100000 in
theorem gw659 : Cond.code yX6_readTree cX6_readTree 5 (some .int) ∈ lw_tbl := pk_t7 _ (List.mem_of_getElem? (i := 239) rfl)
set_option maxRecDepth 100000 in
theorem gw660 : Cond.methodLink RX12 262 yX6_readTree ∈ lw_tbl := pk_t7 _ (List.mem_of_getElem? (i := 236) rfl)
set_option maxRecDepth 100000 in
theorem gw661 : Cond.instanceMethod yX6_readTree ∈ lw_tbl := pk_t7 _ (List.mem_of_getElem? (i := 237) rfl)
set_option maxRecDepth 100000 in
theorem gw662 : Cond.selects "TongueHouse$Reader" yX6_readTree yX6_readTree ∈ lw_tbl := pk_t7 _ (List.mem_of_getElem? (i := 238) rfl)
set_option maxRecDepth 100000 in
theorem gw663 : Cond.code yX8_writeTree cX8_writeTree 6 none ∈ lw_tbl := pk_t8 _ (List.mem_of_getElem? (i := 18) rfl)
set_option maxRecDepth 100000 in
theorem gw664 : Cond.methodLink RX12 266 yX8_writeTree ∈ lw_tbl := pk_t8 _ (List.mem_of_getElem? (i := 15) rfl)
set_option maxRecDepth 100000 in
theorem gw665 : Cond.instanceMethod yX8_writeTree ∈ lw_tbl := pk_t8 _ (List.mem_of_getElem? (i := 16) rfl)
set_option maxRecDepth 100000 in
theorem gw666 : Cond.selects "TongueHouse$Store" yX8_writeTree yX8_writeTree ∈ lw_tbl := pk_t8 _ (List.mem_of_getElem? (i := 17) rfl)
set_option maxRecDepth 100000 in
theorem gw667 : Cond.code yX7_findOptions cX7_findOptions 4 (some .int) ∈ lw_tbl := pk_t8 _ (List.mem_of_getElem? (i := 41) rfl)
set_option maxRecDepth 100000 in
theorem gw668 : Cond.methodLink RX12 270 yX7_findOptions ∈ lw_tbl := pk_t8 _ (List.mem_of_getElem? (i := 38) rfl)
set_option maxRecDepth 100000 in
theorem gw669 : Cond.instanceMethod yX7_findOptions ∈ lw_tbl := pk_t8 _ (List.mem_of_getElem? (i := 39) rfl)
set_option maxRecDepth 100000 in
theorem gw670 : Cond.selects "TongueHouse$Sayer" yX7_findOptions yX7_findOptions ∈ lw_tbl := pk_t8 _ (List.mem_of_getElem? (i := 40) rfl)
set_option maxRecDepth 100000 in
theorem gw671 : Cond.code yX7_write cX7_write 10 none ∈ lw_tbl := pk_t8 _ (List.mem_of_getElem? (i := 76) rfl)
set_option maxRecDepth 100000 in
theorem gw672 : Cond.methodLink RX12 274 yX7_write ∈ lw_tbl := pk_t8 _ (List.mem_of_getElem? (i := 73) rfl)
set_option maxRecDepth 100000 in
theorem gw673 : Cond.instanceMethod yX7_write ∈ lw_tbl := pk_t8 _ (List.mem_of_getElem? (i := 74) rfl)
set_option maxRecDepth 100000 in
theorem gw674 : Cond.selects "TongueHouse$Sayer" yX7_write yX7_write ∈ lw_tbl := pk_t8 _ (List.mem_of_getElem? (i := 75) rfl)
set_option maxRecDepth 100000 in
theorem gw675 : Cond.code yX12_meaningOf cX12_meaningOf 2 (some .int) ∈ lw_tbl := pk_t8 _ (List.mem_of_getElem? (i := 92) rfl)
set_option maxRecDepth 100000 in
theorem gw676 : Cond.methodLink RX12 278 yX12_meaningOf ∈ lw_tbl := pk_t8 _ (List.mem_of_getElem? (i := 89) rfl)
set_option maxRecDepth 100000 in
theorem gw677 : Cond.instanceMethod yX12_meaningOf ∈ lw_tbl := pk_t8 _ (List.mem_of_getElem? (i := 91) rfl)
set_option maxRecDepth 100000 in
theorem gw678 : Cond.selects "TongueHouse" yX12_meaningOf yX12_meaningOf ∈ lw_tbl := List.mem_append_left _ (List.mem_of_getElem? (i := 78) (by decide +kernel))
set_option maxRecDepth 100000 in
theorem gw679 : Cond.code yX10_tell cX10_tell 6 none ∈ lw_tbl := pk_t8 _ (List.mem_of_getElem? (i := 127) rfl)
set_option maxRecDepth 100000 in
theorem gw680 : Cond.methodLink RX12 281 yX10_tell ∈ lw_tbl := pk_t8 _ (List.mem_of_getElem? (i := 124) rfl)
set_option maxRecDepth 100000 in
theorem gw681 : Cond.instanceMethod yX10_tell ∈ lw_tbl := pk_t8 _ (List.mem_of_getElem? (i := 125) rfl)
set_option maxRecDepth 100000 in
theorem gw682 : Cond.selects "TongueHouse$Thought" yX10_tell yX10_tell ∈ lw_tbl := pk_t8 _ (List.mem_of_getElem? (i := 126) rfl)
set_option maxRecDepth 100000 in
theorem gw683 : Cond.code yX10_judge cX10_judge 4 (some .int) ∈ lw_tbl := pk_t8 _ (List.mem_of_getElem? (i := 149) rfl)
set_option maxRecDepth 100000 in
theorem gw684 : Cond.methodLink RX12 285 yX10_judge ∈ lw_tbl := pk_t8 _ (List.mem_of_getElem? (i := 146) rfl)
set_option maxRecDepth 100000 in
theorem gw685 : Cond.instanceMethod yX10_judge ∈ lw_tbl := pk_t8 _ (List.mem_of_getElem? (i := 147) rfl)
set_option maxRecDepth 100000 in
theorem gw686 : Cond.selects "TongueHouse$Thought" yX10_judge yX10_judge ∈ lw_tbl := pk_t8 _ (List.mem_of_getElem? (i := 148) rfl)
set_option maxRecDepth 100000 in
theorem gw687 : Cond.code yX12_noteCandidate cX12_noteCandidate 2 none ∈ lw_tbl := pk_t8 _ (List.mem_of_getElem? (i := 193) rfl)
set_option maxRecDepth 100000 in
theorem gw688 : Cond.methodLink RX12 292 yX12_noteCandidate ∈ lw_tbl := pk_t8 _ (List.mem_of_getElem? (i := 190) rfl)
set_option maxRecDepth 100000 in
theorem gw689 : Cond.instanceMethod yX12_noteCandidate ∈ lw_tbl := pk_t8 _ (List.mem_of_getElem? (i := 192) rfl)
set_option maxRecDepth 100000 in
theorem gw690 : Cond.selects "TongueHouse" yX12_noteCandidate yX12_noteCandidate ∈ lw_tbl := List.mem_append_left _ (List.mem_of_getElem? (i := 92) (by decide +kernel))
set_option maxRecDepth 100000 in
theorem gw691 : Cond.code yX1_isFull cX1_isFull 1 (some .boolean) ∈ lw_tbl := pk_t8 _ (List.mem_of_getElem? (i := 208) rfl)
set_option maxRecDepth 100000 in
theorem gw692 : Cond.methodLink RX12 295 yX1_isFull ∈ lw_tbl := pk_t8 _ (List.mem_of_getElem? (i := 205) rfl)
set_option maxRecDepth 100000 in
theorem gw693 : Cond.instanceMethod yX1_isFull ∈ lw_tbl := pk_t8 _ (List.mem_of_getElem? (i := 206) rfl)
set_option maxRecDepth 100000 in
theorem gw694 : Cond.selects "TongueHouse$Finder" yX1_isFull yX1_isFull ∈ lw_tbl := pk_t8 _ (List.mem_of_getElem? (i := 207) rfl)
set_option maxRecDepth 100000 in
theorem gw695 : Cond.methodLink RX12 300 yX9_split ∈ lw_tbl := pk_t7 _ (List.mem_of_getElem? (i := 145) rfl)
set_option maxRecDepth 100000 in
theorem gw696 : Cond.code yX1_collect cX1_collect 3 (some .int) ∈ lw_tbl := pk_t8 _ (List.mem_of_getElem? (i := 213) rfl)
set_option maxRecDepth 100000 in
theorem gw697 : Cond.methodLink RX12 303 yX1_collect ∈ lw_tbl := pk_t8 _ (List.mem_of_getElem? (i := 210) rfl)
set_option maxRecDepth 100000 in
theorem gw698 : Cond.instanceMethod yX1_collect ∈ lw_tbl := pk_t8 _ (List.mem_of_getElem? (i := 211) rfl)
set_option maxRecDepth 100000 in
theorem gw699 : Cond.selects "TongueHouse$Finder" yX1_collect yX1_collect ∈ lw_tbl := pk_t8 _ (List.mem_of_getElem? (i := 212) rfl)
set_option maxRecDepth 100000 in
theorem gw700 : Cond.code yX1_search cX1_search 5 (some .int) ∈ lw_tbl := pk_t8 _ (List.mem_of_getElem? (i := 236) rfl)
set_option maxRecDepth 100000 in
theorem gw701 : Cond.methodLink RX12 307 yX1_search ∈ lw_tbl := pk_t8 _ (List.mem_of_getElem? (i := 233) rfl)
set_option maxRecDepth 100000 in
theorem gw702 : Cond.instanceMethod yX1_search ∈ lw_tbl := pk_t8 _ (List.mem_of_getElem? (i := 234) rfl)
set_option maxRecDepth 100000 in
theorem gw703 : Cond.selects "TongueHouse$Finder" yX1_search yX1_search ∈ lw_tbl := pk_t8 _ (List.mem_of_getElem? (i := 235) rfl)
set_option maxRecDepth 100000 in
theorem gw704 : Cond.code yX1_tellHit cX1_tellHit 3 (some .int) ∈ lw_tbl := pk_t9 _ (List.mem_of_getElem? (i := 29) rfl)
set_option maxRecDepth 100000 in
theorem gw705 : Cond.methodLink RX12 310 yX1_tellHit ∈ lw_tbl := pk_t9 _ (List.mem_of_getElem? (i := 26) rfl)
set_option maxRecDepth 100000 in
theorem gw706 : Cond.instanceMethod yX1_tellHit ∈ lw_tbl := pk_t9 _ (List.mem_of_getElem? (i := 27) rfl)
set_option maxRecDepth 100000 in
theorem gw707 : Cond.selects "TongueHouse$Finder" yX1_tellHit yX1_tellHit ∈ lw_tbl := pk_t9 _ (List.mem_of_getElem? (i := 28) rfl)
set_option maxRecDepth 100000 in
theorem gw708 : Cond.code yX5_close cX5_close 1 none ∈ lw_tbl := pk_t7 _ (List.mem_of_getElem? (i := 140) rfl)
set_option maxRecDepth 100000 in
theorem gw709 : Cond.methodLink RX12 313 yX5_close ∈ lw_tbl := pk_t7 _ (List.mem_of_getElem? (i := 137) rfl)
set_option maxRecDepth 100000 in
theorem gw710 : Cond.instanceMethod yX5_close ∈ lw_tbl := pk_t7 _ (List.mem_of_getElem? (i := 138) rfl)
set_option maxRecDepth 100000 in
theorem gw711 : Cond.selects "TongueHouse$Ranking" yX5_close yX5_close ∈ lw_tbl := pk_t7 _ (List.mem_of_getElem? (i := 139) rfl)
set_option maxRecDepth 100000 in
theorem gw712 : Cond.methodLink RX12 316 yX0_forget ∈ lw_tbl := pk_t7 _ (List.mem_of_getElem? (i := 141) rfl)
set_option maxRecDepth 100000 in
theorem gw713 : Cond.code yX9_putWords cX9_putWords 2 none ∈ lw_tbl := pk_t9 _ (List.mem_of_getElem? (i := 40) rfl)
set_option maxRecDepth 100000 in
theorem gw714 : Cond.methodLink RX12 322 yX9_putWords ∈ lw_tbl := pk_t9 _ (List.mem_of_getElem? (i := 37) rfl)
set_option maxRecDepth 100000 in
theorem gw715 : Cond.instanceMethod yX9_putWords ∈ lw_tbl := pk_t9 _ (List.mem_of_getElem? (i := 38) rfl)
set_option maxRecDepth 100000 in
theorem gw716 : Cond.selects "TongueHouse$Text" yX9_putWords yX9_putWords ∈ lw_tbl := pk_t9 _ (List.mem_of_getElem? (i := 39) rfl)
set_option maxRecDepth 100000 in
theorem gw717 : Cond.code yX0_forgetTries cX0_forgetTries 1 none ∈ lw_tbl := pk_t7 _ (List.mem_of_getElem? (i := 152) rfl)
set_option maxRecDepth 100000 in
theorem gw718 : Cond.methodLink RX12 325 yX0_forgetTries ∈ lw_tbl := pk_t7 _ (List.mem_of_getElem? (i := 149) rfl)
set_option maxRecDepth 100000 in
theorem gw719 : Cond.instanceMethod yX0_forgetTries ∈ lw_tbl := pk_t7 _ (List.mem_of_getElem? (i := 150) rfl)
set_option maxRecDepth 100000 in
theorem gw720 : Cond.selects "TongueHouse$Chart" yX0_forgetTries yX0_forgetTries ∈ lw_tbl := pk_t7 _ (List.mem_of_getElem? (i := 151) rfl)
set_option maxRecDepth 100000 in
theorem gw721 : Cond.code yX0_fill cX0_fill 9 (some .int) ∈ lw_tbl := pk_t7 _ (List.mem_of_getElem? (i := 156) rfl)
set_option maxRecDepth 100000 in
theorem gw722 : Cond.methodLink RX12 328 yX0_fill ∈ lw_tbl := pk_t7 _ (List.mem_of_getElem? (i := 153) rfl)
set_option maxRecDepth 100000 in
theorem gw723 : Cond.instanceMethod yX0_fill ∈ lw_tbl := pk_t7 _ (List.mem_of_getElem? (i := 154) rfl)
set_option maxRecDepth 100000 in
theorem gw724 : Cond.selects "TongueHouse$Chart" yX0_fill yX0_fill ∈ lw_tbl := pk_t7 _ (List.mem_of_getElem? (i := 155) rfl)
set_option maxRecDepth 100000 in
theorem gw725 : Cond.code yX12_listChanges cX12_listChanges 11 (some .int) ∈ lw_tbl := pk_t9 _ (List.mem_of_getElem? (i := 49) rfl)
set_option maxRecDepth 100000 in
theorem gw726 : Cond.methodLink RX12 332 yX12_listChanges ∈ lw_tbl := pk_t9 _ (List.mem_of_getElem? (i := 46) rfl)
set_option maxRecDepth 100000 in
theorem gw727 : Cond.instanceMethod yX12_listChanges ∈ lw_tbl := pk_t9 _ (List.mem_of_getElem? (i := 48) rfl)
set_option maxRecDepth 100000 in
theorem gw728 : Cond.selects "TongueHouse" yX12_listChanges yX12_listChanges ∈ lw_tbl := List.mem_append_left _ (List.mem_of_getElem? (i := 97) (by decide +kernel))
set_option maxRecDepth 100000 in
theorem gw729 : Cond.code yX12_writeChange cX12_writeChange 6 none ∈ lw_tbl := pk_t9 _ (List.mem_of_getElem? (i := 61) rfl)
set_option maxRecDepth 100000 in
theorem gw730 : Cond.methodLink RX12 336 yX12_writeChange ∈ lw_tbl := pk_t9 _ (List.mem_of_getElem? (i := 58) rfl)
set_option maxRecDepth 100000 in
theorem gw731 : Cond.instanceMethod yX12_writeChange ∈ lw_tbl := pk_t9 _ (List.mem_of_getElem? (i := 60) rfl)
set_option maxRecDepth 100000 in
theorem gw732 : Cond.selects "TongueHouse" yX12_writeChange yX12_writeChange ∈ lw_tbl := List.mem_append_left _ (List.mem_of_getElem? (i := 98) (by decide +kernel))
set_option maxRecDepth 100000 in
theorem gw733 : Cond.code yX5_open cX5_open 3 none ∈ lw_tbl := pk_t7 _ (List.mem_of_getElem? (i := 200) rfl)
set_option maxRecDepth 100000 in
theorem gw734 : Cond.methodLink RX12 340 yX5_open ∈ lw_tbl := pk_t7 _ (List.mem_of_getElem? (i := 197) rfl)
set_option maxRecDepth 100000 in
theorem gw735 : Cond.instanceMethod yX5_open ∈ lw_tbl := pk_t7 _ (List.mem_of_getElem? (i := 198) rfl)
set_option maxRecDepth 100000 in
theorem gw736 : Cond.selects "TongueHouse$Ranking" yX5_open yX5_open ∈ lw_tbl := pk_t7 _ (List.mem_of_getElem? (i := 199) rfl)
set_option maxRecDepth 100000 in
theorem gw737 : Cond.code yX11_sizeOf cX11_sizeOf 2 (some .int) ∈ lw_tbl := pk_t9 _ (List.mem_of_getElem? (i := 74) rfl)
set_option maxRecDepth 100000 in
theorem gw738 : Cond.methodLink RX12 343 yX11_sizeOf ∈ lw_tbl := pk_t9 _ (List.mem_of_getElem? (i := 71) rfl)
set_option maxRecDepth 100000 in
theorem gw739 : Cond.instanceMethod yX11_sizeOf ∈ lw_tbl := pk_t9 _ (List.mem_of_getElem? (i := 72) rfl)
set_option maxRecDepth 100000 in
theorem gw740 : Cond.selects "TongueHouse$Tongue" yX11_sizeOf yX11_sizeOf ∈ lw_tbl := pk_t9 _ (List.mem_of_getElem? (i := 73) rfl)
set_option maxRecDepth 100000 in
theorem gw741 : Cond.code yX8_sizeOf cX8_sizeOf 2 (some .int) ∈ lw_tbl := pk_t9 _ (List.mem_of_getElem? (i := 78) rfl)
set_option maxRecDepth 100000 in
theorem gw742 : Cond.methodLink RX12 355 yX8_sizeOf ∈ lw_tbl := pk_t9 _ (List.mem_of_getElem? (i := 75) rfl)
set_option maxRecDepth 100000 in
theorem gw743 : Cond.instanceMethod yX8_sizeOf ∈ lw_tbl := pk_t9 _ (List.mem_of_getElem? (i := 76) rfl)
set_option maxRecDepth 100000 in
theorem gw744 : Cond.selects "TongueHouse$Store" yX8_sizeOf yX8_sizeOf ∈ lw_tbl := pk_t9 _ (List.mem_of_getElem? (i := 77) rfl)
set_option maxRecDepth 100000 in
theorem gw745 : Cond.code yX10_ponder cX10_ponder 4 (some .int) ∈ lw_tbl := pk_t8 _ (List.mem_of_getElem? (i := 96) rfl)
set_option maxRecDepth 100000 in
theorem gw746 : Cond.methodLink RX12 366 yX10_ponder ∈ lw_tbl := pk_t8 _ (List.mem_of_getElem? (i := 93) rfl)
set_option maxRecDepth 100000 in
theorem gw747 : Cond.instanceMethod yX10_ponder ∈ lw_tbl := pk_t8 _ (List.mem_of_getElem? (i := 94) rfl)
set_option maxRecDepth 100000 in
theorem gw748 : Cond.selects "TongueHouse$Thought" yX10_ponder yX10_ponder ∈ lw_tbl := pk_t8 _ (List.mem_of_getElem? (i := 95) rfl)
set_option maxRecDepth 100000 in
theorem gw749 : Cond.code yX9_equalsBytes cX9_equalsBytes 4 (some .boolean) ∈ lw_tbl := pk_t8 _ (List.mem_of_getElem? (i := 197) rfl)
set_option maxRecDepth 100000 in
theorem gw750 : Cond.methodLink RX12 370 yX9_equalsBytes ∈ lw_tbl := pk_t8 _ (List.mem_of_getElem? (i := 194) rfl)
set_option maxRecDepth 100000 in
theorem gw751 : Cond.instanceMethod yX9_equalsBytes ∈ lw_tbl := pk_t8 _ (List.mem_of_getElem? (i := 195) rfl)
set_option maxRecDepth 100000 in
theorem gw752 : Cond.selects "TongueHouse$Text" yX9_equalsBytes yX9_equalsBytes ∈ lw_tbl := pk_t8 _ (List.mem_of_getElem? (i := 196) rfl)
set_option maxRecDepth 100000 in
theorem gw753 : Cond.methodLink RX12 380 yX2_findSame ∈ lw_tbl := pk_t9 _ (List.mem_of_getElem? (i := 50) rfl)
set_option maxRecDepth 100000 in
theorem gw754 : Cond.code yX2_isForm cX2_isForm 5 (some .boolean) ∈ lw_tbl := pk_t9 _ (List.mem_of_getElem? (i := 54) rfl)
set_option maxRecDepth 100000 in
theorem gw755 : Cond.methodLink RX12 387 yX2_isForm ∈ lw_tbl := pk_t9 _ (List.mem_of_getElem? (i := 51) rfl)
set_option maxRecDepth 100000 in
theorem gw756 : Cond.instanceMethod yX2_isForm ∈ lw_tbl := pk_t9 _ (List.mem_of_getElem? (i := 52) rfl)
set_option maxRecDepth 100000 in
theorem gw757 : Cond.selects "TongueHouse$Forms" yX2_isForm yX2_isForm ∈ lw_tbl := pk_t9 _ (List.mem_of_getElem? (i := 53) rfl)
set_option maxRecDepth 100000 in
theorem gw758 : Cond.methodLink RX12 394 yX9_putWordsBetween ∈ lw_tbl := pk_t9 _ (List.mem_of_getElem? (i := 62) rfl)
set_option maxRecDepth 100000 in
theorem gw759 : Cond.methodLink RX12 398 yX9_putSpaced ∈ lw_tbl := pk_t9 _ (List.mem_of_getElem? (i := 63) rfl)
set_option maxRecDepth 100000 in
theorem gw760 : Cond.code yX12_checkPlace cX12_checkPlace 1 none ∈ lw_tbl := pk_t7 _ (List.mem_of_getElem? (i := 222) rfl)
set_option maxRecDepth 100000 in
theorem gw761 : Cond.methodLink RX12 249 yX12_checkPlace ∈ lw_tbl := pk_t7 _ (List.mem_of_getElem? (i := 220) rfl)
set_option maxRecDepth 100000 in
theorem gw762 : Cond.static yX12_checkPlace ∈ lw_tbl := pk_t7 _ (List.mem_of_getElem? (i := 221) rfl)
set_option maxRecDepth 100000 in
theorem gw763 : Cond.native arraycopyName ∈ lw_tbl := pk_t3 _ (List.mem_of_getElem? (i := 225) rfl)
set_option maxRecDepth 100000 in
theorem gw764 : Cond.static arraycopyName ∈ lw_tbl := pk_t3 _ (List.mem_of_getElem? (i := 224) rfl)
set_option maxRecDepth 100000 in
theorem gw765 : Cond.initialized "java/lang/System" ∈ lw_tbl := pk_t1 _ (List.mem_of_getElem? (i := 21) rfl)
set_option maxRecDepth 100000 in
theorem gw766 : Cond.methodLink RX0 208 arraycopyName ∈ lw_tbl := pk_t7 _ (List.mem_of_getElem? (i := 177) rfl)
set_option maxRecDepth 100000 in
theorem gw767 : Cond.methodLink RX1 85 arraycopyName ∈ lw_tbl := pk_t7 _ (List.mem_of_getElem? (i := 61) rfl)
set_option maxRecDepth 100000 in
theorem gw768 : Cond.methodLink RX2 71 arraycopyName ∈ lw_tbl := pk_t7 _ (List.mem_of_getElem? (i := 0) rfl)
set_option maxRecDepth 100000 in
theorem gw769 : Cond.methodLink RX6 263 arraycopyName ∈ lw_tbl := pk_t4 _ (List.mem_of_getElem? (i := 227) rfl)
set_option maxRecDepth 100000 in
theorem gw770 : Cond.methodLink RX8 95 arraycopyName ∈ lw_tbl := pk_t3 _ (List.mem_of_getElem? (i := 223) rfl)
set_option maxRecDepth 100000 in
theorem gw771 : Cond.methodLink RX10 92 arraycopyName ∈ lw_tbl := pk_t8 _ (List.mem_of_getElem? (i := 115) rfl)
set_option maxRecDepth 100000 in
theorem gw772 : Cond.methodLink RX12 256 arraycopyName ∈ lw_tbl := pk_t7 _ (List.mem_of_getElem? (i := 228) rfl)
set_option maxRecDepth 100000 in
theorem gw773 : Cond.code yX13_bad cX13_bad 1 (some .int) ∈ lw_tbl := pk_t12 _ (List.mem_of_getElem? (i := 144) rfl)
set_option maxRecDepth 100000 in
theorem gw774 : Cond.methodLink RX13 579 yX13_bad ∈ lw_tbl := pk_t12 _ (List.mem_of_getElem? (i := 141) rfl)
set_option maxRecDepth 100000 in
theorem gw775 : Cond.instanceMethod yX13_bad ∈ lw_tbl := pk_t12 _ (List.mem_of_getElem? (i := 143) rfl)
set_option maxRecDepth 100000 in
theorem gw776 : Cond.selects "TongueHouseModel" yX13_bad yX13_bad ∈ lw_tbl := List.mem_append_left _ (List.mem_of_getElem? (i := 99) (by decide +kernel))
set_option maxRecDepth 100000 in
theorem gw777 : Cond.initialized "TongueHouseModel" ∈ lw_tbl := pk_t1 _ (List.mem_of_getElem? (i := 11) rfl)
set_option maxRecDepth 100000 in
theorem gw778 : Cond.code yX13_four cX13_four 3 none ∈ lw_tbl := pk_t12 _ (List.mem_of_getElem? (i := 148) rfl)
set_option maxRecDepth 100000 in
theorem gw779 : Cond.methodLink RX13 583 yX13_four ∈ lw_tbl := pk_t12 _ (List.mem_of_getElem? (i := 145) rfl)
set_option maxRecDepth 100000 in
theorem gw780 : Cond.instanceMethod yX13_four ∈ lw_tbl := pk_t12 _ (List.mem_of_getElem? (i := 147) rfl)
set_option maxRecDepth 100000 in
theorem gw781 : Cond.selects "TongueHouseModel" yX13_four yX13_four ∈ lw_tbl := List.mem_append_left _ (List.mem_of_getElem? (i := 100) (by decide +kernel))
set_option maxRecDepth 100000 in
theorem gw782 : Cond.code yX13_outs cX13_outs 2 none ∈ lw_tbl := pk_t13 _ (List.mem_of_getElem? (i := 193) rfl)
set_option maxRecDepth 100000 in
theorem gw783 : Cond.methodLink RX13 594 yX13_outs ∈ lw_tbl := pk_t13 _ (List.mem_of_getElem? (i := 190) rfl)
set_option maxRecDepth 100000 in
theorem gw784 : Cond.instanceMethod yX13_outs ∈ lw_tbl := pk_t13 _ (List.mem_of_getElem? (i := 192) rfl)
set_option maxRecDepth 100000 in
theorem gw785 : Cond.selects "TongueHouseModel" yX13_outs yX13_outs ∈ lw_tbl := List.mem_append_left _ (List.mem_of_getElem? (i := 151) (by decide +kernel))
set_option maxRecDepth 100000 in
theorem gw786 : Cond.code yX13_low cX13_low 2 (some .boolean) ∈ lw_tbl := pk_t12 _ (List.mem_of_getElem? (i := 176) rfl)
set_option maxRecDepth 100000 in
theorem gw787 : Cond.methodLink RX13 612 yX13_low ∈ lw_tbl := pk_t12 _ (List.mem_of_getElem? (i := 173) rfl)
set_option maxRecDepth 100000 in
theorem gw788 : Cond.instanceMethod yX13_low ∈ lw_tbl := pk_t12 _ (List.mem_of_getElem? (i := 175) rfl)
set_option maxRecDepth 100000 in
theorem gw789 : Cond.selects "TongueHouseModel" yX13_low yX13_low ∈ lw_tbl := List.mem_append_left _ (List.mem_of_getElem? (i := 104) (by decide +kernel))
set_option maxRecDepth 100000 in
theorem gw790 : Cond.code yX13_dig cX13_dig 2 (some .boolean) ∈ lw_tbl := pk_t12 _ (List.mem_of_getElem? (i := 180) rfl)
set_option maxRecDepth 100000 in
theorem gw791 : Cond.methodLink RX13 616 yX13_dig ∈ lw_tbl := pk_t12 _ (List.mem_of_getElem? (i := 177) rfl)
set_option maxRecDepth 100000 in
theorem gw792 : Cond.instanceMethod yX13_dig ∈ lw_tbl := pk_t12 _ (List.mem_of_getElem? (i := 179) rfl)
set_option maxRecDepth 100000 in
theorem gw793 : Cond.selects "TongueHouseModel" yX13_dig yX13_dig ∈ lw_tbl := List.mem_append_left _ (List.mem_of_getElem? (i := 105) (by decide +kernel))
set_option maxRecDepth 100000 in
theorem gw794 : Cond.code yX13_size cX13_size 1 (some .int) ∈ lw_tbl := pk_t13 _ (List.mem_of_getElem? (i := 59) rfl)
set_option maxRecDepth 100000 in
theorem gw795 : Cond.methodLink RX13 634 yX13_size ∈ lw_tbl := pk_t13 _ (List.mem_of_getElem? (i := 56) rfl)
set_option maxRecDepth 100000 in
theorem gw796 : Cond.instanceMethod yX13_size ∈ lw_tbl := pk_t13 _ (List.mem_of_getElem? (i := 58) rfl)
set_option maxRecDepth 100000 in
theorem gw797 : Cond.selects "TongueHouseModel" yX13_size yX13_size ∈ lw_tbl := List.mem_append_left _ (List.mem_of_getElem? (i := 120) (by decide +kernel))
set_option maxRecDepth 100000 in
theorem gw798 : Cond.code yX13_no cX13_no 3 (some .boolean) ∈ lw_tbl := pk_t13 _ (List.mem_of_getElem? (i := 8) rfl)
set_option maxRecDepth 100000 in
theorem gw799 : Cond.methodLink RX13 645 yX13_no ∈ lw_tbl := pk_t13 _ (List.mem_of_getElem? (i := 5) rfl)
set_option maxRecDepth 100000 in
theorem gw800 : Cond.instanceMethod yX13_no ∈ lw_tbl := pk_t13 _ (List.mem_of_getElem? (i := 7) rfl)
set_option maxRecDepth 100000 in
theorem gw801 : Cond.selects "TongueHouseModel" yX13_no yX13_no ∈ lw_tbl := List.mem_append_left _ (List.mem_of_getElem? (i := 108) (by decide +kernel))
set_option maxRecDepth 100000 in
theorem gw802 : Cond.code yX13_sign cX13_sign 2 (some .boolean) ∈ lw_tbl := pk_t13 _ (List.mem_of_getElem? (i := 27) rfl)
set_option maxRecDepth 100000 in
theorem gw803 : Cond.methodLink RX13 649 yX13_sign ∈ lw_tbl := pk_t13 _ (List.mem_of_getElem? (i := 24) rfl)
set_option maxRecDepth 100000 in
theorem gw804 : Cond.instanceMethod yX13_sign ∈ lw_tbl := pk_t13 _ (List.mem_of_getElem? (i := 26) rfl)
set_option maxRecDepth 100000 in
theorem gw805 : Cond.selects "TongueHouseModel" yX13_sign yX13_sign ∈ lw_tbl := List.mem_append_left _ (List.mem_of_getElem? (i := 112) (by decide +kernel))
set_option maxRecDepth 100000 in
theorem gw806 : Cond.code yX13_no_ cX13_no_ 2 (some .boolean) ∈ lw_tbl := pk_t13 _ (List.mem_of_getElem? (i := 4) rfl)
set_option maxRecDepth 100000 in
theorem gw807 : Cond.methodLink RX13 653 yX13_no_ ∈ lw_tbl := pk_t13 _ (List.mem_of_getElem? (i := 1) rfl)
set_option maxRecDepth 100000 in
theorem gw808 : Cond.instanceMethod yX13_no_ ∈ lw_tbl := pk_t13 _ (List.mem_of_getElem? (i := 3) rfl)
set_option maxRecDepth 100000 in
theorem gw809 : Cond.selects "TongueHouseModel" yX13_no_ yX13_no_ ∈ lw_tbl := List.mem_append_left _ (List.mem_of_getElem? (i := 107) (by decide +kernel))
set_option maxRecDepth 100000 in
theorem gw810 : Cond.code yX13_next cX13_next 2 none ∈ lw_tbl := pk_t12 _ (List.mem_of_getElem? (i := 172) rfl)
set_option maxRecDepth 100000 in
theorem gw811 : Cond.methodLink RX13 655 yX13_next ∈ lw_tbl := pk_t12 _ (List.mem_of_getElem? (i := 169) rfl)
set_option maxRecDepth 100000 in
theorem gw812 : Cond.instanceMethod yX13_next ∈ lw_tbl := pk_t12 _ (List.mem_of_getElem? (i := 171) rfl)
set_option maxRecDepth 100000 in
theorem gw813 : Cond.selects "TongueHouseModel" yX13_next yX13_next ∈ lw_tbl := List.mem_append_left _ (List.mem_of_getElem? (i := 103) (by decide +kernel))
set_option maxRecDepth 100000 in
theorem gw814 : Cond.code yX13_reads cX13_reads 2 none ∈ lw_tbl := pk_t12 _ (List.mem_of_getElem? (i := 164) rfl)
set_option maxRecDepth 100000 in
theorem gw815 : Cond.methodLink RX13 682 yX13_reads ∈ lw_tbl := pk_t12 _ (List.mem_of_getElem? (i := 161) rfl)
set_option maxRecDepth 100000 in
theorem gw816 : Cond.instanceMethod yX13_reads ∈ lw_tbl := pk_t12 _ (List.mem_of_getElem? (i := 163) rfl)
set_option maxRecDepth 100000 in
theorem gw817 : Cond.selects "TongueHouseModel" yX13_reads yX13_reads ∈ lw_tbl := List.mem_append_left _ (List.mem_of_getElem? (i := 101) (by decide +kernel))
set_option maxRecDepth 100000 in
theorem gw818 : Cond.code yX13_remember cX13_remember 3 none ∈ lw_tbl := pk_t12 _ (List.mem_of_getElem? (i := 168) rfl)
set_option maxRecDepth 100000 in
theorem gw819 : Cond.methodLink RX13 685 yX13_remember ∈ lw_tbl := pk_t12 _ (List.mem_of_getElem? (i := 165) rfl)
set_option maxRecDepth 100000 in
theorem gw820 : Cond.instanceMethod yX13_remember ∈ lw_tbl := pk_t12 _ (List.mem_of_getElem? (i := 167) rfl)
set_option maxRecDepth 100000 in
theorem gw821 : Cond.selects "TongueHouseModel" yX13_remember yX13_remember ∈ lw_tbl := List.mem_append_left _ (List.mem_of_getElem? (i := 102) (by decide +kernel))
set_option maxRecDepth 100000 in
theorem gw822 : Cond.code yX13_statement cX13_statement 5 (some .boolean) ∈ lw_tbl := pk_t13 _ (List.mem_of_getElem? (i := 0) rfl)
set_option maxRecDepth 100000 in
theorem gw823 : Cond.methodLink RX13 688 yX13_statement ∈ lw_tbl := pk_t12 _ (List.mem_of_getElem? (i := 237) rfl)
set_option maxRecDepth 100000 in
theorem gw824 : Cond.instanceMethod yX13_statement ∈ lw_tbl := pk_t12 _ (List.mem_of_getElem? (i := 239) rfl)
set_option maxRecDepth 100000 in
theorem gw825 : Cond.selects "TongueHouseModel" yX13_statement yX13_statement ∈ lw_tbl := List.mem_append_left _ (List.mem_of_getElem? (i := 106) (by decide +kernel))
set_option maxRecDepth 100000 in
theorem gw826 : Cond.code yX13_forget cX13_forget 3 none ∈ lw_tbl := pk_t13 _ (List.mem_of_getElem? (i := 149) rfl)
set_option maxRecDepth 100000 in
theorem gw827 : Cond.methodLink RX13 692 yX13_forget ∈ lw_tbl := pk_t13 _ (List.mem_of_getElem? (i := 146) rfl)
set_option maxRecDepth 100000 in
theorem gw828 : Cond.instanceMethod yX13_forget ∈ lw_tbl := pk_t13 _ (List.mem_of_getElem? (i := 148) rfl)
set_option maxRecDepth 100000 in
theorem gw829 : Cond.selects "TongueHouseModel" yX13_forget yX13_forget ∈ lw_tbl := List.mem_append_left _ (List.mem_of_getElem? (i := 142) (by decide +kernel))
set_option maxRecDepth 100000 in
theorem gw830 : Cond.code yX13_tongue cX13_tongue 4 (some .boolean) ∈ lw_tbl := pk_t13 _ (List.mem_of_getElem? (i := 12) rfl)
set_option maxRecDepth 100000 in
theorem gw831 : Cond.methodLink RX13 704 yX13_tongue ∈ lw_tbl := pk_t13 _ (List.mem_of_getElem? (i := 9) rfl)
set_option maxRecDepth 100000 in
theorem gw832 : Cond.instanceMethod yX13_tongue ∈ lw_tbl := pk_t13 _ (List.mem_of_getElem? (i := 11) rfl)
set_option maxRecDepth 100000 in
theorem gw833 : Cond.selects "TongueHouseModel" yX13_tongue yX13_tongue ∈ lw_tbl := List.mem_append_left _ (List.mem_of_getElem? (i := 109) (by decide +kernel))
set_option maxRecDepth 100000 in
theorem gw834 : Cond.code yX13_kind cX13_kind 3 (some .boolean) ∈ lw_tbl := pk_t13 _ (List.mem_of_getElem? (i := 31) rfl)
set_option maxRecDepth 100000 in
theorem gw835 : Cond.methodLink RX13 706 yX13_kind ∈ lw_tbl := pk_t13 _ (List.mem_of_getElem? (i := 28) rfl)
set_option maxRecDepth 100000 in
theorem gw836 : Cond.instanceMethod yX13_kind ∈ lw_tbl := pk_t13 _ (List.mem_of_getElem? (i := 30) rfl)
set_option maxRecDepth 100000 in
theorem gw837 : Cond.selects "TongueHouseModel" yX13_kind yX13_kind ∈ lw_tbl := List.mem_append_left _ (List.mem_of_getElem? (i := 113) (by decide +kernel))
set_option maxRecDepth 100000 in
theorem gw838 : Cond.code yX13_fun cX13_fun 6 (some .boolean) ∈ lw_tbl := pk_t13 _ (List.mem_of_getElem? (i := 35) rfl)
set_option maxRecDepth 100000 in
theorem gw839 : Cond.methodLink RX13 708 yX13_fun ∈ lw_tbl := pk_t13 _ (List.mem_of_getElem? (i := 32) rfl)
set_option maxRecDepth 100000 in
theorem gw840 : Cond.instanceMethod yX13_fun ∈ lw_tbl := pk_t13 _ (List.mem_of_getElem? (i := 34) rfl)
set_option maxRecDepth 100000 in
theorem gw841 : Cond.selects "TongueHouseModel" yX13_fun yX13_fun ∈ lw_tbl := List.mem_append_left _ (List.mem_of_getElem? (i := 114) (by decide +kernel))
set_option maxRecDepth 100000 in
theorem gw842 : Cond.code yX13_feature cX13_feature 9 (some .boolean) ∈ lw_tbl := pk_t13 _ (List.mem_of_getElem? (i := 51) rfl)
set_option maxRecDepth 100000 in
theorem gw843 : Cond.methodLink RX13 710 yX13_feature ∈ lw_tbl := pk_t13 _ (List.mem_of_getElem? (i := 48) rfl)
set_option maxRecDepth 100000 in
theorem gw844 : Cond.instanceMethod yX13_feature ∈ lw_tbl := pk_t13 _ (List.mem_of_getElem? (i := 50) rfl)
set_option maxRecDepth 100000 in
theorem gw845 : Cond.selects "TongueHouseModel" yX13_feature yX13_feature ∈ lw_tbl := List.mem_append_left _ (List.mem_of_getElem? (i := 118) (by decide +kernel))
set_option maxRecDepth 100000 in
theorem gw846 : Cond.code yX13_lettersOf cX13_lettersOf 6 (some .boolean) ∈ lw_tbl := pk_t13 _ (List.mem_of_getElem? (i := 55) rfl)
set_option maxRecDepth 100000 in
theorem gw847 : Cond.methodLink RX13 712 yX13_lettersOf ∈ lw_tbl := pk_t13 _ (List.mem_of_getElem? (i := 52) rfl)
set_option maxRecDepth 100000 in
theorem gw848 : Cond.instanceMethod yX13_lettersOf ∈ lw_tbl := pk_t13 _ (List.mem_of_getElem? (i := 54) rfl)
set_option maxRecDepth 100000 in
theorem gw849 : Cond.selects "TongueHouseModel" yX13_lettersOf yX13_lettersOf ∈ lw_tbl := List.mem_append_left _ (List.mem_of_getElem? (i := 119) (by decide +kernel))
set_option maxRecDepth 100000 in
theorem gw850 : Cond.code yX13_sound cX13_sound 6 (some .boolean) ∈ lw_tbl := pk_t13 _ (List.mem_of_getElem? (i := 63) rfl)
set_option maxRecDepth 100000 in
theorem gw851 : Cond.methodLink RX13 715 yX13_sound ∈ lw_tbl := pk_t13 _ (List.mem_of_getElem? (i := 60) rfl)
set_option maxRecDepth 100000 in
theorem gw852 : Cond.instanceMethod yX13_sound ∈ lw_tbl := pk_t13 _ (List.mem_of_getElem? (i := 62) rfl)
set_option maxRecDepth 100000 in
theorem gw853 : Cond.selects "TongueHouseModel" yX13_sound yX13_sound ∈ lw_tbl := List.mem_append_left _ (List.mem_of_getElem? (i := 121) (by decide +kernel))
set_option maxRecDepth 100000 in
theorem gw854 : Cond.code yX13_pattern cX13_pattern 8 (some .boolean) ∈ lw_tbl := pk_t13 _ (List.mem_of_getElem? (i := 81) rfl)
set_option maxRecDepth 100000 in
theorem gw855 : Cond.methodLink RX13 717 yX13_pattern ∈ lw_tbl := pk_t13 _ (List.mem_of_getElem? (i := 78) rfl)
set_option maxRecDepth 100000 in
theorem gw856 : Cond.instanceMethod yX13_pattern ∈ lw_tbl := pk_t13 _ (List.mem_of_getElem? (i := 80) rfl)
set_option maxRecDepth 100000 in
theorem gw857 : Cond.selects "TongueHouseModel" yX13_pattern yX13_pattern ∈ lw_tbl := List.mem_append_left _ (List.mem_of_getElem? (i := 125) (by decide +kernel))
set_option maxRecDepth 100000 in
theorem gw858 : Cond.code yX13_wordOf cX13_wordOf 7 (some .boolean) ∈ lw_tbl := pk_t13 _ (List.mem_of_getElem? (i := 93) rfl)
set_option maxRecDepth 100000 in
theorem gw859 : Cond.methodLink RX13 719 yX13_wordOf ∈ lw_tbl := pk_t13 _ (List.mem_of_getElem? (i := 90) rfl)
set_option maxRecDepth 100000 in
theorem gw860 : Cond.instanceMethod yX13_wordOf ∈ lw_tbl := pk_t13 _ (List.mem_of_getElem? (i := 92) rfl)
set_option maxRecDepth 100000 in
theorem gw861 : Cond.selects "TongueHouseModel" yX13_wordOf yX13_wordOf ∈ lw_tbl := List.mem_append_left _ (List.mem_of_getElem? (i := 128) (by decide +kernel))
set_option maxRecDepth 100000 in
theorem gw862 : Cond.code yX13_lin cX13_lin 7 (some .boolean) ∈ lw_tbl := pk_t13 _ (List.mem_of_getElem? (i := 97) rfl)
set_option maxRecDepth 100000 in
theorem gw863 : Cond.methodLink RX13 722 yX13_lin ∈ lw_tbl := pk_t13 _ (List.mem_of_getElem? (i := 94) rfl)
set_option maxRecDepth 100000 in
theorem gw864 : Cond.instanceMethod yX13_lin ∈ lw_tbl := pk_t13 _ (List.mem_of_getElem? (i := 96) rfl)
set_option maxRecDepth 100000 in
theorem gw865 : Cond.selects "TongueHouseModel" yX13_lin yX13_lin ∈ lw_tbl := List.mem_append_left _ (List.mem_of_getElem? (i := 129) (by decide +kernel))
set_option maxRecDepth 100000 in
theorem gw866 : Cond.code yX13_mean cX13_mean 4 (some .boolean) ∈ lw_tbl := pk_t13 _ (List.mem_of_getElem? (i := 117) rfl)
set_option maxRecDepth 100000 in
theorem gw867 : Cond.methodLink RX13 724 yX13_mean ∈ lw_tbl := pk_t13 _ (List.mem_of_getElem? (i := 114) rfl)
set_option maxRecDepth 100000 in
theorem gw868 : Cond.instanceMethod yX13_mean ∈ lw_tbl := pk_t13 _ (List.mem_of_getElem? (i := 116) rfl)
set_option maxRecDepth 100000 in
theorem gw869 : Cond.selects "TongueHouseModel" yX13_mean yX13_mean ∈ lw_tbl := List.mem_append_left _ (List.mem_of_getElem? (i := 134) (by decide +kernel))
set_option maxRecDepth 100000 in
theorem gw870 : Cond.code yX13_thing cX13_thing 3 (some .boolean) ∈ lw_tbl := pk_t13 _ (List.mem_of_getElem? (i := 137) rfl)
set_option maxRecDepth 100000 in
theorem gw871 : Cond.methodLink RX13 726 yX13_thing ∈ lw_tbl := pk_t13 _ (List.mem_of_getElem? (i := 134) rfl)
set_option maxRecDepth 100000 in
theorem gw872 : Cond.instanceMethod yX13_thing ∈ lw_tbl := pk_t13 _ (List.mem_of_getElem? (i := 136) rfl)
set_option maxRecDepth 100000 in
theorem gw873 : Cond.selects "TongueHouseModel" yX13_thing yX13_thing ∈ lw_tbl := List.mem_append_left _ (List.mem_of_getElem? (i := 139) (by decide +kernel))
set_option maxRecDepth 100000 in
theorem gw874 : Cond.code yX13_fact cX13_fact 6 (some .boolean) ∈ lw_tbl := pk_t13 _ (List.mem_of_getElem? (i := 141) rfl)
set_option maxRecDepth 100000 in
theorem gw875 : Cond.methodLink RX13 728 yX13_fact ∈ lw_tbl := pk_t13 _ (List.mem_of_getElem? (i := 138) rfl)
set_option maxRecDepth 100000 in
theorem gw876 : Cond.instanceMethod yX13_fact ∈ lw_tbl := pk_t13 _ (List.mem_of_getElem? (i := 140) rfl)
set_option maxRecDepth 100000 in
theorem gw877 : Cond.selects "TongueHouseModel" yX13_fact yX13_fact ∈ lw_tbl := List.mem_append_left _ (List.mem_of_getElem? (i := 140) (by decide +kernel))
set_option maxRecDepth 100000 in
theorem gw878 : Cond.code yX13_is cX13_is 3 (some .boolean) ∈ lw_tbl := pk_t13 _ (List.mem_of_getElem? (i := 47) rfl)
set_option maxRecDepth 100000 in
theorem gw879 : Cond.methodLink RX13 733 yX13_is ∈ lw_tbl := pk_t13 _ (List.mem_of_getElem? (i := 44) rfl)
set_option maxRecDepth 100000 in
theorem gw880 : Cond.instanceMethod yX13_is ∈ lw_tbl := pk_t13 _ (List.mem_of_getElem? (i := 46) rfl)
set_option maxRecDepth 100000 in
theorem gw881 : Cond.selects "TongueHouseModel" yX13_is yX13_is ∈ lw_tbl := List.mem_append_left _ (List.mem_of_getElem? (i := 117) (by decide +kernel))
set_option maxRecDepth 100000 in
theorem gw882 : Cond.code yX13_name cX13_name 1 (some .boolean) ∈ lw_tbl := pk_t13 _ (List.mem_of_getElem? (i := 16) rfl)
set_option maxRecDepth 100000 in
theorem gw883 : Cond.methodLink RX13 736 yX13_name ∈ lw_tbl := pk_t13 _ (List.mem_of_getElem? (i := 13) rfl)
set_option maxRecDepth 100000 in
theorem gw884 : Cond.instanceMethod yX13_name ∈ lw_tbl := pk_t13 _ (List.mem_of_getElem? (i := 15) rfl)
set_option maxRecDepth 100000 in
theorem gw885 : Cond.selects "TongueHouseModel" yX13_name yX13_name ∈ lw_tbl := List.mem_append_left _ (List.mem_of_getElem? (i := 110) (by decide +kernel))
set_option maxRecDepth 100000 in
theorem gw886 : Cond.code yX13_done cX13_done 2 (some .boolean) ∈ lw_tbl := pk_t13 _ (List.mem_of_getElem? (i := 23) rfl)
set_option maxRecDepth 100000 in
theorem gw887 : Cond.methodLink RX13 743 yX13_done ∈ lw_tbl := pk_t13 _ (List.mem_of_getElem? (i := 20) rfl)
set_option maxRecDepth 100000 in
theorem gw888 : Cond.instanceMethod yX13_done ∈ lw_tbl := pk_t13 _ (List.mem_of_getElem? (i := 22) rfl)
set_option maxRecDepth 100000 in
theorem gw889 : Cond.selects "TongueHouseModel" yX13_done yX13_done ∈ lw_tbl := List.mem_append_left _ (List.mem_of_getElem? (i := 111) (by decide +kernel))
set_option maxRecDepth 100000 in
theorem gw890 : Cond.code yX13_need cX13_need 2 (some .boolean) ∈ lw_tbl := pk_t13 _ (List.mem_of_getElem? (i := 39) rfl)
set_option maxRecDepth 100000 in
theorem gw891 : Cond.methodLink RX13 747 yX13_need ∈ lw_tbl := pk_t13 _ (List.mem_of_getElem? (i := 36) rfl)
set_option maxRecDepth 100000 in
theorem gw892 : Cond.instanceMethod yX13_need ∈ lw_tbl := pk_t13 _ (List.mem_of_getElem? (i := 38) rfl)
set_option maxRecDepth 100000 in
theorem gw893 : Cond.selects "TongueHouseModel" yX13_need yX13_need ∈ lw_tbl := List.mem_append_left _ (List.mem_of_getElem? (i := 115) (by decide +kernel))
set_option maxRecDepth 100000 in
theorem gw894 : Cond.code yX13_cost cX13_cost 1 (some .boolean) ∈ lw_tbl := pk_t13 _ (List.mem_of_getElem? (i := 43) rfl)
set_option maxRecDepth 100000 in
theorem gw895 : Cond.methodLink RX13 750 yX13_cost ∈ lw_tbl := pk_t13 _ (List.mem_of_getElem? (i := 40) rfl)
set_option maxRecDepth 100000 in
theorem gw896 : Cond.instanceMethod yX13_cost ∈ lw_tbl := pk_t13 _ (List.mem_of_getElem? (i := 42) rfl)
set_option maxRecDepth 100000 in
theorem gw897 : Cond.selects "TongueHouseModel" yX13_cost yX13_cost ∈ lw_tbl := List.mem_append_left _ (List.mem_of_getElem? (i := 116) (by decide +kernel))
set_option maxRecDepth 100000 in
theorem gw898 : Cond.code yX13_keeps cX13_keeps 4 (some .int) ∈ lw_tbl := pk_t13 _ (List.mem_of_getElem? (i := 71) rfl)
set_option maxRecDepth 100000 in
theorem gw899 : Cond.methodLink RX13 752 yX13_keeps ∈ lw_tbl := pk_t13 _ (List.mem_of_getElem? (i := 68) rfl)
set_option maxRecDepth 100000 in
theorem gw900 : Cond.instanceMethod yX13_keeps ∈ lw_tbl := pk_t13 _ (List.mem_of_getElem? (i := 70) rfl)
set_option maxRecDepth 100000 in
theorem gw901 : Cond.selects "TongueHouseModel" yX13_keeps yX13_keeps ∈ lw_tbl := List.mem_append_left _ (List.mem_of_getElem? (i := 123) (by decide +kernel))
set_option maxRecDepth 100000 in
theorem gw902 : Cond.code yX13_context cX13_context 3 (some .boolean) ∈ lw_tbl := pk_t13 _ (List.mem_of_getElem? (i := 67) rfl)
set_option maxRecDepth 100000 in
theorem gw903 : Cond.methodLink RX13 759 yX13_context ∈ lw_tbl := pk_t13 _ (List.mem_of_getElem? (i := 64) rfl)
set_option maxRecDepth 100000 in
theorem gw904 : Cond.instanceMethod yX13_context ∈ lw_tbl := pk_t13 _ (List.mem_of_getElem? (i := 66) rfl)
set_option maxRecDepth 100000 in
theorem gw905 : Cond.selects "TongueHouseModel" yX13_context yX13_context ∈ lw_tbl := List.mem_append_left _ (List.mem_of_getElem? (i := 122) (by decide +kernel))
set_option maxRecDepth 100000 in
theorem gw906 : Cond.code yX13_side cX13_side 3 (some .boolean) ∈ lw_tbl := pk_t13 _ (List.mem_of_getElem? (i := 77) rfl)
set_option maxRecDepth 100000 in
theorem gw907 : Cond.methodLink RX13 763 yX13_side ∈ lw_tbl := pk_t13 _ (List.mem_of_getElem? (i := 74) rfl)
set_option maxRecDepth 100000 in
theorem gw908 : Cond.instanceMethod yX13_side ∈ lw_tbl := pk_t13 _ (List.mem_of_getElem? (i := 76) rfl)
set_option maxRecDepth 100000 in
theorem gw909 : Cond.selects "TongueHouseModel" yX13_side yX13_side ∈ lw_tbl := List.mem_append_left _ (List.mem_of_getElem? (i := 124) (by decide +kernel))
set_option maxRecDepth 100000 in
theorem gw910 : Cond.code yX13_oneValue cX13_oneValue 3 (some .boolean) ∈ lw_tbl := pk_t13 _ (List.mem_of_getElem? (i := 85) rfl)
set_option maxRecDepth 100000 in
theorem gw911 : Cond.methodLink RX13 769 yX13_oneValue ∈ lw_tbl := pk_t13 _ (List.mem_of_getElem? (i := 82) rfl)
set_option maxRecDepth 100000 in
theorem gw912 : Cond.instanceMethod yX13_oneValue ∈ lw_tbl := pk_t13 _ (List.mem_of_getElem? (i := 84) rfl)
set_option maxRecDepth 100000 in
theorem gw913 : Cond.selects "TongueHouseModel" yX13_oneValue yX13_oneValue ∈ lw_tbl := List.mem_append_left _ (List.mem_of_getElem? (i := 126) (by decide +kernel))
set_option maxRecDepth 100000 in
theorem gw914 : Cond.code yX13_form cX13_form 1 (some .boolean) ∈ lw_tbl := pk_t13 _ (List.mem_of_getElem? (i := 89) rfl)
set_option maxRecDepth 100000 in
theorem gw915 : Cond.methodLink RX13 772 yX13_form ∈ lw_tbl := pk_t13 _ (List.mem_of_getElem? (i := 86) rfl)
set_option maxRecDepth 100000 in
theorem gw916 : Cond.instanceMethod yX13_form ∈ lw_tbl := pk_t13 _ (List.mem_of_getElem? (i := 88) rfl)
set_option maxRecDepth 100000 in
theorem gw917 : Cond.selects "TongueHouseModel" yX13_form yX13_form ∈ lw_tbl := List.mem_append_left _ (List.mem_of_getElem? (i := 127) (by decide +kernel))
set_option maxRecDepth 100000 in
theorem gw918 : Cond.code yX13_item cX13_item 3 (some .boolean) ∈ lw_tbl := pk_t13 _ (List.mem_of_getElem? (i := 101) rfl)
set_option maxRecDepth 100000 in
theorem gw919 : Cond.methodLink RX13 781 yX13_item ∈ lw_tbl := pk_t13 _ (List.mem_of_getElem? (i := 98) rfl)
set_option maxRecDepth 100000 in
theorem gw920 : Cond.instanceMethod yX13_item ∈ lw_tbl := pk_t13 _ (List.mem_of_getElem? (i := 100) rfl)
set_option maxRecDepth 100000 in
theorem gw921 : Cond.selects "TongueHouseModel" yX13_item yX13_item ∈ lw_tbl := List.mem_append_left _ (List.mem_of_getElem? (i := 130) (by decide +kernel))
set_option maxRecDepth 100000 in
theorem gw922 : Cond.code yX13_said cX13_said 3 (some .boolean) ∈ lw_tbl := pk_t13 _ (List.mem_of_getElem? (i := 105) rfl)
set_option maxRecDepth 100000 in
theorem gw923 : Cond.methodLink RX13 784 yX13_said ∈ lw_tbl := pk_t13 _ (List.mem_of_getElem? (i := 102) rfl)
set_option maxRecDepth 100000 in
theorem gw924 : Cond.instanceMethod yX13_said ∈ lw_tbl := pk_t13 _ (List.mem_of_getElem? (i := 104) rfl)
set_option maxRecDepth 100000 in
theorem gw925 : Cond.selects "TongueHouseModel" yX13_said yX13_said ∈ lw_tbl := List.mem_append_left _ (List.mem_of_getElem? (i := 131) (by decide +kernel))
set_option maxRecDepth 100000 in
theorem gw926 : Cond.code yX13_argumentOf cX13_argumentOf 2 (some .boolean) ∈ lw_tbl := pk_t13 _ (List.mem_of_getElem? (i := 109) rfl)
set_option maxRecDepth 100000 in
theorem gw927 : Cond.methodLink RX13 789 yX13_argumentOf ∈ lw_tbl := pk_t13 _ (List.mem_of_getElem? (i := 106) rfl)
set_option maxRecDepth 100000 in
theorem gw928 : Cond.instanceMethod yX13_argumentOf ∈ lw_tbl := pk_t13 _ (List.mem_of_getElem? (i := 108) rfl)
set_option maxRecDepth 100000 in
theorem gw929 : Cond.selects "TongueHouseModel" yX13_argumentOf yX13_argumentOf ∈ lw_tbl := List.mem_append_left _ (List.mem_of_getElem? (i := 132) (by decide +kernel))
set_option maxRecDepth 100000 in
theorem gw930 : Cond.code yX13_featureOf cX13_featureOf 2 (some .boolean) ∈ lw_tbl := pk_t13 _ (List.mem_of_getElem? (i := 113) rfl)
set_option maxRecDepth 100000 in
theorem gw931 : Cond.methodLink RX13 792 yX13_featureOf ∈ lw_tbl := pk_t13 _ (List.mem_of_getElem? (i := 110) rfl)
set_option maxRecDepth 100000 in
theorem gw932 : Cond.instanceMethod yX13_featureOf ∈ lw_tbl := pk_t13 _ (List.mem_of_getElem? (i := 112) rfl)
set_option maxRecDepth 100000 in
theorem gw933 : Cond.selects "TongueHouseModel" yX13_featureOf yX13_featureOf ∈ lw_tbl := List.mem_append_left _ (List.mem_of_getElem? (i := 133) (by decide +kernel))
set_option maxRecDepth 100000 in
theorem gw934 : Cond.code yX13_term cX13_term 4 (some .int) ∈ lw_tbl := pk_t13 _ (List.mem_of_getElem? (i := 121) rfl)
set_option maxRecDepth 100000 in
theorem gw935 : Cond.methodLink RX13 801 yX13_term ∈ lw_tbl := pk_t13 _ (List.mem_of_getElem? (i := 118) rfl)
set_option maxRecDepth 100000 in
theorem gw936 : Cond.instanceMethod yX13_term ∈ lw_tbl := pk_t13 _ (List.mem_of_getElem? (i := 120) rfl)
set_option maxRecDepth 100000 in
theorem gw937 : Cond.selects "TongueHouseModel" yX13_term yX13_term ∈ lw_tbl := List.mem_append_left _ (List.mem_of_getElem? (i := 135) (by decide +kernel))
set_option maxRecDepth 100000 in
theorem gw938 : Cond.code yX13_none cX13_none 2 (some .int) ∈ lw_tbl := pk_t13 _ (List.mem_of_getElem? (i := 125) rfl)
set_option maxRecDepth 100000 in
theorem gw939 : Cond.methodLink RX13 804 yX13_none ∈ lw_tbl := pk_t13 _ (List.mem_of_getElem? (i := 122) rfl)
set_option maxRecDepth 100000 in
theorem gw940 : Cond.instanceMethod yX13_none ∈ lw_tbl := pk_t13 _ (List.mem_of_getElem? (i := 124) rfl)
set_option maxRecDepth 100000 in
theorem gw941 : Cond.selects "TongueHouseModel" yX13_none yX13_none ∈ lw_tbl := List.mem_append_left _ (List.mem_of_getElem? (i := 136) (by decide +kernel))
set_option maxRecDepth 100000 in
theorem gw942 : Cond.code yX13_node cX13_node 6 (some .int) ∈ lw_tbl := pk_t13 _ (List.mem_of_getElem? (i := 129) rfl)
set_option maxRecDepth 100000 in
theorem gw943 : Cond.methodLink RX13 807 yX13_node ∈ lw_tbl := pk_t13 _ (List.mem_of_getElem? (i := 126) rfl)
set_option maxRecDepth 100000 in
theorem gw944 : Cond.instanceMethod yX13_node ∈ lw_tbl := pk_t13 _ (List.mem_of_getElem? (i := 128) rfl)
set_option maxRecDepth 100000 in
theorem gw945 : Cond.selects "TongueHouseModel" yX13_node yX13_node ∈ lw_tbl := List.mem_append_left _ (List.mem_of_getElem? (i := 137) (by decide +kernel))
set_option maxRecDepth 100000 in
theorem gw946 : Cond.code yX13_atom cX13_atom 4 (some .int) ∈ lw_tbl := pk_t13 _ (List.mem_of_getElem? (i := 133) rfl)
set_option maxRecDepth 100000 in
theorem gw947 : Cond.methodLink RX13 811 yX13_atom ∈ lw_tbl := pk_t13 _ (List.mem_of_getElem? (i := 130) rfl)
set_option maxRecDepth 100000 in
theorem gw948 : Cond.instanceMethod yX13_atom ∈ lw_tbl := pk_t13 _ (List.mem_of_getElem? (i := 132) rfl)
set_option maxRecDepth 100000 in
theorem gw949 : Cond.selects "TongueHouseModel" yX13_atom yX13_atom ∈ lw_tbl := List.mem_append_left _ (List.mem_of_getElem? (i := 138) (by decide +kernel))
set_option maxRecDepth 100000 in
theorem gw950 : Cond.code yX13_isFact cX13_isFact 6 (some .boolean) ∈ lw_tbl := pk_t13 _ (List.mem_of_getElem? (i := 145) rfl)
set_option maxRecDepth 100000 in
theorem gw951 : Cond.methodLink RX13 814 yX13_isFact ∈ lw_tbl := pk_t13 _ (List.mem_of_getElem? (i := 142) rfl)
set_option maxRecDepth 100000 in
theorem gw952 : Cond.instanceMethod yX13_isFact ∈ lw_tbl := pk_t13 _ (List.mem_of_getElem? (i := 144) rfl)
set_option maxRecDepth 100000 in
theorem gw953 : Cond.selects "TongueHouseModel" yX13_isFact yX13_isFact ∈ lw_tbl := List.mem_append_left _ (List.mem_of_getElem? (i := 141) (by decide +kernel))
set_option maxRecDepth 100000 in
theorem gw954 : Cond.code yX13_stands cX13_stands 6 (some .int) ∈ lw_tbl := pk_t13 _ (List.mem_of_getElem? (i := 173) rfl)
set_option maxRecDepth 100000 in
theorem gw955 : Cond.methodLink RX13 821 yX13_stands ∈ lw_tbl := pk_t13 _ (List.mem_of_getElem? (i := 170) rfl)
set_option maxRecDepth 100000 in
theorem gw956 : Cond.instanceMethod yX13_stands ∈ lw_tbl := pk_t13 _ (List.mem_of_getElem? (i := 172) rfl)
set_option maxRecDepth 100000 in
theorem gw957 : Cond.selects "TongueHouseModel" yX13_stands yX13_stands ∈ lw_tbl := List.mem_append_left _ (List.mem_of_getElem? (i := 146) (by decide +kernel))
set_option maxRecDepth 100000 in
theorem gw958 : Cond.code yX13_right cX13_right 7 (some .boolean) ∈ lw_tbl := pk_t13 _ (List.mem_of_getElem? (i := 181) rfl)
set_option maxRecDepth 100000 in
theorem gw959 : Cond.methodLink RX13 825 yX13_right ∈ lw_tbl := pk_t13 _ (List.mem_of_getElem? (i := 178) rfl)
set_option maxRecDepth 100000 in
theorem gw960 : Cond.instanceMethod yX13_right ∈ lw_tbl := pk_t13 _ (List.mem_of_getElem? (i := 180) rfl)
set_option maxRecDepth 100000 in
theorem gw961 : Cond.selects "TongueHouseModel" yX13_right yX13_right ∈ lw_tbl := List.mem_append_left _ (List.mem_of_getElem? (i := 148) (by decide +kernel))
set_option maxRecDepth 100000 in
theorem gw962 : Cond.code yX13_left cX13_left 9 (some .boolean) ∈ lw_tbl := pk_t13 _ (List.mem_of_getElem? (i := 185) rfl)
set_option maxRecDepth 100000 in
theorem gw963 : Cond.methodLink RX13 829 yX13_left ∈ lw_tbl := pk_t13 _ (List.mem_of_getElem? (i := 182) rfl)
set_option maxRecDepth 100000 in
theorem gw964 : Cond.instanceMethod yX13_left ∈ lw_tbl := pk_t13 _ (List.mem_of_getElem? (i := 184) rfl)
set_option maxRecDepth 100000 in
theorem gw965 : Cond.selects "TongueHouseModel" yX13_left yX13_left ∈ lw_tbl := List.mem_append_left _ (List.mem_of_getElem? (i := 149) (by decide +kernel))
set_option maxRecDepth 100000 in
theorem gw966 : Cond.code yX13_isIn cX13_isIn 4 (some .boolean) ∈ lw_tbl := pk_t13 _ (List.mem_of_getElem? (i := 177) rfl)
set_option maxRecDepth 100000 in
theorem gw967 : Cond.methodLink RX13 832 yX13_isIn ∈ lw_tbl := pk_t13 _ (List.mem_of_getElem? (i := 174) rfl)
set_option maxRecDepth 100000 in
theorem gw968 : Cond.instanceMethod yX13_isIn ∈ lw_tbl := pk_t13 _ (List.mem_of_getElem? (i := 176) rfl)
set_option maxRecDepth 100000 in
theorem gw969 : Cond.selects "TongueHouseModel" yX13_isIn yX13_isIn ∈ lw_tbl := List.mem_append_left _ (List.mem_of_getElem? (i := 147) (by decide +kernel))
set_option maxRecDepth 100000 in
theorem gw970 : Cond.code yX13_sounded cX13_sounded 8 (some .int) ∈ lw_tbl := pk_t13 _ (List.mem_of_getElem? (i := 169) rfl)
set_option maxRecDepth 100000 in
theorem gw971 : Cond.methodLink RX13 835 yX13_sounded ∈ lw_tbl := pk_t13 _ (List.mem_of_getElem? (i := 166) rfl)
set_option maxRecDepth 100000 in
theorem gw972 : Cond.instanceMethod yX13_sounded ∈ lw_tbl := pk_t13 _ (List.mem_of_getElem? (i := 168) rfl)
set_option maxRecDepth 100000 in
theorem gw973 : Cond.selects "TongueHouseModel" yX13_sounded yX13_sounded ∈ lw_tbl := List.mem_append_left _ (List.mem_of_getElem? (i := 145) (by decide +kernel))
set_option maxRecDepth 100000 in
theorem gw974 : Cond.code yX13_cellsOf cX13_cellsOf 3 (some .int) ∈ lw_tbl := pk_t13 _ (List.mem_of_getElem? (i := 205) rfl)
set_option maxRecDepth 100000 in
theorem gw975 : Cond.methodLink RX13 838 yX13_cellsOf ∈ lw_tbl := pk_t13 _ (List.mem_of_getElem? (i := 202) rfl)
set_option maxRecDepth 100000 in
theorem gw976 : Cond.instanceMethod yX13_cellsOf ∈ lw_tbl := pk_t13 _ (List.mem_of_getElem? (i := 204) rfl)
set_option maxRecDepth 100000 in
theorem gw977 : Cond.selects "TongueHouseModel" yX13_cellsOf yX13_cellsOf ∈ lw_tbl := List.mem_append_left _ (List.mem_of_getElem? (i := 153) (by decide +kernel))
set_option maxRecDepth 100000 in
theorem gw978 : Cond.code yX13_joined cX13_joined 9 (some .int) ∈ lw_tbl := pk_t13 _ (List.mem_of_getElem? (i := 209) rfl)
set_option maxRecDepth 100000 in
theorem gw979 : Cond.methodLink RX13 842 yX13_joined ∈ lw_tbl := pk_t13 _ (List.mem_of_getElem? (i := 206) rfl)
set_option maxRecDepth 100000 in
theorem gw980 : Cond.instanceMethod yX13_joined ∈ lw_tbl := pk_t13 _ (List.mem_of_getElem? (i := 208) rfl)
set_option maxRecDepth 100000 in
theorem gw981 : Cond.selects "TongueHouseModel" yX13_joined yX13_joined ∈ lw_tbl := List.mem_append_left _ (List.mem_of_getElem? (i := 154) (by decide +kernel))
set_option maxRecDepth 100000 in
theorem gw982 : Cond.code yX13_noTongue cX13_noTongue 2 (some .boolean) ∈ lw_tbl := pk_t13 _ (List.mem_of_getElem? (i := 161) rfl)
set_option maxRecDepth 100000 in
theorem gw983 : Cond.methodLink RX13 845 yX13_noTongue ∈ lw_tbl := pk_t13 _ (List.mem_of_getElem? (i := 158) rfl)
set_option maxRecDepth 100000 in
theorem gw984 : Cond.instanceMethod yX13_noTongue ∈ lw_tbl := pk_t13 _ (List.mem_of_getElem? (i := 160) rfl)
set_option maxRecDepth 100000 in
theorem gw985 : Cond.selects "TongueHouseModel" yX13_noTongue yX13_noTongue ∈ lw_tbl := List.mem_append_left _ (List.mem_of_getElem? (i := 143) (by decide +kernel))
set_option maxRecDepth 100000 in
theorem gw986 : Cond.code yX13_oneWord cX13_oneWord 2 (some .boolean) ∈ lw_tbl := pk_t13 _ (List.mem_of_getElem? (i := 165) rfl)
set_option maxRecDepth 100000 in
theorem gw987 : Cond.methodLink RX13 848 yX13_oneWord ∈ lw_tbl := pk_t13 _ (List.mem_of_getElem? (i := 162) rfl)
set_option maxRecDepth 100000 in
theorem gw988 : Cond.instanceMethod yX13_oneWord ∈ lw_tbl := pk_t13 _ (List.mem_of_getElem? (i := 164) rfl)
set_option maxRecDepth 100000 in
theorem gw989 : Cond.selects "TongueHouseModel" yX13_oneWord yX13_oneWord ∈ lw_tbl := List.mem_append_left _ (List.mem_of_getElem? (i := 144) (by decide +kernel))
set_option maxRecDepth 100000 in
theorem gw990 : Cond.code yX13_outBuf cX13_outBuf 2 none ∈ lw_tbl := pk_t13 _ (List.mem_of_getElem? (i := 189) rfl)
set_option maxRecDepth 100000 in
theorem gw991 : Cond.methodLink RX13 851 yX13_outBuf ∈ lw_tbl := pk_t13 _ (List.mem_of_getElem? (i := 186) rfl)
set_option maxRecDepth 100000 in
theorem gw992 : Cond.instanceMethod yX13_outBuf ∈ lw_tbl := pk_t13 _ (List.mem_of_getElem? (i := 188) rfl)
set_option maxRecDepth 100000 in
theorem gw993 : Cond.selects "TongueHouseModel" yX13_outBuf yX13_outBuf ∈ lw_tbl := List.mem_append_left _ (List.mem_of_getElem? (i := 150) (by decide +kernel))
set_option maxRecDepth 100000 in
theorem gw994 : Cond.code yX13_forms cX13_forms 6 none ∈ lw_tbl := pk_t13 _ (List.mem_of_getElem? (i := 201) rfl)
set_option maxRecDepth 100000 in
theorem gw995 : Cond.methodLink RX13 857 yX13_forms ∈ lw_tbl := pk_t13 _ (List.mem_of_getElem? (i := 198) rfl)
set_option maxRecDepth 100000 in
theorem gw996 : Cond.instanceMethod yX13_forms ∈ lw_tbl := pk_t13 _ (List.mem_of_getElem? (i := 200) rfl)
set_option maxRecDepth 100000 in
theorem gw997 : Cond.selects "TongueHouseModel" yX13_forms yX13_forms ∈ lw_tbl := List.mem_append_left _ (List.mem_of_getElem? (i := 152) (by decide +kernel))
set_option maxRecDepth 100000 in
theorem gw998 : Cond.code yX13_isForm cX13_isForm 6 (some .boolean) ∈ lw_tbl := pk_t13 _ (List.mem_of_getElem? (i := 213) rfl)
set_option maxRecDepth 100000 in
theorem gw999 : Cond.methodLink RX13 863 yX13_isForm ∈ lw_tbl := pk_t13 _ (List.mem_of_getElem? (i := 210) rfl)
set_option maxRecDepth 100000 in
theorem gw1000 : Cond.instanceMethod yX13_isForm ∈ lw_tbl := pk_t13 _ (List.mem_of_getElem? (i := 212) rfl)
set_option maxRecDepth 100000 in
theorem gw1001 : Cond.selects "TongueHouseModel" yX13_isForm yX13_isForm ∈ lw_tbl := List.mem_append_left _ (List.mem_of_getElem? (i := 155) (by decide +kernel))
set_option maxRecDepth 100000 in
theorem gw1002 : Cond.code yX13_valuesOf cX13_valuesOf 7 (some .int) ∈ lw_tbl := pk_t13 _ (List.mem_of_getElem? (i := 221) rfl)
set_option maxRecDepth 100000 in
theorem gw1003 : Cond.methodLink RX13 867 yX13_valuesOf ∈ lw_tbl := pk_t13 _ (List.mem_of_getElem? (i := 218) rfl)
set_option maxRecDepth 100000 in
theorem gw1004 : Cond.instanceMethod yX13_valuesOf ∈ lw_tbl := pk_t13 _ (List.mem_of_getElem? (i := 220) rfl)
set_option maxRecDepth 100000 in
theorem gw1005 : Cond.selects "TongueHouseModel" yX13_valuesOf yX13_valuesOf ∈ lw_tbl := List.mem_append_left _ (List.mem_of_getElem? (i := 156) (by decide +kernel))
set_option maxRecDepth 100000 in
theorem gw1006 : Cond.code yX13_endsSo cX13_endsSo 5 (some .boolean) ∈ lw_tbl := pk_t13 _ (List.mem_of_getElem? (i := 234) rfl)
set_option maxRecDepth 100000 in
theorem gw1007 : Cond.methodLink RX13 884 yX13_endsSo ∈ lw_tbl := pk_t13 _ (List.mem_of_getElem? (i := 231) rfl)
set_option maxRecDepth 100000 in
theorem gw1008 : Cond.instanceMethod yX13_endsSo ∈ lw_tbl := pk_t13 _ (List.mem_of_getElem? (i := 233) rfl)
set_option maxRecDepth 100000 in
theorem gw1009 : Cond.selects "TongueHouseModel" yX13_endsSo yX13_endsSo ∈ lw_tbl := List.mem_append_left _ (List.mem_of_getElem? (i := 157) (by decide +kernel))
set_option maxRecDepth 100000 in
theorem gw1010 : Cond.code yX13_leaves cX13_leaves 6 none ∈ lw_tbl := pk_t14 _ (List.mem_of_getElem? (i := 31) rfl)
set_option maxRecDepth 100000 in
theorem gw1011 : Cond.methodLink RX13 910 yX13_leaves ∈ lw_tbl := pk_t14 _ (List.mem_of_getElem? (i := 28) rfl)
set_option maxRecDepth 100000 in
theorem gw1012 : Cond.instanceMethod yX13_leaves ∈ lw_tbl := pk_t14 _ (List.mem_of_getElem? (i := 30) rfl)
set_option maxRecDepth 100000 in
theorem gw1013 : Cond.selects "TongueHouseModel" yX13_leaves yX13_leaves ∈ lw_tbl := List.mem_append_left _ (List.mem_of_getElem? (i := 163) (by decide +kernel))
set_option maxRecDepth 100000 in
theorem gw1014 : Cond.code yX13_match cX13_match 12 none ∈ lw_tbl := pk_t14 _ (List.mem_of_getElem? (i := 50) rfl)
set_option maxRecDepth 100000 in
theorem gw1015 : Cond.methodLink RX13 926 yX13_match ∈ lw_tbl := pk_t14 _ (List.mem_of_getElem? (i := 47) rfl)
set_option maxRecDepth 100000 in
theorem gw1016 : Cond.instanceMethod yX13_match ∈ lw_tbl := pk_t14 _ (List.mem_of_getElem? (i := 49) rfl)
set_option maxRecDepth 100000 in
theorem gw1017 : Cond.selects "TongueHouseModel" yX13_match yX13_match ∈ lw_tbl := List.mem_append_left _ (List.mem_of_getElem? (i := 167) (by decide +kernel))
set_option maxRecDepth 100000 in
theorem gw1018 : Cond.code yX13_orderWays cX13_orderWays 9 none ∈ lw_tbl := pk_t14 _ (List.mem_of_getElem? (i := 65) rfl)
set_option maxRecDepth 100000 in
theorem gw1019 : Cond.methodLink RX13 930 yX13_orderWays ∈ lw_tbl := pk_t14 _ (List.mem_of_getElem? (i := 62) rfl)
set_option maxRecDepth 100000 in
theorem gw1020 : Cond.instanceMethod yX13_orderWays ∈ lw_tbl := pk_t14 _ (List.mem_of_getElem? (i := 64) rfl)
set_option maxRecDepth 100000 in
theorem gw1021 : Cond.selects "TongueHouseModel" yX13_orderWays yX13_orderWays ∈ lw_tbl := List.mem_append_left _ (List.mem_of_getElem? (i := 170) (by decide +kernel))
set_option maxRecDepth 100000 in
theorem gw1022 : Cond.code yX13_isWord cX13_isWord 3 (some .boolean) ∈ lw_tbl := pk_t14 _ (List.mem_of_getElem? (i := 35) rfl)
set_option maxRecDepth 100000 in
theorem gw1023 : Cond.methodLink RX13 933 yX13_isWord ∈ lw_tbl := pk_t14 _ (List.mem_of_getElem? (i := 32) rfl)
set_option maxRecDepth 100000 in
theorem gw1024 : Cond.instanceMethod yX13_isWord ∈ lw_tbl := pk_t14 _ (List.mem_of_getElem? (i := 34) rfl)
set_option maxRecDepth 100000 in
theorem gw1025 : Cond.selects "TongueHouseModel" yX13_isWord yX13_isWord ∈ lw_tbl := List.mem_append_left _ (List.mem_of_getElem? (i := 164) (by decide +kernel))
set_option maxRecDepth 100000 in
theorem gw1026 : Cond.code yX13_nodeOf cX13_nodeOf 9 (some .int) ∈ lw_tbl := pk_t14 _ (List.mem_of_getElem? (i := 39) rfl)
set_option maxRecDepth 100000 in
theorem gw1027 : Cond.methodLink RX13 936 yX13_nodeOf ∈ lw_tbl := pk_t14 _ (List.mem_of_getElem? (i := 36) rfl)
set_option maxRecDepth 100000 in
theorem gw1028 : Cond.instanceMethod yX13_nodeOf ∈ lw_tbl := pk_t14 _ (List.mem_of_getElem? (i := 38) rfl)
set_option maxRecDepth 100000 in
theorem gw1029 : Cond.selects "TongueHouseModel" yX13_nodeOf yX13_nodeOf ∈ lw_tbl := List.mem_append_left _ (List.mem_of_getElem? (i := 165) (by decide +kernel))
set_option maxRecDepth 100000 in
theorem gw1030 : Cond.code yX13_wayOf cX13_wayOf 6 (some .int) ∈ lw_tbl := pk_t14 _ (List.mem_of_getElem? (i := 46) rfl)
set_option maxRecDepth 100000 in
theorem gw1031 : Cond.methodLink RX13 940 yX13_wayOf ∈ lw_tbl := pk_t14 _ (List.mem_of_getElem? (i := 43) rfl)
set_option maxRecDepth 100000 in
theorem gw1032 : Cond.instanceMethod yX13_wayOf ∈ lw_tbl := pk_t14 _ (List.mem_of_getElem? (i := 45) rfl)
set_option maxRecDepth 100000 in
theorem gw1033 : Cond.selects "TongueHouseModel" yX13_wayOf yX13_wayOf ∈ lw_tbl := List.mem_append_left _ (List.mem_of_getElem? (i := 166) (by decide +kernel))
set_option maxRecDepth 100000 in
theorem gw1034 : Cond.code yX13_finish cX13_finish 6 none ∈ lw_tbl := pk_t14 _ (List.mem_of_getElem? (i := 54) rfl)
set_option maxRecDepth 100000 in
theorem gw1035 : Cond.methodLink RX13 943 yX13_finish ∈ lw_tbl := pk_t14 _ (List.mem_of_getElem? (i := 51) rfl)
set_option maxRecDepth 100000 in
theorem gw1036 : Cond.instanceMethod yX13_finish ∈ lw_tbl := pk_t14 _ (List.mem_of_getElem? (i := 53) rfl)
set_option maxRecDepth 100000 in
theorem gw1037 : Cond.selects "TongueHouseModel" yX13_finish yX13_finish ∈ lw_tbl := List.mem_append_left _ (List.mem_of_getElem? (i := 168) (by decide +kernel))
set_option maxRecDepth 100000 in
theorem gw1038 : Cond.code yX13_saidOf cX13_saidOf 6 (some .int) ∈ lw_tbl := pk_t14 _ (List.mem_of_getElem? (i := 58) rfl)
set_option maxRecDepth 100000 in
theorem gw1039 : Cond.methodLink RX13 949 yX13_saidOf ∈ lw_tbl := pk_t14 _ (List.mem_of_getElem? (i := 55) rfl)
set_option maxRecDepth 100000 in
theorem gw1040 : Cond.instanceMethod yX13_saidOf ∈ lw_tbl := pk_t14 _ (List.mem_of_getElem? (i := 57) rfl)
set_option maxRecDepth 100000 in
theorem gw1041 : Cond.selects "TongueHouseModel" yX13_saidOf yX13_saidOf ∈ lw_tbl := List.mem_append_left _ (List.mem_of_getElem? (i := 169) (by decide +kernel))
set_option maxRecDepth 100000 in
theorem gw1042 : Cond.code yX13_wayOrder cX13_wayOrder 6 (some .int) ∈ lw_tbl := pk_t14 _ (List.mem_of_getElem? (i := 69) rfl)
set_option maxRecDepth 100000 in
theorem gw1043 : Cond.methodLink RX13 952 yX13_wayOrder ∈ lw_tbl := pk_t14 _ (List.mem_of_getElem? (i := 66) rfl)
set_option maxRecDepth 100000 in
theorem gw1044 : Cond.instanceMethod yX13_wayOrder ∈ lw_tbl := pk_t14 _ (List.mem_of_getElem? (i := 68) rfl)
set_option maxRecDepth 100000 in
theorem gw1045 : Cond.selects "TongueHouseModel" yX13_wayOrder yX13_wayOrder ∈ lw_tbl := List.mem_append_left _ (List.mem_of_getElem? (i := 171) (by decide +kernel))
set_option maxRecDepth 100000 in
theorem gw1046 : Cond.code yX13_tops cX13_tops 7 none ∈ lw_tbl := pk_t14 _ (List.mem_of_getElem? (i := 82) rfl)
set_option maxRecDepth 100000 in
theorem gw1047 : Cond.methodLink RX13 966 yX13_tops ∈ lw_tbl := pk_t14 _ (List.mem_of_getElem? (i := 79) rfl)
set_option maxRecDepth 100000 in
theorem gw1048 : Cond.instanceMethod yX13_tops ∈ lw_tbl := pk_t14 _ (List.mem_of_getElem? (i := 81) rfl)
set_option maxRecDepth 100000 in
theorem gw1049 : Cond.selects "TongueHouseModel" yX13_tops yX13_tops ∈ lw_tbl := List.mem_append_left _ (List.mem_of_getElem? (i := 173) (by decide +kernel))
set_option maxRecDepth 100000 in
theorem gw1050 : Cond.code yX13_combine cX13_combine 11 none ∈ lw_tbl := pk_t14 _ (List.mem_of_getElem? (i := 93) rfl)
set_option maxRecDepth 100000 in
theorem gw1051 : Cond.methodLink RX13 973 yX13_combine ∈ lw_tbl := pk_t14 _ (List.mem_of_getElem? (i := 90) rfl)
set_option maxRecDepth 100000 in
theorem gw1052 : Cond.instanceMethod yX13_combine ∈ lw_tbl := pk_t14 _ (List.mem_of_getElem? (i := 92) rfl)
set_option maxRecDepth 100000 in
theorem gw1053 : Cond.selects "TongueHouseModel" yX13_combine yX13_combine ∈ lw_tbl := List.mem_append_left _ (List.mem_of_getElem? (i := 175) (by decide +kernel))
set_option maxRecDepth 100000 in
theorem gw1054 : Cond.code yX13_ahead cX13_ahead 5 (some .boolean) ∈ lw_tbl := pk_t14 _ (List.mem_of_getElem? (i := 86) rfl)
set_option maxRecDepth 100000 in
theorem gw1055 : Cond.methodLink RX13 980 yX13_ahead ∈ lw_tbl := pk_t14 _ (List.mem_of_getElem? (i := 83) rfl)
set_option maxRecDepth 100000 in
theorem gw1056 : Cond.instanceMethod yX13_ahead ∈ lw_tbl := pk_t14 _ (List.mem_of_getElem? (i := 85) rfl)
set_option maxRecDepth 100000 in
theorem gw1057 : Cond.selects "TongueHouseModel" yX13_ahead yX13_ahead ∈ lw_tbl := List.mem_append_left _ (List.mem_of_getElem? (i := 174) (by decide +kernel))
set_option maxRecDepth 100000 in
theorem gw1058 : Cond.code yX13_chart cX13_chart 7 (some .boolean) ∈ lw_tbl := pk_t14 _ (List.mem_of_getElem? (i := 26) rfl)
set_option maxRecDepth 100000 in
theorem gw1059 : Cond.methodLink RX13 986 yX13_chart ∈ lw_tbl := pk_t14 _ (List.mem_of_getElem? (i := 23) rfl)
set_option maxRecDepth 100000 in
theorem gw1060 : Cond.instanceMethod yX13_chart ∈ lw_tbl := pk_t14 _ (List.mem_of_getElem? (i := 25) rfl)
set_option maxRecDepth 100000 in
theorem gw1061 : Cond.selects "TongueHouseModel" yX13_chart yX13_chart ∈ lw_tbl := List.mem_append_left _ (List.mem_of_getElem? (i := 162) (by decide +kernel))
set_option maxRecDepth 100000 in
theorem gw1062 : Cond.code yX13_counted cX13_counted 9 (some .long) ∈ lw_tbl := pk_t14 _ (List.mem_of_getElem? (i := 73) rfl)
set_option maxRecDepth 100000 in
theorem gw1063 : Cond.methodLink RX13 995 yX13_counted ∈ lw_tbl := pk_t14 _ (List.mem_of_getElem? (i := 70) rfl)
set_option maxRecDepth 100000 in
theorem gw1064 : Cond.instanceMethod yX13_counted ∈ lw_tbl := pk_t14 _ (List.mem_of_getElem? (i := 72) rfl)
set_option maxRecDepth 100000 in
theorem gw1065 : Cond.selects "TongueHouseModel" yX13_counted yX13_counted ∈ lw_tbl := List.mem_append_left _ (List.mem_of_getElem? (i := 172) (by decide +kernel))
set_option maxRecDepth 100000 in
theorem gw1066 : Cond.code yX13_noKind cX13_noKind 2 (some .boolean) ∈ lw_tbl := pk_t14 _ (List.mem_of_getElem? (i := 10) rfl)
set_option maxRecDepth 100000 in
theorem gw1067 : Cond.methodLink RX13 999 yX13_noKind ∈ lw_tbl := pk_t14 _ (List.mem_of_getElem? (i := 7) rfl)
set_option maxRecDepth 100000 in
theorem gw1068 : Cond.instanceMethod yX13_noKind ∈ lw_tbl := pk_t14 _ (List.mem_of_getElem? (i := 9) rfl)
set_option maxRecDepth 100000 in
theorem gw1069 : Cond.selects "TongueHouseModel" yX13_noKind yX13_noKind ∈ lw_tbl := List.mem_append_left _ (List.mem_of_getElem? (i := 158) (by decide +kernel))
set_option maxRecDepth 100000 in
theorem gw1070 : Cond.code yX13_sentence cX13_sentence 3 (some .boolean) ∈ lw_tbl := pk_t14 _ (List.mem_of_getElem? (i := 14) rfl)
set_option maxRecDepth 100000 in
theorem gw1071 : Cond.methodLink RX13 1002 yX13_sentence ∈ lw_tbl := pk_t14 _ (List.mem_of_getElem? (i := 11) rfl)
set_option maxRecDepth 100000 in
theorem gw1072 : Cond.instanceMethod yX13_sentence ∈ lw_tbl := pk_t14 _ (List.mem_of_getElem? (i := 13) rfl)
set_option maxRecDepth 100000 in
theorem gw1073 : Cond.selects "TongueHouseModel" yX13_sentence yX13_sentence ∈ lw_tbl := List.mem_append_left _ (List.mem_of_getElem? (i := 159) (by decide +kernel))
set_option maxRecDepth 100000 in
theorem gw1074 : Cond.code yX13_noForest cX13_noForest 1 none ∈ lw_tbl := pk_t14 _ (List.mem_of_getElem? (i := 18) rfl)
set_option maxRecDepth 100000 in
theorem gw1075 : Cond.methodLink RX13 1005 yX13_noForest ∈ lw_tbl := pk_t14 _ (List.mem_of_getElem? (i := 15) rfl)
set_option maxRecDepth 100000 in
theorem gw1076 : Cond.instanceMethod yX13_noForest ∈ lw_tbl := pk_t14 _ (List.mem_of_getElem? (i := 17) rfl)
set_option maxRecDepth 100000 in
theorem gw1077 : Cond.selects "TongueHouseModel" yX13_noForest yX13_noForest ∈ lw_tbl := List.mem_append_left _ (List.mem_of_getElem? (i := 160) (by decide +kernel))
set_option maxRecDepth 100000 in
theorem gw1078 : Cond.code yX13_parsed cX13_parsed 4 (some .int) ∈ lw_tbl := pk_t14 _ (List.mem_of_getElem? (i := 22) rfl)
set_option maxRecDepth 100000 in
theorem gw1079 : Cond.methodLink RX13 1008 yX13_parsed ∈ lw_tbl := pk_t14 _ (List.mem_of_getElem? (i := 19) rfl)
set_option maxRecDepth 100000 in
theorem gw1080 : Cond.instanceMethod yX13_parsed ∈ lw_tbl := pk_t14 _ (List.mem_of_getElem? (i := 21) rfl)
set_option maxRecDepth 100000 in
theorem gw1081 : Cond.selects "TongueHouseModel" yX13_parsed yX13_parsed ∈ lw_tbl := List.mem_append_left _ (List.mem_of_getElem? (i := 161) (by decide +kernel))
set_option maxRecDepth 100000 in
theorem gw1082 : Cond.code yX13_read cX13_read 10 none ∈ lw_tbl := pk_t14 _ (List.mem_of_getElem? (i := 117) rfl)
set_option maxRecDepth 100000 in
theorem gw1083 : Cond.methodLink RX13 1014 yX13_read ∈ lw_tbl := pk_t14 _ (List.mem_of_getElem? (i := 114) rfl)
set_option maxRecDepth 100000 in
theorem gw1084 : Cond.instanceMethod yX13_read ∈ lw_tbl := pk_t14 _ (List.mem_of_getElem? (i := 116) rfl)
set_option maxRecDepth 100000 in
theorem gw1085 : Cond.selects "TongueHouseModel" yX13_read yX13_read ∈ lw_tbl := List.mem_append_left _ (List.mem_of_getElem? (i := 177) (by decide +kernel))
set_option maxRecDepth 100000 in
theorem gw1086 : Cond.code yX13_noPlace cX13_noPlace 2 (some .boolean) ∈ lw_tbl := pk_t14 _ (List.mem_of_getElem? (i := 113) rfl)
set_option maxRecDepth 100000 in
theorem gw1087 : Cond.methodLink RX13 1017 yX13_noPlace ∈ lw_tbl := pk_t14 _ (List.mem_of_getElem? (i := 110) rfl)
set_option maxRecDepth 100000 in
theorem gw1088 : Cond.instanceMethod yX13_noPlace ∈ lw_tbl := pk_t14 _ (List.mem_of_getElem? (i := 112) rfl)
set_option maxRecDepth 100000 in
theorem gw1089 : Cond.selects "TongueHouseModel" yX13_noPlace yX13_noPlace ∈ lw_tbl := List.mem_append_left _ (List.mem_of_getElem? (i := 176) (by decide +kernel))
set_option maxRecDepth 100000 in
theorem gw1090 : Cond.code yX13_noTree cX13_noTree 4 (some .boolean) ∈ lw_tbl := pk_t14 _ (List.mem_of_getElem? (i := 125) rfl)
set_option maxRecDepth 100000 in
theorem gw1091 : Cond.methodLink RX13 1020 yX13_noTree ∈ lw_tbl := pk_t14 _ (List.mem_of_getElem? (i := 122) rfl)
set_option maxRecDepth 100000 in
theorem gw1092 : Cond.instanceMethod yX13_noTree ∈ lw_tbl := pk_t14 _ (List.mem_of_getElem? (i := 124) rfl)
set_option maxRecDepth 100000 in
theorem gw1093 : Cond.selects "TongueHouseModel" yX13_noTree yX13_noTree ∈ lw_tbl := List.mem_append_left _ (List.mem_of_getElem? (i := 178) (by decide +kernel))
set_option maxRecDepth 100000 in
theorem gw1094 : Cond.code yX13_outName cX13_outName 4 none ∈ lw_tbl := pk_t14 _ (List.mem_of_getElem? (i := 141) rfl)
set_option maxRecDepth 100000 in
theorem gw1095 : Cond.methodLink RX13 1023 yX13_outName ∈ lw_tbl := pk_t14 _ (List.mem_of_getElem? (i := 138) rfl)
set_option maxRecDepth 100000 in
theorem gw1096 : Cond.instanceMethod yX13_outName ∈ lw_tbl := pk_t14 _ (List.mem_of_getElem? (i := 140) rfl)
set_option maxRecDepth 100000 in
theorem gw1097 : Cond.selects "TongueHouseModel" yX13_outName yX13_outName ∈ lw_tbl := List.mem_append_left _ (List.mem_of_getElem? (i := 181) (by decide +kernel))
set_option maxRecDepth 100000 in
theorem gw1098 : Cond.code yX13_shown cX13_shown 5 (some .int) ∈ lw_tbl := pk_t14 _ (List.mem_of_getElem? (i := 137) rfl)
set_option maxRecDepth 100000 in
theorem gw1099 : Cond.methodLink RX13 1027 yX13_shown ∈ lw_tbl := pk_t14 _ (List.mem_of_getElem? (i := 134) rfl)
set_option maxRecDepth 100000 in
theorem gw1100 : Cond.instanceMethod yX13_shown ∈ lw_tbl := pk_t14 _ (List.mem_of_getElem? (i := 136) rfl)
set_option maxRecDepth 100000 in
theorem gw1101 : Cond.selects "TongueHouseModel" yX13_shown yX13_shown ∈ lw_tbl := List.mem_append_left _ (List.mem_of_getElem? (i := 180) (by decide +kernel))
set_option maxRecDepth 100000 in
theorem gw1102 : Cond.code yX13_takes cX13_takes 3 (some .int) ∈ lw_tbl := pk_t14 _ (List.mem_of_getElem? (i := 133) rfl)
set_option maxRecDepth 100000 in
theorem gw1103 : Cond.methodLink RX13 1030 yX13_takes ∈ lw_tbl := pk_t14 _ (List.mem_of_getElem? (i := 130) rfl)
set_option maxRecDepth 100000 in
theorem gw1104 : Cond.instanceMethod yX13_takes ∈ lw_tbl := pk_t14 _ (List.mem_of_getElem? (i := 132) rfl)
set_option maxRecDepth 100000 in
theorem gw1105 : Cond.selects "TongueHouseModel" yX13_takes yX13_takes ∈ lw_tbl := List.mem_append_left _ (List.mem_of_getElem? (i := 179) (by decide +kernel))
set_option maxRecDepth 100000 in
theorem gw1106 : Cond.code yX13_options cX13_options 10 (some .int) ∈ lw_tbl := pk_t14 _ (List.mem_of_getElem? (i := 154) rfl)
set_option maxRecDepth 100000 in
theorem gw1107 : Cond.methodLink RX13 1033 yX13_options ∈ lw_tbl := pk_t14 _ (List.mem_of_getElem? (i := 151) rfl)
set_option maxRecDepth 100000 in
theorem gw1108 : Cond.instanceMethod yX13_options ∈ lw_tbl := pk_t14 _ (List.mem_of_getElem? (i := 153) rfl)
set_option maxRecDepth 100000 in
theorem gw1109 : Cond.selects "TongueHouseModel" yX13_options yX13_options ∈ lw_tbl := List.mem_append_left _ (List.mem_of_getElem? (i := 182) (by decide +kernel))
set_option maxRecDepth 100000 in
theorem gw1110 : Cond.code yX13_slot cX13_slot 7 (some .int) ∈ lw_tbl := pk_t14 _ (List.mem_of_getElem? (i := 158) rfl)
set_option maxRecDepth 100000 in
theorem gw1111 : Cond.methodLink RX13 1036 yX13_slot ∈ lw_tbl := pk_t14 _ (List.mem_of_getElem? (i := 155) rfl)
set_option maxRecDepth 100000 in
theorem gw1112 : Cond.instanceMethod yX13_slot ∈ lw_tbl := pk_t14 _ (List.mem_of_getElem? (i := 157) rfl)
set_option maxRecDepth 100000 in
theorem gw1113 : Cond.selects "TongueHouseModel" yX13_slot yX13_slot ∈ lw_tbl := List.mem_append_left _ (List.mem_of_getElem? (i := 183) (by decide +kernel))
set_option maxRecDepth 100000 in
theorem gw1114 : Cond.code yX13_puts cX13_puts 12 none ∈ lw_tbl := pk_t14 _ (List.mem_of_getElem? (i := 162) rfl)
set_option maxRecDepth 100000 in
theorem gw1115 : Cond.methodLink RX13 1039 yX13_puts ∈ lw_tbl := pk_t14 _ (List.mem_of_getElem? (i := 159) rfl)
set_option maxRecDepth 100000 in
theorem gw1116 : Cond.instanceMethod yX13_puts ∈ lw_tbl := pk_t14 _ (List.mem_of_getElem? (i := 161) rfl)
set_option maxRecDepth 100000 in
theorem gw1117 : Cond.selects "TongueHouseModel" yX13_puts yX13_puts ∈ lw_tbl := List.mem_append_left _ (List.mem_of_getElem? (i := 184) (by decide +kernel))
set_option maxRecDepth 100000 in
theorem gw1118 : Cond.code yX13_ready cX13_ready 12 none ∈ lw_tbl := pk_t14 _ (List.mem_of_getElem? (i := 166) rfl)
set_option maxRecDepth 100000 in
theorem gw1119 : Cond.methodLink RX13 1043 yX13_ready ∈ lw_tbl := pk_t14 _ (List.mem_of_getElem? (i := 163) rfl)
set_option maxRecDepth 100000 in
theorem gw1120 : Cond.instanceMethod yX13_ready ∈ lw_tbl := pk_t14 _ (List.mem_of_getElem? (i := 165) rfl)
set_option maxRecDepth 100000 in
theorem gw1121 : Cond.selects "TongueHouseModel" yX13_ready yX13_ready ∈ lw_tbl := List.mem_append_left _ (List.mem_of_getElem? (i := 185) (by decide +kernel))
set_option maxRecDepth 100000 in
theorem gw1122 : Cond.code yX13_hitsWord cX13_hitsWord 6 (some .boolean) ∈ lw_tbl := pk_t14 _ (List.mem_of_getElem? (i := 186) rfl)
set_option maxRecDepth 100000 in
theorem gw1123 : Cond.methodLink RX13 1055 yX13_hitsWord ∈ lw_tbl := pk_t14 _ (List.mem_of_getElem? (i := 183) rfl)
set_option maxRecDepth 100000 in
theorem gw1124 : Cond.instanceMethod yX13_hitsWord ∈ lw_tbl := pk_t14 _ (List.mem_of_getElem? (i := 185) rfl)
set_option maxRecDepth 100000 in
theorem gw1125 : Cond.selects "TongueHouseModel" yX13_hitsWord yX13_hitsWord ∈ lw_tbl := List.mem_append_left _ (List.mem_of_getElem? (i := 186) (by decide +kernel))
set_option maxRecDepth 100000 in
theorem gw1126 : Cond.code yX13_mended cX13_mended 11 (some .int) ∈ lw_tbl := pk_t14 _ (List.mem_of_getElem? (i := 198) rfl)
set_option maxRecDepth 100000 in
theorem gw1127 : Cond.methodLink RX13 1058 yX13_mended ∈ lw_tbl := pk_t14 _ (List.mem_of_getElem? (i := 195) rfl)
set_option maxRecDepth 100000 in
theorem gw1128 : Cond.instanceMethod yX13_mended ∈ lw_tbl := pk_t14 _ (List.mem_of_getElem? (i := 197) rfl)
set_option maxRecDepth 100000 in
theorem gw1129 : Cond.selects "TongueHouseModel" yX13_mended yX13_mended ∈ lw_tbl := List.mem_append_left _ (List.mem_of_getElem? (i := 187) (by decide +kernel))
set_option maxRecDepth 100000 in
theorem gw1130 : Cond.code yX13_outSentence cX13_outSentence 3 none ∈ lw_tbl := pk_t14 _ (List.mem_of_getElem? (i := 210) rfl)
set_option maxRecDepth 100000 in
theorem gw1131 : Cond.methodLink RX13 1061 yX13_outSentence ∈ lw_tbl := pk_t14 _ (List.mem_of_getElem? (i := 207) rfl)
set_option maxRecDepth 100000 in
theorem gw1132 : Cond.instanceMethod yX13_outSentence ∈ lw_tbl := pk_t14 _ (List.mem_of_getElem? (i := 209) rfl)
set_option maxRecDepth 100000 in
theorem gw1133 : Cond.selects "TongueHouseModel" yX13_outSentence yX13_outSentence ∈ lw_tbl := List.mem_append_left _ (List.mem_of_getElem? (i := 190) (by decide +kernel))
set_option maxRecDepth 100000 in
theorem gw1134 : Cond.code yX13_word_ cX13_word_ 6 none ∈ lw_tbl := pk_t14 _ (List.mem_of_getElem? (i := 202) rfl)
set_option maxRecDepth 100000 in
theorem gw1135 : Cond.methodLink RX13 1064 yX13_word_ ∈ lw_tbl := pk_t14 _ (List.mem_of_getElem? (i := 199) rfl)
set_option maxRecDepth 100000 in
theorem gw1136 : Cond.instanceMethod yX13_word_ ∈ lw_tbl := pk_t14 _ (List.mem_of_getElem? (i := 201) rfl)
set_option maxRecDepth 100000 in
theorem gw1137 : Cond.selects "TongueHouseModel" yX13_word_ yX13_word_ ∈ lw_tbl := List.mem_append_left _ (List.mem_of_getElem? (i := 188) (by decide +kernel))
set_option maxRecDepth 100000 in
theorem gw1138 : Cond.code yX13_back cX13_back 5 none ∈ lw_tbl := pk_t14 _ (List.mem_of_getElem? (i := 206) rfl)
set_option maxRecDepth 100000 in
theorem gw1139 : Cond.methodLink RX13 1067 yX13_back ∈ lw_tbl := pk_t14 _ (List.mem_of_getElem? (i := 203) rfl)
set_option maxRecDepth 100000 in
theorem gw1140 : Cond.instanceMethod yX13_back ∈ lw_tbl := pk_t14 _ (List.mem_of_getElem? (i := 205) rfl)
set_option maxRecDepth 100000 in
theorem gw1141 : Cond.selects "TongueHouseModel" yX13_back yX13_back ∈ lw_tbl := List.mem_append_left _ (List.mem_of_getElem? (i := 189) (by decide +kernel))
set_option maxRecDepth 100000 in
theorem gw1142 : Cond.code yX13_heap cX13_heap 6 (some .int) ∈ lw_tbl := pk_t14 _ (List.mem_of_getElem? (i := 230) rfl)
set_option maxRecDepth 100000 in
theorem gw1143 : Cond.methodLink RX13 1079 yX13_heap ∈ lw_tbl := pk_t14 _ (List.mem_of_getElem? (i := 227) rfl)
set_option maxRecDepth 100000 in
theorem gw1144 : Cond.instanceMethod yX13_heap ∈ lw_tbl := pk_t14 _ (List.mem_of_getElem? (i := 229) rfl)
set_option maxRecDepth 100000 in
theorem gw1145 : Cond.selects "TongueHouseModel" yX13_heap yX13_heap ∈ lw_tbl := List.mem_append_left _ (List.mem_of_getElem? (i := 194) (by decide +kernel))
set_option maxRecDepth 100000 in
theorem gw1146 : Cond.code yX13_composed cX13_composed 6 (some .int) ∈ lw_tbl := pk_t14 _ (List.mem_of_getElem? (i := 226) rfl)
set_option maxRecDepth 100000 in
theorem gw1147 : Cond.methodLink RX13 1082 yX13_composed ∈ lw_tbl := pk_t14 _ (List.mem_of_getElem? (i := 223) rfl)
set_option maxRecDepth 100000 in
theorem gw1148 : Cond.instanceMethod yX13_composed ∈ lw_tbl := pk_t14 _ (List.mem_of_getElem? (i := 225) rfl)
set_option maxRecDepth 100000 in
theorem gw1149 : Cond.selects "TongueHouseModel" yX13_composed yX13_composed ∈ lw_tbl := List.mem_append_left _ (List.mem_of_getElem? (i := 193) (by decide +kernel))
set_option maxRecDepth 100000 in
theorem gw1150 : Cond.code yX13_raised cX13_raised 5 (some .int) ∈ lw_tbl := pk_t15 _ (List.mem_of_getElem? (i := 6) rfl)
set_option maxRecDepth 100000 in
theorem gw1151 : Cond.methodLink RX13 1085 yX13_raised ∈ lw_tbl := pk_t15 _ (List.mem_of_getElem? (i := 3) rfl)
set_option maxRecDepth 100000 in
theorem gw1152 : Cond.instanceMethod yX13_raised ∈ lw_tbl := pk_t15 _ (List.mem_of_getElem? (i := 5) rfl)
set_option maxRecDepth 100000 in
theorem gw1153 : Cond.selects "TongueHouseModel" yX13_raised yX13_raised ∈ lw_tbl := List.mem_append_left _ (List.mem_of_getElem? (i := 198) (by decide +kernel))
set_option maxRecDepth 100000 in
theorem gw1154 : Cond.code yX13_redex cX13_redex 3 (some .int) ∈ lw_tbl := pk_t14 _ (List.mem_of_getElem? (i := 234) rfl)
set_option maxRecDepth 100000 in
theorem gw1155 : Cond.methodLink RX13 1088 yX13_redex ∈ lw_tbl := pk_t14 _ (List.mem_of_getElem? (i := 231) rfl)
set_option maxRecDepth 100000 in
theorem gw1156 : Cond.instanceMethod yX13_redex ∈ lw_tbl := pk_t14 _ (List.mem_of_getElem? (i := 233) rfl)
set_option maxRecDepth 100000 in
theorem gw1157 : Cond.selects "TongueHouseModel" yX13_redex yX13_redex ∈ lw_tbl := List.mem_append_left _ (List.mem_of_getElem? (i := 195) (by decide +kernel))
set_option maxRecDepth 100000 in
theorem gw1158 : Cond.code yX13_put cX13_put 5 (some .int) ∈ lw_tbl := pk_t15 _ (List.mem_of_getElem? (i := 2) rfl)
set_option maxRecDepth 100000 in
theorem gw1159 : Cond.methodLink RX13 1091 yX13_put ∈ lw_tbl := pk_t14 _ (List.mem_of_getElem? (i := 239) rfl)
set_option maxRecDepth 100000 in
theorem gw1160 : Cond.instanceMethod yX13_put ∈ lw_tbl := pk_t15 _ (List.mem_of_getElem? (i := 1) rfl)
set_option maxRecDepth 100000 in
theorem gw1161 : Cond.selects "TongueHouseModel" yX13_put yX13_put ∈ lw_tbl := List.mem_append_left _ (List.mem_of_getElem? (i := 197) (by decide +kernel))
set_option maxRecDepth 100000 in
theorem gw1162 : Cond.code yX13_stepped cX13_stepped 4 (some .int) ∈ lw_tbl := pk_t14 _ (List.mem_of_getElem? (i := 238) rfl)
set_option maxRecDepth 100000 in
theorem gw1163 : Cond.methodLink RX13 1094 yX13_stepped ∈ lw_tbl := pk_t14 _ (List.mem_of_getElem? (i := 235) rfl)
set_option maxRecDepth 100000 in
theorem gw1164 : Cond.instanceMethod yX13_stepped ∈ lw_tbl := pk_t14 _ (List.mem_of_getElem? (i := 237) rfl)
set_option maxRecDepth 100000 in
theorem gw1165 : Cond.selects "TongueHouseModel" yX13_stepped yX13_stepped ∈ lw_tbl := List.mem_append_left _ (List.mem_of_getElem? (i := 196) (by decide +kernel))
set_option maxRecDepth 100000 in
theorem gw1166 : Cond.code yX13_argumentsOf cX13_argumentsOf 4 (some .int) ∈ lw_tbl := pk_t14 _ (List.mem_of_getElem? (i := 222) rfl)
set_option maxRecDepth 100000 in
theorem gw1167 : Cond.methodLink RX13 1097 yX13_argumentsOf ∈ lw_tbl := pk_t14 _ (List.mem_of_getElem? (i := 219) rfl)
set_option maxRecDepth 100000 in
theorem gw1168 : Cond.instanceMethod yX13_argumentsOf ∈ lw_tbl := pk_t14 _ (List.mem_of_getElem? (i := 221) rfl)
set_option maxRecDepth 100000 in
theorem gw1169 : Cond.selects "TongueHouseModel" yX13_argumentsOf yX13_argumentsOf ∈ lw_tbl := List.mem_append_left _ (List.mem_of_getElem? (i := 192) (by decide +kernel))
set_option maxRecDepth 100000 in
theorem gw1170 : Cond.code yX13_outNumber cX13_outNumber 2 none ∈ lw_tbl := pk_t15 _ (List.mem_of_getElem? (i := 14) rfl)
set_option maxRecDepth 100000 in
theorem gw1171 : Cond.methodLink RX13 1100 yX13_outNumber ∈ lw_tbl := pk_t15 _ (List.mem_of_getElem? (i := 11) rfl)
set_option maxRecDepth 100000 in
theorem gw1172 : Cond.instanceMethod yX13_outNumber ∈ lw_tbl := pk_t15 _ (List.mem_of_getElem? (i := 13) rfl)
set_option maxRecDepth 100000 in
theorem gw1173 : Cond.selects "TongueHouseModel" yX13_outNumber yX13_outNumber ∈ lw_tbl := List.mem_append_left _ (List.mem_of_getElem? (i := 200) (by decide +kernel))
set_option maxRecDepth 100000 in
theorem gw1174 : Cond.code yX13_outTerm cX13_outTerm 3 none ∈ lw_tbl := pk_t15 _ (List.mem_of_getElem? (i := 10) rfl)
set_option maxRecDepth 100000 in
theorem gw1175 : Cond.methodLink RX13 1103 yX13_outTerm ∈ lw_tbl := pk_t15 _ (List.mem_of_getElem? (i := 7) rfl)
set_option maxRecDepth 100000 in
theorem gw1176 : Cond.instanceMethod yX13_outTerm ∈ lw_tbl := pk_t15 _ (List.mem_of_getElem? (i := 9) rfl)
set_option maxRecDepth 100000 in
theorem gw1177 : Cond.selects "TongueHouseModel" yX13_outTerm yX13_outTerm ∈ lw_tbl := List.mem_append_left _ (List.mem_of_getElem? (i := 199) (by decide +kernel))
set_option maxRecDepth 100000 in
theorem gw1178 : Cond.code yX13_outApplied cX13_outApplied 4 none ∈ lw_tbl := pk_t15 _ (List.mem_of_getElem? (i := 18) rfl)
set_option maxRecDepth 100000 in
theorem gw1179 : Cond.methodLink RX13 1106 yX13_outApplied ∈ lw_tbl := pk_t15 _ (List.mem_of_getElem? (i := 15) rfl)
set_option maxRecDepth 100000 in
theorem gw1180 : Cond.instanceMethod yX13_outApplied ∈ lw_tbl := pk_t15 _ (List.mem_of_getElem? (i := 17) rfl)
set_option maxRecDepth 100000 in
theorem gw1181 : Cond.selects "TongueHouseModel" yX13_outApplied yX13_outApplied ∈ lw_tbl := List.mem_append_left _ (List.mem_of_getElem? (i := 201) (by decide +kernel))
set_option maxRecDepth 100000 in
theorem gw1182 : Cond.code yX13_means cX13_means 5 (some .int) ∈ lw_tbl := pk_t14 _ (List.mem_of_getElem? (i := 218) rfl)
set_option maxRecDepth 100000 in
theorem gw1183 : Cond.methodLink RX13 1109 yX13_means ∈ lw_tbl := pk_t14 _ (List.mem_of_getElem? (i := 215) rfl)
set_option maxRecDepth 100000 in
theorem gw1184 : Cond.instanceMethod yX13_means ∈ lw_tbl := pk_t14 _ (List.mem_of_getElem? (i := 217) rfl)
set_option maxRecDepth 100000 in
theorem gw1185 : Cond.selects "TongueHouseModel" yX13_means yX13_means ∈ lw_tbl := List.mem_append_left _ (List.mem_of_getElem? (i := 191) (by decide +kernel))
set_option maxRecDepth 100000 in
theorem gw1186 : Cond.code yX13_holds cX13_holds 12 (some .int) ∈ lw_tbl := pk_t15 _ (List.mem_of_getElem? (i := 26) rfl)
set_option maxRecDepth 100000 in
theorem gw1187 : Cond.methodLink RX13 1118 yX13_holds ∈ lw_tbl := pk_t15 _ (List.mem_of_getElem? (i := 23) rfl)
set_option maxRecDepth 100000 in
theorem gw1188 : Cond.instanceMethod yX13_holds ∈ lw_tbl := pk_t15 _ (List.mem_of_getElem? (i := 25) rfl)
set_option maxRecDepth 100000 in
theorem gw1189 : Cond.selects "TongueHouseModel" yX13_holds yX13_holds ∈ lw_tbl := List.mem_append_left _ (List.mem_of_getElem? (i := 202) (by decide +kernel))
set_option maxRecDepth 100000 in
theorem gw1190 : Cond.code yX13_thingOf cX13_thingOf 2 (some .int) ∈ lw_tbl := pk_t15 _ (List.mem_of_getElem? (i := 30) rfl)
set_option maxRecDepth 100000 in
theorem gw1191 : Cond.methodLink RX13 1121 yX13_thingOf ∈ lw_tbl := pk_t15 _ (List.mem_of_getElem? (i := 27) rfl)
set_option maxRecDepth 100000 in
theorem gw1192 : Cond.instanceMethod yX13_thingOf ∈ lw_tbl := pk_t15 _ (List.mem_of_getElem? (i := 29) rfl)
set_option maxRecDepth 100000 in
theorem gw1193 : Cond.selects "TongueHouseModel" yX13_thingOf yX13_thingOf ∈ lw_tbl := List.mem_append_left _ (List.mem_of_getElem? (i := 203) (by decide +kernel))
set_option maxRecDepth 100000 in
theorem gw1194 : Cond.code yX13_word cX13_word 4 (some .long) ∈ lw_tbl := pk_t9 _ (List.mem_of_getElem? (i := 94) rfl)
set_option maxRecDepth 100000 in
theorem gw1195 : Cond.methodLink RX13 199 yX13_word ∈ lw_tbl := pk_t9 _ (List.mem_of_getElem? (i := 92) rfl)
set_option maxRecDepth 100000 in
theorem gw1196 : Cond.static yX13_word ∈ lw_tbl := pk_t9 _ (List.mem_of_getElem? (i := 93) rfl)
set_option maxRecDepth 100000 in
theorem gw1197 : Cond.code yX13_find cX13_find 6 (some .int) ∈ lw_tbl := pk_t13 _ (List.mem_of_getElem? (i := 19) rfl)
set_option maxRecDepth 100000 in
theorem gw1198 : Cond.methodLink RX13 739 yX13_find ∈ lw_tbl := pk_t13 _ (List.mem_of_getElem? (i := 17) rfl)
set_option maxRecDepth 100000 in
theorem gw1199 : Cond.static yX13_find ∈ lw_tbl := pk_t13 _ (List.mem_of_getElem? (i := 18) rfl)
