/-! THE WORDS of all contracts here: one list. -/
def pp_w0 : List Cond := [Cond.fieldLink RX12 19 "TongueHouse" "tape" "LTongueHouse$Text;",
  Cond.fieldLink RX12 100 "TongueHouse$Text" "size" "I",
  Cond.fieldLink RX9 22 "TongueHouse$Text" "size" "I",
  Cond.fieldLink RX9 11 "TongueHouse$Text" "bytes" "[B",
  Cond.methodLink RX9 26 yX9_put,
  Cond.code yX9_put cX9_put 2 none,
  Cond.instanceMethod yX9_put,
  Cond.selects RX9 yX9_put yX9_put,
  Cond.initialized RX9,
  Cond.methodLink RX12 111 yX9_putFour,
  Cond.code yX9_putFour cX9_putFour 2 none,
  Cond.instanceMethod yX9_putFour,
  Cond.selects RX9 yX9_putFour yX9_putFour,
  Cond.fieldLink RX13 3 "TongueHouseModel" "thrown" "I",
  Cond.fieldLink RX13 576 "TongueHouseModel" "taped" "I",
  Cond.fieldLink RX13 188 "TongueHouseModel" "tape" "[B",
  Cond.methodLink RX13 583 yX13_four,
  Cond.code yX13_four cX13_four 3 none,
  Cond.instanceMethod yX13_four,
  Cond.selects RX13 yX13_four yX13_four,
  Cond.initialized RX13,
  Cond.classLink RX12 115 "java/lang/IllegalArgumentException",
  Cond.initialized "java/lang/IllegalArgumentException",
  Cond.methodLink RX13 579 yX13_bad,
  Cond.code yX13_bad cX13_bad 1 (some .int),
  Cond.instanceMethod yX13_bad,
  Cond.selects RX13 yX13_bad yX13_bad,
  Cond.fieldLink RX12 37 "TongueHouse" "reader" "LTongueHouse$Reader;",
  Cond.fieldLink RX6 47 "TongueHouse$Reader" "rule" "I",
  Cond.fieldLink RX6 39 "TongueHouse$Reader" "store" "LTongueHouse$Store;",
  Cond.fieldLink RX8 78 "TongueHouse$Store" "isFull" "Z",
  Cond.fieldLink RX8 72 "TongueHouse$Store" "marks" "[I",
  Cond.fieldLink RX8 18 "TongueHouse$Store" "kinds" "LTongueHouse$Names;",
  Cond.fieldLink RX8 82 "TongueHouse$Names" "size" "I",
  Cond.fieldLink RX8 22 "TongueHouse$Store" "funs" "LTongueHouse$Names;",
  Cond.fieldLink RX8 25 "TongueHouse$Store" "things" "LTongueHouse$Names;",
  Cond.fieldLink RX8 28 "TongueHouse$Store" "tongueNames" "LTongueHouse$Names;",
  Cond.fieldLink RX8 85 "TongueHouse$Store" "factCount" "I",
  Cond.fieldLink RX8 88 "TongueHouse$Store" "poolSize" "I",
  Cond.fieldLink RX8 35 "TongueHouse$Store" "current" "I",
  Cond.fieldLink RX8 52 "TongueHouse$Store" "meanSize" "[I",
  Cond.methodLink RX8 95 arraycopyName,
  Cond.native arraycopyName,
  Cond.static arraycopyName,
  Cond.initialized "java/lang/System",
  Cond.methodLink RX6 51 yX8_mark,
  Cond.code yX8_mark cX8_mark 2 none,
  Cond.instanceMethod yX8_mark,
  Cond.selects RX8 yX8_mark yX8_mark,
  Cond.initialized RX8,
  Cond.fieldLink RX6 43 "TongueHouse$Reader" "tape" "LTongueHouse$Text;",
  Cond.fieldLink RX9 49 "TongueHouse$Text" "next" "I",
  Cond.fieldLink RX9 55 "TongueHouse$Text" "at" "I",
  Cond.fieldLink RX9 58 "TongueHouse$Text" "type" "I",
  Cond.methodLink RX9 52 yX9_advance,
  Cond.code yX9_advance cX9_advance 3 none,
  Cond.instanceMethod yX9_advance,
  Cond.selects RX9 yX9_advance yX9_advance,
  Cond.methodLink RX6 56 yX9_rewind,
  Cond.code yX9_rewind cX9_rewind 1 none,
  Cond.instanceMethod yX9_rewind,
  Cond.selects RX9 yX9_rewind yX9_rewind,
  Cond.methodLink RX12 120 yX6_begin,
  Cond.code yX6_begin cX6_begin 1 none,
  Cond.instanceMethod yX6_begin,
  Cond.selects RX6 yX6_begin yX6_begin,
  Cond.initialized RX6,
  Cond.fieldLink RX12 123 "TongueHouse$Text" "type" "I",
  Cond.fieldLink RX13 586 "TongueHouseModel" "textN" "I",
  Cond.methodLink RX13 682 yX13_reads,
  Cond.code yX13_reads cX13_reads 2 none,
  Cond.instanceMethod yX13_reads,
  Cond.selects RX13 yX13_reads yX13_reads,
  Cond.fieldLink RX13 286 "TongueHouseModel" "had" "[I",
  Cond.fieldLink RX13 658 "TongueHouseModel" "tongues" "I",
  Cond.fieldLink RX13 661 "TongueHouseModel" "kinds" "I",
  Cond.fieldLink RX13 664 "TongueHouseModel" "funs" "I",
  Cond.fieldLink RX13 667 "TongueHouseModel" "things" "I",
  Cond.fieldLink RX13 670 "TongueHouseModel" "facts" "I",
  Cond.fieldLink RX13 15 "TongueHouseModel" "current" "I",
  Cond.fieldLink RX13 673 "TongueHouseModel" "parts" "I",
  Cond.fieldLink RX13 637 "TongueHouseModel" "letters" "I",
  Cond.fieldLink RX13 676 "TongueHouseModel" "terms" "I",
  Cond.fieldLink RX13 56 "TongueHouseModel" "features" "[I",
  Cond.fieldLink RX13 59 "TongueHouseModel" "values" "[I",
  Cond.fieldLink RX13 62 "TongueHouseModel" "classes" "[I",
  Cond.fieldLink RX13 65 "TongueHouseModel" "sounds" "[I",
  Cond.fieldLink RX13 68 "TongueHouseModel" "patterns" "[I",
  Cond.fieldLink RX13 71 "TongueHouseModel" "words" "[I",
  Cond.fieldLink RX13 74 "TongueHouseModel" "lins" "[I",
  Cond.fieldLink RX13 679 "TongueHouseModel" "meants" "I",
  Cond.methodLink RX13 685 yX13_remember,
  Cond.code yX13_remember cX13_remember 3 none,
  Cond.instanceMethod yX13_remember,
  Cond.selects RX13 yX13_remember yX13_remember,
  Cond.fieldLink RX13 597 "TongueHouseModel" "tkEnd" "I",
  Cond.fieldLink RX13 639 "TongueHouseModel" "wrong" "I",
  Cond.fieldLink RX13 600 "TongueHouseModel" "tkAt" "I",
  Cond.fieldLink RX13 603 "TongueHouseModel" "tkNumber" "I",
  Cond.fieldLink RX13 606 "TongueHouseModel" "tkName" "J",
  Cond.fieldLink RX13 609 "TongueHouseModel" "tk" "I",
  Cond.methodLink RX13 655 yX13_next,
  Cond.code yX13_next cX13_next 2 none,
  Cond.instanceMethod yX13_next,
  Cond.selects RX13 yX13_next yX13_next,
  Cond.fieldLink RX13 695 "TongueHouseModel" "lastRule" "I",
  Cond.fieldLink RX13 698 "TongueHouseModel" "version" "I",
  Cond.fieldLink RX12 136 "TongueHouse$Reader" "rule" "I",
  Cond.fieldLink RX12 23 "TongueHouse" "out" "LTongueHouse$Text;",
  Cond.fieldLink RX13 589 "TongueHouseModel" "outN" "I",
  Cond.fieldLink RX12 12 "TongueHouse" "store" "LTongueHouse$Store;",
  Cond.fieldLink RX12 145 "TongueHouse$Store" "kinds" "LTongueHouse$Names;",
  Cond.methodLink RX9 80 yX9_rewind,
  Cond.methodLink RX12 165 yX9_onlyName,
  Cond.code yX9_onlyName cX9_onlyName 3 (some .long),
  Cond.instanceMethod yX9_onlyName,
  Cond.selects RX9 yX9_onlyName yX9_onlyName,
  Cond.fieldLink RX12 149 "TongueHouse$Store" "tongueNames" "LTongueHouse$Names;",
  Cond.fieldLink RX12 239 "TongueHouse$Names" "size" "I",
  Cond.methodLink RX12 155 yX12_tongueAt,
  Cond.code yX12_tongueAt cX12_tongueAt 2 (some (.object "TongueHouse$Tongue")),
  Cond.instanceMethod yX12_tongueAt,
  Cond.selects RX12 yX12_tongueAt yX12_tongueAt,
  Cond.initialized RX12,
  Cond.fieldLink RX12 152 "TongueHouse$Store" "funs" "LTongueHouse$Names;",
  Cond.fieldLink RX12 76 "TongueHouse" "finder" "LTongueHouse$Finder;",
  Cond.fieldLink RX1 53 "TongueHouse$Finder" "analyses" "I",
  Cond.methodLink RX12 203 yX1_tellAnalysis,
  Cond.code yX1_tellAnalysis cX1_tellAnalysis 6 (some .int),
  Cond.instanceMethod yX1_tellAnalysis,
  Cond.selects RX1 yX1_tellAnalysis yX1_tellAnalysis,
  Cond.initialized RX1,
  Cond.fieldLink RX13 854 "TongueHouseModel" "foundN" "I",
  Cond.fieldLink RX1 113 "TongueHouse$Finder" "guesses" "I",
  Cond.methodLink RX12 226 yX1_tellGuess,
  Cond.code yX1_tellGuess cX1_tellGuess 3 (some .int),
  Cond.instanceMethod yX1_tellGuess,
  Cond.selects RX1 yX1_tellGuess yX1_tellGuess,
  Cond.fieldLink RX13 870 "TongueHouseModel" "guesses" "I",
  Cond.fieldLink RX1 165 "TongueHouse$Finder" "hits" "I",
  Cond.methodLink RX12 310 yX1_tellHit,
  Cond.code yX1_tellHit cX1_tellHit 3 (some .int),
  Cond.instanceMethod yX1_tellHit,
  Cond.selects RX1 yX1_tellHit yX1_tellHit,
  Cond.fieldLink RX13 1052 "TongueHouseModel" "hits" "I",
  Cond.fieldLink RX12 55 "TongueHouse" "ranking" "LTongueHouse$Ranking;",
  Cond.fieldLink RX5 61 "TongueHouse$Ranking" "isOpen" "Z",
  Cond.methodLink RX12 236 yX5_total,
  Cond.code yX5_total cX5_total 5 (some .long),
  Cond.instanceMethod yX5_total,
  Cond.selects RX5 yX5_total yX5_total,
  Cond.initialized RX5,
  Cond.fieldLink RX13 984 "TongueHouseModel" "all" "J",
  Cond.methodLink RX5 146 yX5_rank,
  Cond.code yX5_rank cX5_rank 4 none,
  Cond.instanceMethod yX5_rank,
  Cond.selects RX5 yX5_rank yX5_rank,
  Cond.fieldLink RX5 68 "TongueHouse$Ranking" "topSize" "I",
  Cond.methodLink RX12 246 yX5_priceOf,
  Cond.code yX5_priceOf cX5_priceOf 2 (some .int),
  Cond.instanceMethod yX5_priceOf,
  Cond.selects RX5 yX5_priceOf yX5_priceOf,
  Cond.fieldLink RX13 977 "TongueHouseModel" "readings" "I",
  Cond.fieldLink RX12 289 "TongueHouse" "candidateCount" "I",
  Cond.fieldLink RX13 1046 "TongueHouseModel" "candidates" "I",
  Cond.methodLink RX12 249 yX12_checkPlace,
  Cond.code yX12_checkPlace cX12_checkPlace 1 none,
  Cond.static yX12_checkPlace,
  Cond.fieldLink RX12 82 "TongueHouse" "planted" "[[I",
  Cond.methodLink RX12 252 yX5_spell,
  Cond.code yX5_spell cX5_spell 11 (some .int),
  Cond.instanceMethod yX5_spell,
  Cond.selects RX5 yX5_spell yX5_spell,
  Cond.methodLink RX13 1017 yX13_noPlace,
  Cond.code yX13_noPlace cX13_noPlace 2 (some .boolean),
  Cond.instanceMethod yX13_noPlace,
  Cond.selects RX13 yX13_noPlace yX13_noPlace,
  Cond.fieldLink RX6 67 "TongueHouse$Text" "type" "I",
  Cond.fieldLink RX6 61 "TongueHouse$Text" "at" "I",
  Cond.methodLink RX12 262 yX6_readTree,
  Cond.code yX6_readTree cX6_readTree 5 (some .int),
  Cond.instanceMethod yX6_readTree,
  Cond.selects RX6 yX6_readTree yX6_readTree,
  Cond.fieldLink RX13 1011 "TongueHouseModel" "treeN" "I",
  Cond.methodLink RX13 1020 yX13_noTree,
  Cond.code yX13_noTree cX13_noTree 4 (some .boolean),
  Cond.instanceMethod yX13_noTree,
  Cond.selects RX13 yX13_noTree yX13_noTree,
  Cond.fieldLink RX12 85 "TongueHouse" "plantedSize" "[I",
  Cond.fieldLink RX13 467 "TongueHouseModel" "placeN" "[I",
  Cond.methodLink RX13 1030 yX13_takes,
  Cond.code yX13_takes cX13_takes 3 (some .int),
  Cond.instanceMethod yX13_takes,
  Cond.selects RX13 yX13_takes yX13_takes,
  Cond.methodLink RX12 278 yX12_meaningOf,
  Cond.code yX12_meaningOf cX12_meaningOf 2 (some .int),
  Cond.instanceMethod yX12_meaningOf,
  Cond.selects RX12 yX12_meaningOf yX12_meaningOf,
  Cond.methodLink RX12 355 yX8_sizeOf,
  Cond.code yX8_sizeOf cX8_sizeOf 2 (some .int),
  Cond.instanceMethod yX8_sizeOf,
  Cond.selects RX8 yX8_sizeOf yX8_sizeOf,
  Cond.fieldLink RX12 46 "TongueHouse" "chart" "LTongueHouse$Chart;",
  Cond.fieldLink RX12 346 "TongueHouse$Chart" "nodes" "I",
  Cond.fieldLink RX12 349 "TongueHouse$Chart" "ways" "I",
  Cond.fieldLink RX12 352 "TongueHouse$Finder" "collected" "I",
  Cond.fieldLink RX13 989 "TongueHouseModel" "noted" "I",
  Cond.fieldLink RX13 992 "TongueHouseModel" "notedWays" "I",
  Cond.fieldLink RX13 1049 "TongueHouseModel" "collected" "I",
  Cond.methodLink RX13 845 yX13_noTongue,
  Cond.code yX13_noTongue cX13_noTongue 2 (some .boolean),
  Cond.instanceMethod yX13_noTongue,
  Cond.selects RX13 yX13_noTongue yX13_noTongue,
  Cond.methodLink RL 7 yX12_feed,
  Cond.code yX12_feed cX12_feed 6 (some .int),
  Cond.instanceMethod yX12_feed,
  Cond.selects RX12 yX12_feed yX12_feed,
  Cond.methodLink RL 15 yX12_end,
  Cond.code yX12_end cX12_end 2 (some .int),
  Cond.instanceMethod yX12_end,
  Cond.selects RX12 yX12_end yX12_end,
  Cond.classLink RL 19 "java/lang/IllegalArgumentException",
  Cond.methodLink RL 21 yX12_number,
  Cond.code yX12_number cX12_number 6 (some .int),
  Cond.instanceMethod yX12_number,
  Cond.selects RX12 yX12_number yX12_number,
  Cond.methodLink RL 31 yX12_analysis,
  Cond.code yX12_analysis cX12_analysis 3 (some .int),
  Cond.instanceMethod yX12_analysis,
  Cond.selects RX12 yX12_analysis yX12_analysis,
  Cond.methodLink RL 41 yX12_guessed,
  Cond.code yX12_guessed cX12_guessed 3 (some .int),
  Cond.instanceMethod yX12_guessed,
  Cond.selects RX12 yX12_guessed yX12_guessed,
  Cond.methodLink RL 82 yX12_hit,
  Cond.code yX12_hit cX12_hit 3 (some .int),
  Cond.instanceMethod yX12_hit,
  Cond.selects RX12 yX12_hit yX12_hit,
  Cond.methodLink RL 51 yX12_reading,
  Cond.code yX12_reading cX12_reading 4 (some .int),
  Cond.instanceMethod yX12_reading,
  Cond.selects RX12 yX12_reading yX12_reading,
  Cond.methodLink RL 54 yX12_tree,
  Cond.code yX12_tree cX12_tree 3 (some .int),
  Cond.instanceMethod yX12_tree,
  Cond.selects RX12 yX12_tree yX12_tree,
  Cond.methodLink RL 57 yX12_show,
  Cond.code yX12_show cX12_show 2 (some .int),
  Cond.instanceMethod yX12_show,
  Cond.selects RX12 yX12_show yX12_show,
  Cond.methodLink RL 60 yX12_same,
  Cond.code yX12_same cX12_same 4 (some .boolean),
  Cond.instanceMethod yX12_same,
  Cond.selects RX12 yX12_same yX12_same,
  Cond.methodLink RL 67 yX12_mean,
  Cond.code yX12_mean cX12_mean 3 (some .int),
  Cond.instanceMethod yX12_mean,
  Cond.selects RX12 yX12_mean yX12_mean,
  Cond.methodLink RL 70 yX12_truth,
  Cond.code yX12_truth cX12_truth 3 (some .int),
  Cond.instanceMethod yX12_truth,
  Cond.selects RX12 yX12_truth yX12_truth,
  Cond.methodLink RL 88 yX12_count,
  Cond.code yX12_count cX12_count 3 (some .int),
  Cond.instanceMethod yX12_count,
  Cond.selects RX12 yX12_count yX12_count,
  Cond.methodLink RL 25 yX12_sounds,
  Cond.code yX12_sounds cX12_sounds 4 (some .int),
  Cond.instanceMethod yX12_sounds,
  Cond.selects RX12 yX12_sounds yX12_sounds,
  Cond.methodLink RL 28 yX12_analyse,
  Cond.code yX12_analyse cX12_analyse 4 (some .int),
  Cond.instanceMethod yX12_analyse,
  Cond.selects RX12 yX12_analyse yX12_analyse,
  Cond.methodLink RL 34 yX12_cell,
  Cond.code yX12_cell cX12_cell 7 (some .int),
  Cond.instanceMethod yX12_cell,
  Cond.selects RX12 yX12_cell yX12_cell,
  Cond.methodLink RL 38 yX12_guess,
  Cond.code yX12_guess cX12_guess 4 (some .int),
  Cond.instanceMethod yX12_guess,
  Cond.selects RX12 yX12_guess yX12_guess,
  Cond.methodLink RL 44 yX12_parse,
  Cond.code yX12_parse cX12_parse 5 (some .int),
  Cond.instanceMethod yX12_parse,
  Cond.selects RX12 yX12_parse yX12_parse,
  Cond.methodLink RL 47 yX12_bar,
  Cond.code yX12_bar cX12_bar 3 (some .long),
  Cond.instanceMethod yX12_bar,
  Cond.selects RX12 yX12_bar yX12_bar,
  Cond.methodLink RL 64 yX12_say,
  Cond.code yX12_say cX12_say 5 (some .int),
  Cond.instanceMethod yX12_say,
  Cond.selects RX12 yX12_say yX12_say,
  Cond.methodLink RL 73 yX12_swap,
  Cond.code yX12_swap cX12_swap 9 (some .int),
  Cond.instanceMethod yX12_swap,
  Cond.selects RX12 yX12_swap yX12_swap,
  Cond.methodLink RL 76 yX12_add,
  Cond.code yX12_add cX12_add 3 (some .int),
  Cond.instanceMethod yX12_add,
  Cond.selects RX12 yX12_add yX12_add,
  Cond.methodLink RL 79 yX12_ask,
  Cond.code yX12_ask cX12_ask 4 (some .int),
  Cond.instanceMethod yX12_ask,
  Cond.selects RX12 yX12_ask yX12_ask,
  Cond.methodLink RL 85 yX12_mend,
  Cond.code yX12_mend cX12_mend 10 (some .int),
  Cond.instanceMethod yX12_mend,
  Cond.selects RX12 yX12_mend yX12_mend,
  Cond.fieldLink RJ0 38 "java/lang/String" "COMPACT_STRINGS" "Z",
  Cond.fieldLink RJ0 15 "java/lang/String" "coder" "B",
  Cond.fieldLink RJ0 9 "java/lang/String" "value" "[B",
  Cond.code yJ0_coder_7d493 cJ0_coder_7d493 1 (some .byte),
  Cond.methodLink RJ0 335 yJ0_coder_7d493,
  Cond.instanceMethod yJ0_coder_7d493,
  Cond.selects RJ0 yJ0_coder_7d493 yJ0_coder_7d493,
  Cond.initialized RJ0,
  Cond.fieldLink RJ0 1053 "jdk/internal/util/Preconditions" "SIOOBE_FORMATTER" "Ljava/util/function/BiFunction;",
  Cond.code yJ3_checkIndex_8e157 cJ3_checkIndex_8e157 3 (some .int),
  Cond.methodLink RJ0 1059 yJ3_checkIndex_8e157,
  Cond.static yJ3_checkIndex_8e157,
  Cond.initialized RJ3,
  Cond.code yJ0_checkIndex_df160 cJ0_checkIndex_df160 2 none,
  Cond.methodLink RJ1 9 yJ0_checkIndex_df160,
  Cond.static yJ0_checkIndex_df160,
  Cond.code yJ0_isLatin1_aae02 cJ0_isLatin1_aae02 1 (some .boolean),
  Cond.methodLink RJ0 492 yJ0_isLatin1_aae02,
  Cond.instanceMethod yJ0_isLatin1_aae02,
  Cond.selects RJ0 yJ0_isLatin1_aae02 yJ0_isLatin1_aae02,
  Cond.code yJ1_charAt_3b067 cJ1_charAt_3b067 2 (some .char),
  Cond.methodLink RJ0 495 yJ1_charAt_3b067,
  Cond.static yJ1_charAt_3b067,
  Cond.initialized RJ1,
  Cond.code yJ0_length_8abf5 cJ0_length_8abf5 1 (some .int),
  Cond.methodLink RX13 627 yJ0_length_8abf5,
  Cond.instanceMethod yJ0_length_8abf5,
  Cond.selects RJ0 yJ0_length_8abf5 yJ0_length_8abf5,
  Cond.code yJ0_charAt_5068e cJ0_charAt_5068e 2 (some .char),
  Cond.methodLink RX13 630 yJ0_charAt_5068e,
  Cond.instanceMethod yJ0_charAt_5068e,
  Cond.selects RJ0 yJ0_charAt_5068e yJ0_charAt_5068e]
theorem pp_w0_good : pp_w0.all goodWord = true := by decide +kernel
def pp_ws : List Cond := pp_w0 ++ (px_atI.filter goodWord ++ (u_ws RX0 TX0 22 ++ (u_ws RX1 TX1 19 ++ (u_ws RX4 TX4 2 ++ (u_ws RX5 TX5 19 ++ (u_ws RX6 TX6 19 ++ (u_ws RX8 TX8 21 ++ (u_ws RX9 TX9 10 ++ (u_ws RX12 TX12 17 ++ (u_ws RX13 TX13 229))))))))))
theorem pp0 : Cond.fieldLink RX12 19 "TongueHouse" "tape" "LTongueHouse$Text;" ∈ pp_ws := List.mem_append_left _ (List.mem_of_getElem? (i := 0) rfl)
theorem pp1 : Cond.fieldLink RX12 100 "TongueHouse$Text" "size" "I" ∈ pp_ws := List.mem_append_left _ (List.mem_of_getElem? (i := 1) rfl)
theorem pp2 : Cond.fieldLink RX9 22 "TongueHouse$Text" "size" "I" ∈ pp_ws := List.mem_append_left _ (List.mem_of_getElem? (i := 2) rfl)
theorem pp3 : Cond.fieldLink RX9 11 "TongueHouse$Text" "bytes" "[B" ∈ pp_ws := List.mem_append_left _ (List.mem_of_getElem? (i := 3) rfl)
theorem pp4 : Cond.methodLink RX9 26 yX9_put ∈ pp_ws := List.mem_append_left _ (List.mem_of_getElem? (i := 4) rfl)
theorem pp5 : Cond.code yX9_put cX9_put 2 none ∈ pp_ws := List.mem_append_left _ (List.mem_of_getElem? (i := 5) rfl)
theorem pp6 : Cond.instanceMethod yX9_put ∈ pp_ws := List.mem_append_left _ (List.mem_of_getElem? (i := 6) rfl)
theorem pp7 : Cond.selects RX9 yX9_put yX9_put ∈ pp_ws := List.mem_append_left _ (List.mem_of_getElem? (i := 7) rfl)
theorem pp8 : Cond.initialized RX9 ∈ pp_ws := List.mem_append_left _ (List.mem_of_getElem? (i := 8) rfl)
theorem pp9 : Cond.methodLink RX12 111 yX9_putFour ∈ pp_ws := List.mem_append_left _ (List.mem_of_getElem? (i := 9) rfl)
theorem pp10 : Cond.code yX9_putFour cX9_putFour 2 none ∈ pp_ws := List.mem_append_left _ (List.mem_of_getElem? (i := 10) rfl)
theorem pp11 : Cond.instanceMethod yX9_putFour ∈ pp_ws := List.mem_append_left _ (List.mem_of_getElem? (i := 11) rfl)
theorem pp12 : Cond.selects RX9 yX9_putFour yX9_putFour ∈ pp_ws := List.mem_append_left _ (List.mem_of_getElem? (i := 12) rfl)
theorem pp13 : Cond.fieldLink RX13 3 "TongueHouseModel" "thrown" "I" ∈ pp_ws := List.mem_append_left _ (List.mem_of_getElem? (i := 13) rfl)
theorem pp14 : Cond.fieldLink RX13 576 "TongueHouseModel" "taped" "I" ∈ pp_ws := List.mem_append_left _ (List.mem_of_getElem? (i := 14) rfl)
theorem pp15 : Cond.fieldLink RX13 188 "TongueHouseModel" "tape" "[B" ∈ pp_ws := List.mem_append_left _ (List.mem_of_getElem? (i := 15) rfl)
theorem pp16 : Cond.methodLink RX13 583 yX13_four ∈ pp_ws := List.mem_append_left _ (List.mem_of_getElem? (i := 16) rfl)
theorem pp17 : Cond.code yX13_four cX13_four 3 none ∈ pp_ws := List.mem_append_left _ (List.mem_of_getElem? (i := 17) rfl)
theorem pp18 : Cond.instanceMethod yX13_four ∈ pp_ws := List.mem_append_left _ (List.mem_of_getElem? (i := 18) rfl)
theorem pp19 : Cond.selects RX13 yX13_four yX13_four ∈ pp_ws := List.mem_append_left _ (List.mem_of_getElem? (i := 19) rfl)
theorem pp20 : Cond.initialized RX13 ∈ pp_ws := List.mem_append_left _ (List.mem_of_getElem? (i := 20) rfl)
theorem pp21 : Cond.classLink RX12 115 "java/lang/IllegalArgumentException" ∈ pp_ws := List.mem_append_left _ (List.mem_of_getElem? (i := 21) rfl)
theorem pp22 : Cond.initialized "java/lang/IllegalArgumentException" ∈ pp_ws := List.mem_append_left _ (List.mem_of_getElem? (i := 22) rfl)
theorem pp23 : Cond.methodLink RX13 579 yX13_bad ∈ pp_ws := List.mem_append_left _ (List.mem_of_getElem? (i := 23) rfl)
theorem pp24 : Cond.code yX13_bad cX13_bad 1 (some .int) ∈ pp_ws := List.mem_append_left _ (List.mem_of_getElem? (i := 24) rfl)
theorem pp25 : Cond.instanceMethod yX13_bad ∈ pp_ws := List.mem_append_left _ (List.mem_of_getElem? (i := 25) rfl)
theorem pp26 : Cond.selects RX13 yX13_bad yX13_bad ∈ pp_ws := List.mem_append_left _ (List.mem_of_getElem? (i := 26) rfl)
theorem pp27 : Cond.fieldLink RX12 37 "TongueHouse" "reader" "LTongueHouse$Reader;" ∈ pp_ws := List.mem_append_left _ (List.mem_of_getElem? (i := 27) rfl)
theorem pp28 : Cond.fieldLink RX6 47 "TongueHouse$Reader" "rule" "I" ∈ pp_ws := List.mem_append_left _ (List.mem_of_getElem? (i := 28) rfl)
theorem pp29 : Cond.fieldLink RX6 39 "TongueHouse$Reader" "store" "LTongueHouse$Store;" ∈ pp_ws := List.mem_append_left _ (List.mem_of_getElem? (i := 29) rfl)
theorem pp30 : Cond.fieldLink RX8 78 "TongueHouse$Store" "isFull" "Z" ∈ pp_ws := List.mem_append_left _ (List.mem_of_getElem? (i := 30) rfl)
theorem pp31 : Cond.fieldLink RX8 72 "TongueHouse$Store" "marks" "[I" ∈ pp_ws := List.mem_append_left _ (List.mem_of_getElem? (i := 31) rfl)
theorem pp32 : Cond.fieldLink RX8 18 "TongueHouse$Store" "kinds" "LTongueHouse$Names;" ∈ pp_ws := List.mem_append_left _ (List.mem_of_getElem? (i := 32) rfl)
theorem pp33 : Cond.fieldLink RX8 82 "TongueHouse$Names" "size" "I" ∈ pp_ws := List.mem_append_left _ (List.mem_of_getElem? (i := 33) rfl)
theorem pp34 : Cond.fieldLink RX8 22 "TongueHouse$Store" "funs" "LTongueHouse$Names;" ∈ pp_ws := List.mem_append_left _ (List.mem_of_getElem? (i := 34) rfl)
theorem pp35 : Cond.fieldLink RX8 25 "TongueHouse$Store" "things" "LTongueHouse$Names;" ∈ pp_ws := List.mem_append_left _ (List.mem_of_getElem? (i := 35) rfl)
theorem pp36 : Cond.fieldLink RX8 28 "TongueHouse$Store" "tongueNames" "LTongueHouse$Names;" ∈ pp_ws := List.mem_append_left _ (List.mem_of_getElem? (i := 36) rfl)
theorem pp37 : Cond.fieldLink RX8 85 "TongueHouse$Store" "factCount" "I" ∈ pp_ws := List.mem_append_left _ (List.mem_of_getElem? (i := 37) rfl)
theorem pp38 : Cond.fieldLink RX8 88 "TongueHouse$Store" "poolSize" "I" ∈ pp_ws := List.mem_append_left _ (List.mem_of_getElem? (i := 38) rfl)
theorem pp39 : Cond.fieldLink RX8 35 "TongueHouse$Store" "current" "I" ∈ pp_ws := List.mem_append_left _ (List.mem_of_getElem? (i := 39) rfl)
theorem pp40 : Cond.fieldLink RX8 52 "TongueHouse$Store" "meanSize" "[I" ∈ pp_ws := List.mem_append_left _ (List.mem_of_getElem? (i := 40) rfl)
theorem pp41 : Cond.methodLink RX8 95 arraycopyName ∈ pp_ws := List.mem_append_left _ (List.mem_of_getElem? (i := 41) rfl)
theorem pp42 : Cond.native arraycopyName ∈ pp_ws := List.mem_append_left _ (List.mem_of_getElem? (i := 42) rfl)
theorem pp43 : Cond.static arraycopyName ∈ pp_ws := List.mem_append_left _ (List.mem_of_getElem? (i := 43) rfl)
theorem pp44 : Cond.initialized "java/lang/System" ∈ pp_ws := List.mem_append_left _ (List.mem_of_getElem? (i := 44) rfl)
theorem pp45 : Cond.methodLink RX6 51 yX8_mark ∈ pp_ws := List.mem_append_left _ (List.mem_of_getElem? (i := 45) rfl)
theorem pp46 : Cond.code yX8_mark cX8_mark 2 none ∈ pp_ws := List.mem_append_left _ (List.mem_of_getElem? (i := 46) rfl)
theorem pp47 : Cond.instanceMethod yX8_mark ∈ pp_ws := List.mem_append_left _ (List.mem_of_getElem? (i := 47) rfl)
theorem pp48 : Cond.selects RX8 yX8_mark yX8_mark ∈ pp_ws := List.mem_append_left _ (List.mem_of_getElem? (i := 48) rfl)
theorem pp49 : Cond.initialized RX8 ∈ pp_ws := List.mem_append_left _ (List.mem_of_getElem? (i := 49) rfl)
theorem pp50 : Cond.fieldLink RX6 43 "TongueHouse$Reader" "tape" "LTongueHouse$Text;" ∈ pp_ws := List.mem_append_left _ (List.mem_of_getElem? (i := 50) rfl)
theorem pp51 : Cond.fieldLink RX9 49 "TongueHouse$Text" "next" "I" ∈ pp_ws := List.mem_append_left _ (List.mem_of_getElem? (i := 51) rfl)
theorem pp52 : Cond.fieldLink RX9 55 "TongueHouse$Text" "at" "I" ∈ pp_ws := List.mem_append_left _ (List.mem_of_getElem? (i := 52) rfl)
theorem pp53 : Cond.fieldLink RX9 58 "TongueHouse$Text" "type" "I" ∈ pp_ws := List.mem_append_left _ (List.mem_of_getElem? (i := 53) rfl)
theorem pp54 : Cond.methodLink RX9 52 yX9_advance ∈ pp_ws := List.mem_append_left _ (List.mem_of_getElem? (i := 54) rfl)
theorem pp55 : Cond.code yX9_advance cX9_advance 3 none ∈ pp_ws := List.mem_append_left _ (List.mem_of_getElem? (i := 55) rfl)
theorem pp56 : Cond.instanceMethod yX9_advance ∈ pp_ws := List.mem_append_left _ (List.mem_of_getElem? (i := 56) rfl)
theorem pp57 : Cond.selects RX9 yX9_advance yX9_advance ∈ pp_ws := List.mem_append_left _ (List.mem_of_getElem? (i := 57) rfl)
theorem pp58 : Cond.methodLink RX6 56 yX9_rewind ∈ pp_ws := List.mem_append_left _ (List.mem_of_getElem? (i := 58) rfl)
theorem pp59 : Cond.code yX9_rewind cX9_rewind 1 none ∈ pp_ws := List.mem_append_left _ (List.mem_of_getElem? (i := 59) rfl)
theorem pp60 : Cond.instanceMethod yX9_rewind ∈ pp_ws := List.mem_append_left _ (List.mem_of_getElem? (i := 60) rfl)
theorem pp61 : Cond.selects RX9 yX9_rewind yX9_rewind ∈ pp_ws := List.mem_append_left _ (List.mem_of_getElem? (i := 61) rfl)
theorem pp62 : Cond.methodLink RX12 120 yX6_begin ∈ pp_ws := List.mem_append_left _ (List.mem_of_getElem? (i := 62) rfl)
theorem pp63 : Cond.code yX6_begin cX6_begin 1 none ∈ pp_ws := List.mem_append_left _ (List.mem_of_getElem? (i := 63) rfl)
theorem pp64 : Cond.instanceMethod yX6_begin ∈ pp_ws := List.mem_append_left _ (List.mem_of_getElem? (i := 64) rfl)
theorem pp65 : Cond.selects RX6 yX6_begin yX6_begin ∈ pp_ws := List.mem_append_left _ (List.mem_of_getElem? (i := 65) rfl)
theorem pp66 : Cond.initialized RX6 ∈ pp_ws := List.mem_append_left _ (List.mem_of_getElem? (i := 66) rfl)
theorem pp67 : Cond.fieldLink RX12 123 "TongueHouse$Text" "type" "I" ∈ pp_ws := List.mem_append_left _ (List.mem_of_getElem? (i := 67) rfl)
theorem pp68 : Cond.fieldLink RX13 586 "TongueHouseModel" "textN" "I" ∈ pp_ws := List.mem_append_left _ (List.mem_of_getElem? (i := 68) rfl)
theorem pp69 : Cond.methodLink RX13 682 yX13_reads ∈ pp_ws := List.mem_append_left _ (List.mem_of_getElem? (i := 69) rfl)
theorem pp70 : Cond.code yX13_reads cX13_reads 2 none ∈ pp_ws := List.mem_append_left _ (List.mem_of_getElem? (i := 70) rfl)
theorem pp71 : Cond.instanceMethod yX13_reads ∈ pp_ws := List.mem_append_left _ (List.mem_of_getElem? (i := 71) rfl)
theorem pp72 : Cond.selects RX13 yX13_reads yX13_reads ∈ pp_ws := List.mem_append_left _ (List.mem_of_getElem? (i := 72) rfl)
theorem pp73 : Cond.fieldLink RX13 286 "TongueHouseModel" "had" "[I" ∈ pp_ws := List.mem_append_left _ (List.mem_of_getElem? (i := 73) rfl)
theorem pp74 : Cond.fieldLink RX13 658 "TongueHouseModel" "tongues" "I" ∈ pp_ws := List.mem_append_left _ (List.mem_of_getElem? (i := 74) rfl)
theorem pp75 : Cond.fieldLink RX13 661 "TongueHouseModel" "kinds" "I" ∈ pp_ws := List.mem_append_left _ (List.mem_of_getElem? (i := 75) rfl)
theorem pp76 : Cond.fieldLink RX13 664 "TongueHouseModel" "funs" "I" ∈ pp_ws := List.mem_append_left _ (List.mem_of_getElem? (i := 76) rfl)
theorem pp77 : Cond.fieldLink RX13 667 "TongueHouseModel" "things" "I" ∈ pp_ws := List.mem_append_left _ (List.mem_of_getElem? (i := 77) rfl)
theorem pp78 : Cond.fieldLink RX13 670 "TongueHouseModel" "facts" "I" ∈ pp_ws := List.mem_append_left _ (List.mem_of_getElem? (i := 78) rfl)
theorem pp79 : Cond.fieldLink RX13 15 "TongueHouseModel" "current" "I" ∈ pp_ws := List.mem_append_left _ (List.mem_of_getElem? (i := 79) rfl)
theorem pp80 : Cond.fieldLink RX13 673 "TongueHouseModel" "parts" "I" ∈ pp_ws := List.mem_append_left _ (List.mem_of_getElem? (i := 80) rfl)
theorem pp81 : Cond.fieldLink RX13 637 "TongueHouseModel" "letters" "I" ∈ pp_ws := List.mem_append_left _ (List.mem_of_getElem? (i := 81) rfl)
theorem pp82 : Cond.fieldLink RX13 676 "TongueHouseModel" "terms" "I" ∈ pp_ws := List.mem_append_left _ (List.mem_of_getElem? (i := 82) rfl)
theorem pp83 : Cond.fieldLink RX13 56 "TongueHouseModel" "features" "[I" ∈ pp_ws := List.mem_append_left _ (List.mem_of_getElem? (i := 83) rfl)
theorem pp84 : Cond.fieldLink RX13 59 "TongueHouseModel" "values" "[I" ∈ pp_ws := List.mem_append_left _ (List.mem_of_getElem? (i := 84) rfl)
theorem pp85 : Cond.fieldLink RX13 62 "TongueHouseModel" "classes" "[I" ∈ pp_ws := List.mem_append_left _ (List.mem_of_getElem? (i := 85) rfl)
theorem pp86 : Cond.fieldLink RX13 65 "TongueHouseModel" "sounds" "[I" ∈ pp_ws := List.mem_append_left _ (List.mem_of_getElem? (i := 86) rfl)
theorem pp87 : Cond.fieldLink RX13 68 "TongueHouseModel" "patterns" "[I" ∈ pp_ws := List.mem_append_left _ (List.mem_of_getElem? (i := 87) rfl)
theorem pp88 : Cond.fieldLink RX13 71 "TongueHouseModel" "words" "[I" ∈ pp_ws := List.mem_append_left _ (List.mem_of_getElem? (i := 88) rfl)
theorem pp89 : Cond.fieldLink RX13 74 "TongueHouseModel" "lins" "[I" ∈ pp_ws := List.mem_append_left _ (List.mem_of_getElem? (i := 89) rfl)
theorem pp90 : Cond.fieldLink RX13 679 "TongueHouseModel" "meants" "I" ∈ pp_ws := List.mem_append_left _ (List.mem_of_getElem? (i := 90) rfl)
theorem pp91 : Cond.methodLink RX13 685 yX13_remember ∈ pp_ws := List.mem_append_left _ (List.mem_of_getElem? (i := 91) rfl)
theorem pp92 : Cond.code yX13_remember cX13_remember 3 none ∈ pp_ws := List.mem_append_left _ (List.mem_of_getElem? (i := 92) rfl)
theorem pp93 : Cond.instanceMethod yX13_remember ∈ pp_ws := List.mem_append_left _ (List.mem_of_getElem? (i := 93) rfl)
theorem pp94 : Cond.selects RX13 yX13_remember yX13_remember ∈ pp_ws := List.mem_append_left _ (List.mem_of_getElem? (i := 94) rfl)
theorem pp95 : Cond.fieldLink RX13 597 "TongueHouseModel" "tkEnd" "I" ∈ pp_ws := List.mem_append_left _ (List.mem_of_getElem? (i := 95) rfl)
theorem pp96 : Cond.fieldLink RX13 639 "TongueHouseModel" "wrong" "I" ∈ pp_ws := List.mem_append_left _ (List.mem_of_getElem? (i := 96) rfl)
theorem pp97 : Cond.fieldLink RX13 600 "TongueHouseModel" "tkAt" "I" ∈ pp_ws := List.mem_append_left _ (List.mem_of_getElem? (i := 97) rfl)
theorem pp98 : Cond.fieldLink RX13 603 "TongueHouseModel" "tkNumber" "I" ∈ pp_ws := List.mem_append_left _ (List.mem_of_getElem? (i := 98) rfl)
theorem pp99 : Cond.fieldLink RX13 606 "TongueHouseModel" "tkName" "J" ∈ pp_ws := List.mem_append_left _ (List.mem_of_getElem? (i := 99) rfl)
theorem pp100 : Cond.fieldLink RX13 609 "TongueHouseModel" "tk" "I" ∈ pp_ws := List.mem_append_left _ (List.mem_of_getElem? (i := 100) rfl)
theorem pp101 : Cond.methodLink RX13 655 yX13_next ∈ pp_ws := List.mem_append_left _ (List.mem_of_getElem? (i := 101) rfl)
theorem pp102 : Cond.code yX13_next cX13_next 2 none ∈ pp_ws := List.mem_append_left _ (List.mem_of_getElem? (i := 102) rfl)
theorem pp103 : Cond.instanceMethod yX13_next ∈ pp_ws := List.mem_append_left _ (List.mem_of_getElem? (i := 103) rfl)
theorem pp104 : Cond.selects RX13 yX13_next yX13_next ∈ pp_ws := List.mem_append_left _ (List.mem_of_getElem? (i := 104) rfl)
theorem pp105 : Cond.fieldLink RX13 695 "TongueHouseModel" "lastRule" "I" ∈ pp_ws := List.mem_append_left _ (List.mem_of_getElem? (i := 105) rfl)
theorem pp106 : Cond.fieldLink RX13 698 "TongueHouseModel" "version" "I" ∈ pp_ws := List.mem_append_left _ (List.mem_of_getElem? (i := 106) rfl)
theorem pp107 : Cond.fieldLink RX12 136 "TongueHouse$Reader" "rule" "I" ∈ pp_ws := List.mem_append_left _ (List.mem_of_getElem? (i := 107) rfl)
theorem pp108 : Cond.fieldLink RX12 23 "TongueHouse" "out" "LTongueHouse$Text;" ∈ pp_ws := List.mem_append_left _ (List.mem_of_getElem? (i := 108) rfl)
theorem pp109 : Cond.fieldLink RX13 589 "TongueHouseModel" "outN" "I" ∈ pp_ws := List.mem_append_left _ (List.mem_of_getElem? (i := 109) rfl)
theorem pp110 : Cond.fieldLink RX12 12 "TongueHouse" "store" "LTongueHouse$Store;" ∈ pp_ws := List.mem_append_left _ (List.mem_of_getElem? (i := 110) rfl)
theorem pp111 : Cond.fieldLink RX12 145 "TongueHouse$Store" "kinds" "LTongueHouse$Names;" ∈ pp_ws := List.mem_append_left _ (List.mem_of_getElem? (i := 111) rfl)
theorem pp112 : Cond.methodLink RX9 80 yX9_rewind ∈ pp_ws := List.mem_append_left _ (List.mem_of_getElem? (i := 112) rfl)
theorem pp113 : Cond.methodLink RX12 165 yX9_onlyName ∈ pp_ws := List.mem_append_left _ (List.mem_of_getElem? (i := 113) rfl)
theorem pp114 : Cond.code yX9_onlyName cX9_onlyName 3 (some .long) ∈ pp_ws := List.mem_append_left _ (List.mem_of_getElem? (i := 114) rfl)
theorem pp115 : Cond.instanceMethod yX9_onlyName ∈ pp_ws := List.mem_append_left _ (List.mem_of_getElem? (i := 115) rfl)
theorem pp116 : Cond.selects RX9 yX9_onlyName yX9_onlyName ∈ pp_ws := List.mem_append_left _ (List.mem_of_getElem? (i := 116) rfl)
theorem pp117 : Cond.fieldLink RX12 149 "TongueHouse$Store" "tongueNames" "LTongueHouse$Names;" ∈ pp_ws := List.mem_append_left _ (List.mem_of_getElem? (i := 117) rfl)
theorem pp118 : Cond.fieldLink RX12 239 "TongueHouse$Names" "size" "I" ∈ pp_ws := List.mem_append_left _ (List.mem_of_getElem? (i := 118) rfl)
theorem pp119 : Cond.methodLink RX12 155 yX12_tongueAt ∈ pp_ws := List.mem_append_left _ (List.mem_of_getElem? (i := 119) rfl)
theorem pp120 : Cond.code yX12_tongueAt cX12_tongueAt 2 (some (.object "TongueHouse$Tongue")) ∈ pp_ws := List.mem_append_left _ (List.mem_of_getElem? (i := 120) rfl)
theorem pp121 : Cond.instanceMethod yX12_tongueAt ∈ pp_ws := List.mem_append_left _ (List.mem_of_getElem? (i := 121) rfl)
theorem pp122 : Cond.selects RX12 yX12_tongueAt yX12_tongueAt ∈ pp_ws := List.mem_append_left _ (List.mem_of_getElem? (i := 122) rfl)
theorem pp123 : Cond.initialized RX12 ∈ pp_ws := List.mem_append_left _ (List.mem_of_getElem? (i := 123) rfl)
theorem pp124 : Cond.fieldLink RX12 152 "TongueHouse$Store" "funs" "LTongueHouse$Names;" ∈ pp_ws := List.mem_append_left _ (List.mem_of_getElem? (i := 124) rfl)
theorem pp125 : Cond.fieldLink RX12 76 "TongueHouse" "finder" "LTongueHouse$Finder;" ∈ pp_ws := List.mem_append_left _ (List.mem_of_getElem? (i := 125) rfl)
theorem pp126 : Cond.fieldLink RX1 53 "TongueHouse$Finder" "analyses" "I" ∈ pp_ws := List.mem_append_left _ (List.mem_of_getElem? (i := 126) rfl)
theorem pp127 : Cond.methodLink RX12 203 yX1_tellAnalysis ∈ pp_ws := List.mem_append_left _ (List.mem_of_getElem? (i := 127) rfl)
theorem pp128 : Cond.code yX1_tellAnalysis cX1_tellAnalysis 6 (some .int) ∈ pp_ws := List.mem_append_left _ (List.mem_of_getElem? (i := 128) rfl)
theorem pp129 : Cond.instanceMethod yX1_tellAnalysis ∈ pp_ws := List.mem_append_left _ (List.mem_of_getElem? (i := 129) rfl)
theorem pp130 : Cond.selects RX1 yX1_tellAnalysis yX1_tellAnalysis ∈ pp_ws := List.mem_append_left _ (List.mem_of_getElem? (i := 130) rfl)
theorem pp131 : Cond.initialized RX1 ∈ pp_ws := List.mem_append_left _ (List.mem_of_getElem? (i := 131) rfl)
theorem pp132 : Cond.fieldLink RX13 854 "TongueHouseModel" "foundN" "I" ∈ pp_ws := List.mem_append_left _ (List.mem_of_getElem? (i := 132) rfl)
theorem pp133 : Cond.fieldLink RX1 113 "TongueHouse$Finder" "guesses" "I" ∈ pp_ws := List.mem_append_left _ (List.mem_of_getElem? (i := 133) rfl)
theorem pp134 : Cond.methodLink RX12 226 yX1_tellGuess ∈ pp_ws := List.mem_append_left _ (List.mem_of_getElem? (i := 134) rfl)
theorem pp135 : Cond.code yX1_tellGuess cX1_tellGuess 3 (some .int) ∈ pp_ws := List.mem_append_left _ (List.mem_of_getElem? (i := 135) rfl)
theorem pp136 : Cond.instanceMethod yX1_tellGuess ∈ pp_ws := List.mem_append_left _ (List.mem_of_getElem? (i := 136) rfl)
theorem pp137 : Cond.selects RX1 yX1_tellGuess yX1_tellGuess ∈ pp_ws := List.mem_append_left _ (List.mem_of_getElem? (i := 137) rfl)
theorem pp138 : Cond.fieldLink RX13 870 "TongueHouseModel" "guesses" "I" ∈ pp_ws := List.mem_append_left _ (List.mem_of_getElem? (i := 138) rfl)
theorem pp139 : Cond.fieldLink RX1 165 "TongueHouse$Finder" "hits" "I" ∈ pp_ws := List.mem_append_left _ (List.mem_of_getElem? (i := 139) rfl)
theorem pp140 : Cond.methodLink RX12 310 yX1_tellHit ∈ pp_ws := List.mem_append_left _ (List.mem_of_getElem? (i := 140) rfl)
theorem pp141 : Cond.code yX1_tellHit cX1_tellHit 3 (some .int) ∈ pp_ws := List.mem_append_left _ (List.mem_of_getElem? (i := 141) rfl)
theorem pp142 : Cond.instanceMethod yX1_tellHit ∈ pp_ws := List.mem_append_left _ (List.mem_of_getElem? (i := 142) rfl)
theorem pp143 : Cond.selects RX1 yX1_tellHit yX1_tellHit ∈ pp_ws := List.mem_append_left _ (List.mem_of_getElem? (i := 143) rfl)
theorem pp144 : Cond.fieldLink RX13 1052 "TongueHouseModel" "hits" "I" ∈ pp_ws := List.mem_append_left _ (List.mem_of_getElem? (i := 144) rfl)
theorem pp145 : Cond.fieldLink RX12 55 "TongueHouse" "ranking" "LTongueHouse$Ranking;" ∈ pp_ws := List.mem_append_left _ (List.mem_of_getElem? (i := 145) rfl)
theorem pp146 : Cond.fieldLink RX5 61 "TongueHouse$Ranking" "isOpen" "Z" ∈ pp_ws := List.mem_append_left _ (List.mem_of_getElem? (i := 146) rfl)
theorem pp147 : Cond.methodLink RX12 236 yX5_total ∈ pp_ws := List.mem_append_left _ (List.mem_of_getElem? (i := 147) rfl)
theorem pp148 : Cond.code yX5_total cX5_total 5 (some .long) ∈ pp_ws := List.mem_append_left _ (List.mem_of_getElem? (i := 148) rfl)
theorem pp149 : Cond.instanceMethod yX5_total ∈ pp_ws := List.mem_append_left _ (List.mem_of_getElem? (i := 149) rfl)
theorem pp150 : Cond.selects RX5 yX5_total yX5_total ∈ pp_ws := List.mem_append_left _ (List.mem_of_getElem? (i := 150) rfl)
theorem pp151 : Cond.initialized RX5 ∈ pp_ws := List.mem_append_left _ (List.mem_of_getElem? (i := 151) rfl)
theorem pp152 : Cond.fieldLink RX13 984 "TongueHouseModel" "all" "J" ∈ pp_ws := List.mem_append_left _ (List.mem_of_getElem? (i := 152) rfl)
theorem pp153 : Cond.methodLink RX5 146 yX5_rank ∈ pp_ws := List.mem_append_left _ (List.mem_of_getElem? (i := 153) rfl)
theorem pp154 : Cond.code yX5_rank cX5_rank 4 none ∈ pp_ws := List.mem_append_left _ (List.mem_of_getElem? (i := 154) rfl)
theorem pp155 : Cond.instanceMethod yX5_rank ∈ pp_ws := List.mem_append_left _ (List.mem_of_getElem? (i := 155) rfl)
theorem pp156 : Cond.selects RX5 yX5_rank yX5_rank ∈ pp_ws := List.mem_append_left _ (List.mem_of_getElem? (i := 156) rfl)
theorem pp157 : Cond.fieldLink RX5 68 "TongueHouse$Ranking" "topSize" "I" ∈ pp_ws := List.mem_append_left _ (List.mem_of_getElem? (i := 157) rfl)
theorem pp158 : Cond.methodLink RX12 246 yX5_priceOf ∈ pp_ws := List.mem_append_left _ (List.mem_of_getElem? (i := 158) rfl)
theorem pp159 : Cond.code yX5_priceOf cX5_priceOf 2 (some .int) ∈ pp_ws := List.mem_append_left _ (List.mem_of_getElem? (i := 159) rfl)
theorem pp160 : Cond.instanceMethod yX5_priceOf ∈ pp_ws := List.mem_append_left _ (List.mem_of_getElem? (i := 160) rfl)
theorem pp161 : Cond.selects RX5 yX5_priceOf yX5_priceOf ∈ pp_ws := List.mem_append_left _ (List.mem_of_getElem? (i := 161) rfl)
theorem pp162 : Cond.fieldLink RX13 977 "TongueHouseModel" "readings" "I" ∈ pp_ws := List.mem_append_left _ (List.mem_of_getElem? (i := 162) rfl)
theorem pp163 : Cond.fieldLink RX12 289 "TongueHouse" "candidateCount" "I" ∈ pp_ws := List.mem_append_left _ (List.mem_of_getElem? (i := 163) rfl)
theorem pp164 : Cond.fieldLink RX13 1046 "TongueHouseModel" "candidates" "I" ∈ pp_ws := List.mem_append_left _ (List.mem_of_getElem? (i := 164) rfl)
theorem pp165 : Cond.methodLink RX12 249 yX12_checkPlace ∈ pp_ws := List.mem_append_left _ (List.mem_of_getElem? (i := 165) rfl)
theorem pp166 : Cond.code yX12_checkPlace cX12_checkPlace 1 none ∈ pp_ws := List.mem_append_left _ (List.mem_of_getElem? (i := 166) rfl)
theorem pp167 : Cond.static yX12_checkPlace ∈ pp_ws := List.mem_append_left _ (List.mem_of_getElem? (i := 167) rfl)
theorem pp168 : Cond.fieldLink RX12 82 "TongueHouse" "planted" "[[I" ∈ pp_ws := List.mem_append_left _ (List.mem_of_getElem? (i := 168) rfl)
theorem pp169 : Cond.methodLink RX12 252 yX5_spell ∈ pp_ws := List.mem_append_left _ (List.mem_of_getElem? (i := 169) rfl)
theorem pp170 : Cond.code yX5_spell cX5_spell 11 (some .int) ∈ pp_ws := List.mem_append_left _ (List.mem_of_getElem? (i := 170) rfl)
theorem pp171 : Cond.instanceMethod yX5_spell ∈ pp_ws := List.mem_append_left _ (List.mem_of_getElem? (i := 171) rfl)
theorem pp172 : Cond.selects RX5 yX5_spell yX5_spell ∈ pp_ws := List.mem_append_left _ (List.mem_of_getElem? (i := 172) rfl)
theorem pp173 : Cond.methodLink RX13 1017 yX13_noPlace ∈ pp_ws := List.mem_append_left _ (List.mem_of_getElem? (i := 173) rfl)
theorem pp174 : Cond.code yX13_noPlace cX13_noPlace 2 (some .boolean) ∈ pp_ws := List.mem_append_left _ (List.mem_of_getElem? (i := 174) rfl)
theorem pp175 : Cond.instanceMethod yX13_noPlace ∈ pp_ws := List.mem_append_left _ (List.mem_of_getElem? (i := 175) rfl)
theorem pp176 : Cond.selects RX13 yX13_noPlace yX13_noPlace ∈ pp_ws := List.mem_append_left _ (List.mem_of_getElem? (i := 176) rfl)
theorem pp177 : Cond.fieldLink RX6 67 "TongueHouse$Text" "type" "I" ∈ pp_ws := List.mem_append_left _ (List.mem_of_getElem? (i := 177) rfl)
theorem pp178 : Cond.fieldLink RX6 61 "TongueHouse$Text" "at" "I" ∈ pp_ws := List.mem_append_left _ (List.mem_of_getElem? (i := 178) rfl)
theorem pp179 : Cond.methodLink RX12 262 yX6_readTree ∈ pp_ws := List.mem_append_left _ (List.mem_of_getElem? (i := 179) rfl)
theorem pp180 : Cond.code yX6_readTree cX6_readTree 5 (some .int) ∈ pp_ws := List.mem_append_left _ (List.mem_of_getElem? (i := 180) rfl)
theorem pp181 : Cond.instanceMethod yX6_readTree ∈ pp_ws := List.mem_append_left _ (List.mem_of_getElem? (i := 181) rfl)
theorem pp182 : Cond.selects RX6 yX6_readTree yX6_readTree ∈ pp_ws := List.mem_append_left _ (List.mem_of_getElem? (i := 182) rfl)
theorem pp183 : Cond.fieldLink RX13 1011 "TongueHouseModel" "treeN" "I" ∈ pp_ws := List.mem_append_left _ (List.mem_of_getElem? (i := 183) rfl)
theorem pp184 : Cond.methodLink RX13 1020 yX13_noTree ∈ pp_ws := List.mem_append_left _ (List.mem_of_getElem? (i := 184) rfl)
theorem pp185 : Cond.code yX13_noTree cX13_noTree 4 (some .boolean) ∈ pp_ws := List.mem_append_left _ (List.mem_of_getElem? (i := 185) rfl)
theorem pp186 : Cond.instanceMethod yX13_noTree ∈ pp_ws := List.mem_append_left _ (List.mem_of_getElem? (i := 186) rfl)
theorem pp187 : Cond.selects RX13 yX13_noTree yX13_noTree ∈ pp_ws := List.mem_append_left _ (List.mem_of_getElem? (i := 187) rfl)
theorem pp188 : Cond.fieldLink RX12 85 "TongueHouse" "plantedSize" "[I" ∈ pp_ws := List.mem_append_left _ (List.mem_of_getElem? (i := 188) rfl)
theorem pp189 : Cond.fieldLink RX13 467 "TongueHouseModel" "placeN" "[I" ∈ pp_ws := List.mem_append_left _ (List.mem_of_getElem? (i := 189) rfl)
theorem pp190 : Cond.methodLink RX13 1030 yX13_takes ∈ pp_ws := List.mem_append_left _ (List.mem_of_getElem? (i := 190) rfl)
theorem pp191 : Cond.code yX13_takes cX13_takes 3 (some .int) ∈ pp_ws := List.mem_append_left _ (List.mem_of_getElem? (i := 191) rfl)
theorem pp192 : Cond.instanceMethod yX13_takes ∈ pp_ws := List.mem_append_left _ (List.mem_of_getElem? (i := 192) rfl)
theorem pp193 : Cond.selects RX13 yX13_takes yX13_takes ∈ pp_ws := List.mem_append_left _ (List.mem_of_getElem? (i := 193) rfl)
theorem pp194 : Cond.methodLink RX12 278 yX12_meaningOf ∈ pp_ws := List.mem_append_left _ (List.mem_of_getElem? (i := 194) rfl)
theorem pp195 : Cond.code yX12_meaningOf cX12_meaningOf 2 (some .int) ∈ pp_ws := List.mem_append_left _ (List.mem_of_getElem? (i := 195) rfl)
theorem pp196 : Cond.instanceMethod yX12_meaningOf ∈ pp_ws := List.mem_append_left _ (List.mem_of_getElem? (i := 196) rfl)
theorem pp197 : Cond.selects RX12 yX12_meaningOf yX12_meaningOf ∈ pp_ws := List.mem_append_left _ (List.mem_of_getElem? (i := 197) rfl)
theorem pp198 : Cond.methodLink RX12 355 yX8_sizeOf ∈ pp_ws := List.mem_append_left _ (List.mem_of_getElem? (i := 198) rfl)
theorem pp199 : Cond.code yX8_sizeOf cX8_sizeOf 2 (some .int) ∈ pp_ws := List.mem_append_left _ (List.mem_of_getElem? (i := 199) rfl)
theorem pp200 : Cond.instanceMethod yX8_sizeOf ∈ pp_ws := List.mem_append_left _ (List.mem_of_getElem? (i := 200) rfl)
theorem pp201 : Cond.selects RX8 yX8_sizeOf yX8_sizeOf ∈ pp_ws := List.mem_append_left _ (List.mem_of_getElem? (i := 201) rfl)
theorem pp202 : Cond.fieldLink RX12 46 "TongueHouse" "chart" "LTongueHouse$Chart;" ∈ pp_ws := List.mem_append_left _ (List.mem_of_getElem? (i := 202) rfl)
theorem pp203 : Cond.fieldLink RX12 346 "TongueHouse$Chart" "nodes" "I" ∈ pp_ws := List.mem_append_left _ (List.mem_of_getElem? (i := 203) rfl)
theorem pp204 : Cond.fieldLink RX12 349 "TongueHouse$Chart" "ways" "I" ∈ pp_ws := List.mem_append_left _ (List.mem_of_getElem? (i := 204) rfl)
theorem pp205 : Cond.fieldLink RX12 352 "TongueHouse$Finder" "collected" "I" ∈ pp_ws := List.mem_append_left _ (List.mem_of_getElem? (i := 205) rfl)
theorem pp206 : Cond.fieldLink RX13 989 "TongueHouseModel" "noted" "I" ∈ pp_ws := List.mem_append_left _ (List.mem_of_getElem? (i := 206) rfl)
theorem pp207 : Cond.fieldLink RX13 992 "TongueHouseModel" "notedWays" "I" ∈ pp_ws := List.mem_append_left _ (List.mem_of_getElem? (i := 207) rfl)
theorem pp208 : Cond.fieldLink RX13 1049 "TongueHouseModel" "collected" "I" ∈ pp_ws := List.mem_append_left _ (List.mem_of_getElem? (i := 208) rfl)
theorem pp209 : Cond.methodLink RX13 845 yX13_noTongue ∈ pp_ws := List.mem_append_left _ (List.mem_of_getElem? (i := 209) rfl)
theorem pp210 : Cond.code yX13_noTongue cX13_noTongue 2 (some .boolean) ∈ pp_ws := List.mem_append_left _ (List.mem_of_getElem? (i := 210) rfl)
theorem pp211 : Cond.instanceMethod yX13_noTongue ∈ pp_ws := List.mem_append_left _ (List.mem_of_getElem? (i := 211) rfl)
theorem pp212 : Cond.selects RX13 yX13_noTongue yX13_noTongue ∈ pp_ws := List.mem_append_left _ (List.mem_of_getElem? (i := 212) rfl)
theorem pp213 : Cond.methodLink RL 7 yX12_feed ∈ pp_ws := List.mem_append_left _ (List.mem_of_getElem? (i := 213) rfl)
theorem pp214 : Cond.code yX12_feed cX12_feed 6 (some .int) ∈ pp_ws := List.mem_append_left _ (List.mem_of_getElem? (i := 214) rfl)
theorem pp215 : Cond.instanceMethod yX12_feed ∈ pp_ws := List.mem_append_left _ (List.mem_of_getElem? (i := 215) rfl)
theorem pp216 : Cond.selects RX12 yX12_feed yX12_feed ∈ pp_ws := List.mem_append_left _ (List.mem_of_getElem? (i := 216) rfl)
theorem pp217 : Cond.methodLink RL 15 yX12_end ∈ pp_ws := List.mem_append_left _ (List.mem_of_getElem? (i := 217) rfl)
theorem pp218 : Cond.code yX12_end cX12_end 2 (some .int) ∈ pp_ws := List.mem_append_left _ (List.mem_of_getElem? (i := 218) rfl)
theorem pp219 : Cond.instanceMethod yX12_end ∈ pp_ws := List.mem_append_left _ (List.mem_of_getElem? (i := 219) rfl)
theorem pp220 : Cond.selects RX12 yX12_end yX12_end ∈ pp_ws := List.mem_append_left _ (List.mem_of_getElem? (i := 220) rfl)
theorem pp221 : Cond.classLink RL 19 "java/lang/IllegalArgumentException" ∈ pp_ws := List.mem_append_left _ (List.mem_of_getElem? (i := 221) rfl)
theorem pp222 : Cond.methodLink RL 21 yX12_number ∈ pp_ws := List.mem_append_left _ (List.mem_of_getElem? (i := 222) rfl)
theorem pp223 : Cond.code yX12_number cX12_number 6 (some .int) ∈ pp_ws := List.mem_append_left _ (List.mem_of_getElem? (i := 223) rfl)
theorem pp224 : Cond.instanceMethod yX12_number ∈ pp_ws := List.mem_append_left _ (List.mem_of_getElem? (i := 224) rfl)
theorem pp225 : Cond.selects RX12 yX12_number yX12_number ∈ pp_ws := List.mem_append_left _ (List.mem_of_getElem? (i := 225) rfl)
theorem pp226 : Cond.methodLink RL 31 yX12_analysis ∈ pp_ws := List.mem_append_left _ (List.mem_of_getElem? (i := 226) rfl)
theorem pp227 : Cond.code yX12_analysis cX12_analysis 3 (some .int) ∈ pp_ws := List.mem_append_left _ (List.mem_of_getElem? (i := 227) rfl)
theorem pp228 : Cond.instanceMethod yX12_analysis ∈ pp_ws := List.mem_append_left _ (List.mem_of_getElem? (i := 228) rfl)
theorem pp229 : Cond.selects RX12 yX12_analysis yX12_analysis ∈ pp_ws := List.mem_append_left _ (List.mem_of_getElem? (i := 229) rfl)
theorem pp230 : Cond.methodLink RL 41 yX12_guessed ∈ pp_ws := List.mem_append_left _ (List.mem_of_getElem? (i := 230) rfl)
theorem pp231 : Cond.code yX12_guessed cX12_guessed 3 (some .int) ∈ pp_ws := List.mem_append_left _ (List.mem_of_getElem? (i := 231) rfl)
theorem pp232 : Cond.instanceMethod yX12_guessed ∈ pp_ws := List.mem_append_left _ (List.mem_of_getElem? (i := 232) rfl)
theorem pp233 : Cond.selects RX12 yX12_guessed yX12_guessed ∈ pp_ws := List.mem_append_left _ (List.mem_of_getElem? (i := 233) rfl)
theorem pp234 : Cond.methodLink RL 82 yX12_hit ∈ pp_ws := List.mem_append_left _ (List.mem_of_getElem? (i := 234) rfl)
theorem pp235 : Cond.code yX12_hit cX12_hit 3 (some .int) ∈ pp_ws := List.mem_append_left _ (List.mem_of_getElem? (i := 235) rfl)
theorem pp236 : Cond.instanceMethod yX12_hit ∈ pp_ws := List.mem_append_left _ (List.mem_of_getElem? (i := 236) rfl)
theorem pp237 : Cond.selects RX12 yX12_hit yX12_hit ∈ pp_ws := List.mem_append_left _ (List.mem_of_getElem? (i := 237) rfl)
theorem pp238 : Cond.methodLink RL 51 yX12_reading ∈ pp_ws := List.mem_append_left _ (List.mem_of_getElem? (i := 238) rfl)
theorem pp239 : Cond.code yX12_reading cX12_reading 4 (some .int) ∈ pp_ws := List.mem_append_left _ (List.mem_of_getElem? (i := 239) rfl)
theorem pp240 : Cond.instanceMethod yX12_reading ∈ pp_ws := List.mem_append_left _ (List.mem_of_getElem? (i := 240) rfl)
theorem pp241 : Cond.selects RX12 yX12_reading yX12_reading ∈ pp_ws := List.mem_append_left _ (List.mem_of_getElem? (i := 241) rfl)
theorem pp242 : Cond.methodLink RL 54 yX12_tree ∈ pp_ws := List.mem_append_left _ (List.mem_of_getElem? (i := 242) rfl)
theorem pp243 : Cond.code yX12_tree cX12_tree 3 (some .int) ∈ pp_ws := List.mem_append_left _ (List.mem_of_getElem? (i := 243) rfl)
theorem pp244 : Cond.instanceMethod yX12_tree ∈ pp_ws := List.mem_append_left _ (List.mem_of_getElem? (i := 244) rfl)
theorem pp245 : Cond.selects RX12 yX12_tree yX12_tree ∈ pp_ws := List.mem_append_left _ (List.mem_of_getElem? (i := 245) rfl)
theorem pp246 : Cond.methodLink RL 57 yX12_show ∈ pp_ws := List.mem_append_left _ (List.mem_of_getElem? (i := 246) rfl)
theorem pp247 : Cond.code yX12_show cX12_show 2 (some .int) ∈ pp_ws := List.mem_append_left _ (List.mem_of_getElem? (i := 247) rfl)
theorem pp248 : Cond.instanceMethod yX12_show ∈ pp_ws := List.mem_append_left _ (List.mem_of_getElem? (i := 248) rfl)
theorem pp249 : Cond.selects RX12 yX12_show yX12_show ∈ pp_ws := List.mem_append_left _ (List.mem_of_getElem? (i := 249) rfl)
theorem pp250 : Cond.methodLink RL 60 yX12_same ∈ pp_ws := List.mem_append_left _ (List.mem_of_getElem? (i := 250) rfl)
theorem pp251 : Cond.code yX12_same cX12_same 4 (some .boolean) ∈ pp_ws := List.mem_append_left _ (List.mem_of_getElem? (i := 251) rfl)
theorem pp252 : Cond.instanceMethod yX12_same ∈ pp_ws := List.mem_append_left _ (List.mem_of_getElem? (i := 252) rfl)
theorem pp253 : Cond.selects RX12 yX12_same yX12_same ∈ pp_ws := List.mem_append_left _ (List.mem_of_getElem? (i := 253) rfl)
theorem pp254 : Cond.methodLink RL 67 yX12_mean ∈ pp_ws := List.mem_append_left _ (List.mem_of_getElem? (i := 254) rfl)
theorem pp255 : Cond.code yX12_mean cX12_mean 3 (some .int) ∈ pp_ws := List.mem_append_left _ (List.mem_of_getElem? (i := 255) rfl)
theorem pp256 : Cond.instanceMethod yX12_mean ∈ pp_ws := List.mem_append_left _ (List.mem_of_getElem? (i := 256) rfl)
theorem pp257 : Cond.selects RX12 yX12_mean yX12_mean ∈ pp_ws := List.mem_append_left _ (List.mem_of_getElem? (i := 257) rfl)
theorem pp258 : Cond.methodLink RL 70 yX12_truth ∈ pp_ws := List.mem_append_left _ (List.mem_of_getElem? (i := 258) rfl)
theorem pp259 : Cond.code yX12_truth cX12_truth 3 (some .int) ∈ pp_ws := List.mem_append_left _ (List.mem_of_getElem? (i := 259) rfl)
theorem pp260 : Cond.instanceMethod yX12_truth ∈ pp_ws := List.mem_append_left _ (List.mem_of_getElem? (i := 260) rfl)
theorem pp261 : Cond.selects RX12 yX12_truth yX12_truth ∈ pp_ws := List.mem_append_left _ (List.mem_of_getElem? (i := 261) rfl)
theorem pp262 : Cond.methodLink RL 88 yX12_count ∈ pp_ws := List.mem_append_left _ (List.mem_of_getElem? (i := 262) rfl)
theorem pp263 : Cond.code yX12_count cX12_count 3 (some .int) ∈ pp_ws := List.mem_append_left _ (List.mem_of_getElem? (i := 263) rfl)
theorem pp264 : Cond.instanceMethod yX12_count ∈ pp_ws := List.mem_append_left _ (List.mem_of_getElem? (i := 264) rfl)
theorem pp265 : Cond.selects RX12 yX12_count yX12_count ∈ pp_ws := List.mem_append_left _ (List.mem_of_getElem? (i := 265) rfl)
theorem pp266 : Cond.methodLink RL 25 yX12_sounds ∈ pp_ws := List.mem_append_left _ (List.mem_of_getElem? (i := 266) rfl)
theorem pp267 : Cond.code yX12_sounds cX12_sounds 4 (some .int) ∈ pp_ws := List.mem_append_left _ (List.mem_of_getElem? (i := 267) rfl)
theorem pp268 : Cond.instanceMethod yX12_sounds ∈ pp_ws := List.mem_append_left _ (List.mem_of_getElem? (i := 268) rfl)
theorem pp269 : Cond.selects RX12 yX12_sounds yX12_sounds ∈ pp_ws := List.mem_append_left _ (List.mem_of_getElem? (i := 269) rfl)
theorem pp270 : Cond.methodLink RL 28 yX12_analyse ∈ pp_ws := List.mem_append_left _ (List.mem_of_getElem? (i := 270) rfl)
theorem pp271 : Cond.code yX12_analyse cX12_analyse 4 (some .int) ∈ pp_ws := List.mem_append_left _ (List.mem_of_getElem? (i := 271) rfl)
theorem pp272 : Cond.instanceMethod yX12_analyse ∈ pp_ws := List.mem_append_left _ (List.mem_of_getElem? (i := 272) rfl)
theorem pp273 : Cond.selects RX12 yX12_analyse yX12_analyse ∈ pp_ws := List.mem_append_left _ (List.mem_of_getElem? (i := 273) rfl)
theorem pp274 : Cond.methodLink RL 34 yX12_cell ∈ pp_ws := List.mem_append_left _ (List.mem_of_getElem? (i := 274) rfl)
theorem pp275 : Cond.code yX12_cell cX12_cell 7 (some .int) ∈ pp_ws := List.mem_append_left _ (List.mem_of_getElem? (i := 275) rfl)
theorem pp276 : Cond.instanceMethod yX12_cell ∈ pp_ws := List.mem_append_left _ (List.mem_of_getElem? (i := 276) rfl)
theorem pp277 : Cond.selects RX12 yX12_cell yX12_cell ∈ pp_ws := List.mem_append_left _ (List.mem_of_getElem? (i := 277) rfl)
theorem pp278 : Cond.methodLink RL 38 yX12_guess ∈ pp_ws := List.mem_append_left _ (List.mem_of_getElem? (i := 278) rfl)
theorem pp279 : Cond.code yX12_guess cX12_guess 4 (some .int) ∈ pp_ws := List.mem_append_left _ (List.mem_of_getElem? (i := 279) rfl)
theorem pp280 : Cond.instanceMethod yX12_guess ∈ pp_ws := List.mem_append_left _ (List.mem_of_getElem? (i := 280) rfl)
theorem pp281 : Cond.selects RX12 yX12_guess yX12_guess ∈ pp_ws := List.mem_append_left _ (List.mem_of_getElem? (i := 281) rfl)
theorem pp282 : Cond.methodLink RL 44 yX12_parse ∈ pp_ws := List.mem_append_left _ (List.mem_of_getElem? (i := 282) rfl)
theorem pp283 : Cond.code yX12_parse cX12_parse 5 (some .int) ∈ pp_ws := List.mem_append_left _ (List.mem_of_getElem? (i := 283) rfl)
theorem pp284 : Cond.instanceMethod yX12_parse ∈ pp_ws := List.mem_append_left _ (List.mem_of_getElem? (i := 284) rfl)
theorem pp285 : Cond.selects RX12 yX12_parse yX12_parse ∈ pp_ws := List.mem_append_left _ (List.mem_of_getElem? (i := 285) rfl)
theorem pp286 : Cond.methodLink RL 47 yX12_bar ∈ pp_ws := List.mem_append_left _ (List.mem_of_getElem? (i := 286) rfl)
theorem pp287 : Cond.code yX12_bar cX12_bar 3 (some .long) ∈ pp_ws := List.mem_append_left _ (List.mem_of_getElem? (i := 287) rfl)
theorem pp288 : Cond.instanceMethod yX12_bar ∈ pp_ws := List.mem_append_left _ (List.mem_of_getElem? (i := 288) rfl)
theorem pp289 : Cond.selects RX12 yX12_bar yX12_bar ∈ pp_ws := List.mem_append_left _ (List.mem_of_getElem? (i := 289) rfl)
theorem pp290 : Cond.methodLink RL 64 yX12_say ∈ pp_ws := List.mem_append_left _ (List.mem_of_getElem? (i := 290) rfl)
theorem pp291 : Cond.code yX12_say cX12_say 5 (some .int) ∈ pp_ws := List.mem_append_left _ (List.mem_of_getElem? (i := 291) rfl)
theorem pp292 : Cond.instanceMethod yX12_say ∈ pp_ws := List.mem_append_left _ (List.mem_of_getElem? (i := 292) rfl)
theorem pp293 : Cond.selects RX12 yX12_say yX12_say ∈ pp_ws := List.mem_append_left _ (List.mem_of_getElem? (i := 293) rfl)
theorem pp294 : Cond.methodLink RL 73 yX12_swap ∈ pp_ws := List.mem_append_left _ (List.mem_of_getElem? (i := 294) rfl)
theorem pp295 : Cond.code yX12_swap cX12_swap 9 (some .int) ∈ pp_ws := List.mem_append_left _ (List.mem_of_getElem? (i := 295) rfl)
theorem pp296 : Cond.instanceMethod yX12_swap ∈ pp_ws := List.mem_append_left _ (List.mem_of_getElem? (i := 296) rfl)
theorem pp297 : Cond.selects RX12 yX12_swap yX12_swap ∈ pp_ws := List.mem_append_left _ (List.mem_of_getElem? (i := 297) rfl)
theorem pp298 : Cond.methodLink RL 76 yX12_add ∈ pp_ws := List.mem_append_left _ (List.mem_of_getElem? (i := 298) rfl)
theorem pp299 : Cond.code yX12_add cX12_add 3 (some .int) ∈ pp_ws := List.mem_append_left _ (List.mem_of_getElem? (i := 299) rfl)
theorem pp300 : Cond.instanceMethod yX12_add ∈ pp_ws := List.mem_append_left _ (List.mem_of_getElem? (i := 300) rfl)
theorem pp301 : Cond.selects RX12 yX12_add yX12_add ∈ pp_ws := List.mem_append_left _ (List.mem_of_getElem? (i := 301) rfl)
theorem pp302 : Cond.methodLink RL 79 yX12_ask ∈ pp_ws := List.mem_append_left _ (List.mem_of_getElem? (i := 302) rfl)
theorem pp303 : Cond.code yX12_ask cX12_ask 4 (some .int) ∈ pp_ws := List.mem_append_left _ (List.mem_of_getElem? (i := 303) rfl)
theorem pp304 : Cond.instanceMethod yX12_ask ∈ pp_ws := List.mem_append_left _ (List.mem_of_getElem? (i := 304) rfl)
theorem pp305 : Cond.selects RX12 yX12_ask yX12_ask ∈ pp_ws := List.mem_append_left _ (List.mem_of_getElem? (i := 305) rfl)
theorem pp306 : Cond.methodLink RL 85 yX12_mend ∈ pp_ws := List.mem_append_left _ (List.mem_of_getElem? (i := 306) rfl)
theorem pp307 : Cond.code yX12_mend cX12_mend 10 (some .int) ∈ pp_ws := List.mem_append_left _ (List.mem_of_getElem? (i := 307) rfl)
theorem pp308 : Cond.instanceMethod yX12_mend ∈ pp_ws := List.mem_append_left _ (List.mem_of_getElem? (i := 308) rfl)
theorem pp309 : Cond.selects RX12 yX12_mend yX12_mend ∈ pp_ws := List.mem_append_left _ (List.mem_of_getElem? (i := 309) rfl)
theorem pp310 : Cond.fieldLink RJ0 38 "java/lang/String" "COMPACT_STRINGS" "Z" ∈ pp_ws := List.mem_append_left _ (List.mem_of_getElem? (i := 310) rfl)
theorem pp311 : Cond.fieldLink RJ0 15 "java/lang/String" "coder" "B" ∈ pp_ws := List.mem_append_left _ (List.mem_of_getElem? (i := 311) rfl)
theorem pp312 : Cond.fieldLink RJ0 9 "java/lang/String" "value" "[B" ∈ pp_ws := List.mem_append_left _ (List.mem_of_getElem? (i := 312) rfl)
theorem pp313 : Cond.code yJ0_coder_7d493 cJ0_coder_7d493 1 (some .byte) ∈ pp_ws := List.mem_append_left _ (List.mem_of_getElem? (i := 313) rfl)
theorem pp314 : Cond.methodLink RJ0 335 yJ0_coder_7d493 ∈ pp_ws := List.mem_append_left _ (List.mem_of_getElem? (i := 314) rfl)
theorem pp315 : Cond.instanceMethod yJ0_coder_7d493 ∈ pp_ws := List.mem_append_left _ (List.mem_of_getElem? (i := 315) rfl)
theorem pp316 : Cond.selects RJ0 yJ0_coder_7d493 yJ0_coder_7d493 ∈ pp_ws := List.mem_append_left _ (List.mem_of_getElem? (i := 316) rfl)
theorem pp317 : Cond.initialized RJ0 ∈ pp_ws := List.mem_append_left _ (List.mem_of_getElem? (i := 317) rfl)
theorem pp318 : Cond.fieldLink RJ0 1053 "jdk/internal/util/Preconditions" "SIOOBE_FORMATTER" "Ljava/util/function/BiFunction;" ∈ pp_ws := List.mem_append_left _ (List.mem_of_getElem? (i := 318) rfl)
theorem pp319 : Cond.code yJ3_checkIndex_8e157 cJ3_checkIndex_8e157 3 (some .int) ∈ pp_ws := List.mem_append_left _ (List.mem_of_getElem? (i := 319) rfl)
theorem pp320 : Cond.methodLink RJ0 1059 yJ3_checkIndex_8e157 ∈ pp_ws := List.mem_append_left _ (List.mem_of_getElem? (i := 320) rfl)
theorem pp321 : Cond.static yJ3_checkIndex_8e157 ∈ pp_ws := List.mem_append_left _ (List.mem_of_getElem? (i := 321) rfl)
theorem pp322 : Cond.initialized RJ3 ∈ pp_ws := List.mem_append_left _ (List.mem_of_getElem? (i := 322) rfl)
theorem pp323 : Cond.code yJ0_checkIndex_df160 cJ0_checkIndex_df160 2 none ∈ pp_ws := List.mem_append_left _ (List.mem_of_getElem? (i := 323) rfl)
theorem pp324 : Cond.methodLink RJ1 9 yJ0_checkIndex_df160 ∈ pp_ws := List.mem_append_left _ (List.mem_of_getElem? (i := 324) rfl)
theorem pp325 : Cond.static yJ0_checkIndex_df160 ∈ pp_ws := List.mem_append_left _ (List.mem_of_getElem? (i := 325) rfl)
theorem pp326 : Cond.code yJ0_isLatin1_aae02 cJ0_isLatin1_aae02 1 (some .boolean) ∈ pp_ws := List.mem_append_left _ (List.mem_of_getElem? (i := 326) rfl)
theorem pp327 : Cond.methodLink RJ0 492 yJ0_isLatin1_aae02 ∈ pp_ws := List.mem_append_left _ (List.mem_of_getElem? (i := 327) rfl)
theorem pp328 : Cond.instanceMethod yJ0_isLatin1_aae02 ∈ pp_ws := List.mem_append_left _ (List.mem_of_getElem? (i := 328) rfl)
theorem pp329 : Cond.selects RJ0 yJ0_isLatin1_aae02 yJ0_isLatin1_aae02 ∈ pp_ws := List.mem_append_left _ (List.mem_of_getElem? (i := 329) rfl)
theorem pp330 : Cond.code yJ1_charAt_3b067 cJ1_charAt_3b067 2 (some .char) ∈ pp_ws := List.mem_append_left _ (List.mem_of_getElem? (i := 330) rfl)
theorem pp331 : Cond.methodLink RJ0 495 yJ1_charAt_3b067 ∈ pp_ws := List.mem_append_left _ (List.mem_of_getElem? (i := 331) rfl)
theorem pp332 : Cond.static yJ1_charAt_3b067 ∈ pp_ws := List.mem_append_left _ (List.mem_of_getElem? (i := 332) rfl)
theorem pp333 : Cond.initialized RJ1 ∈ pp_ws := List.mem_append_left _ (List.mem_of_getElem? (i := 333) rfl)
theorem pp334 : Cond.code yJ0_length_8abf5 cJ0_length_8abf5 1 (some .int) ∈ pp_ws := List.mem_append_left _ (List.mem_of_getElem? (i := 334) rfl)
theorem pp335 : Cond.methodLink RX13 627 yJ0_length_8abf5 ∈ pp_ws := List.mem_append_left _ (List.mem_of_getElem? (i := 335) rfl)
theorem pp336 : Cond.instanceMethod yJ0_length_8abf5 ∈ pp_ws := List.mem_append_left _ (List.mem_of_getElem? (i := 336) rfl)
theorem pp337 : Cond.selects RJ0 yJ0_length_8abf5 yJ0_length_8abf5 ∈ pp_ws := List.mem_append_left _ (List.mem_of_getElem? (i := 337) rfl)
theorem pp338 : Cond.code yJ0_charAt_5068e cJ0_charAt_5068e 2 (some .char) ∈ pp_ws := List.mem_append_left _ (List.mem_of_getElem? (i := 338) rfl)
theorem pp339 : Cond.methodLink RX13 630 yJ0_charAt_5068e ∈ pp_ws := List.mem_append_left _ (List.mem_of_getElem? (i := 339) rfl)
theorem pp340 : Cond.instanceMethod yJ0_charAt_5068e ∈ pp_ws := List.mem_append_left _ (List.mem_of_getElem? (i := 340) rfl)
theorem pp341 : Cond.selects RJ0 yJ0_charAt_5068e yJ0_charAt_5068e ∈ pp_ws := List.mem_append_left _ (List.mem_of_getElem? (i := 341) rfl)
theorem pi_at : ∀ w ∈ px_atI.filter goodWord, w ∈ pp_ws := fun _ h => List.mem_append_right _ (List.mem_append_left _ h)
theorem pi0 : ∀ w ∈ u_ws RX0 TX0 22, w ∈ pp_ws := fun _ h => List.mem_append_right _ (List.mem_append_right _ (List.mem_append_left _ h))
theorem pu0 : (u_ws RX0 TX0 22).all goodWord = true := by decide +kernel
theorem pi1 : ∀ w ∈ u_ws RX1 TX1 19, w ∈ pp_ws := fun _ h => List.mem_append_right _ (List.mem_append_right _ (List.mem_append_right _ (List.mem_append_left _ h)))
theorem pu1 : (u_ws RX1 TX1 19).all goodWord = true := by decide +kernel
theorem pi4 : ∀ w ∈ u_ws RX4 TX4 2, w ∈ pp_ws := fun _ h => List.mem_append_right _ (List.mem_append_right _ (List.mem_append_right _ (List.mem_append_right _ (List.mem_append_left _ h))))
theorem pu4 : (u_ws RX4 TX4 2).all goodWord = true := by decide +kernel
theorem pi5 : ∀ w ∈ u_ws RX5 TX5 19, w ∈ pp_ws := fun _ h => List.mem_append_right _ (List.mem_append_right _ (List.mem_append_right _ (List.mem_append_right _ (List.mem_append_right _ (List.mem_append_left _ h)))))
theorem pu5 : (u_ws RX5 TX5 19).all goodWord = true := by decide +kernel
theorem pi6 : ∀ w ∈ u_ws RX6 TX6 19, w ∈ pp_ws := fun _ h => List.mem_append_right _ (List.mem_append_right _ (List.mem_append_right _ (List.mem_append_right _ (List.mem_append_right _ (List.mem_append_right _ (List.mem_append_left _ h))))))
theorem pu6 : (u_ws RX6 TX6 19).all goodWord = true := by decide +kernel
theorem pi8 : ∀ w ∈ u_ws RX8 TX8 21, w ∈ pp_ws := fun _ h => List.mem_append_right _ (List.mem_append_right _ (List.mem_append_right _ (List.mem_append_right _ (List.mem_append_right _ (List.mem_append_right _ (List.mem_append_right _ (List.mem_append_left _ h)))))))
theorem pu8 : (u_ws RX8 TX8 21).all goodWord = true := by decide +kernel
theorem pi9 : ∀ w ∈ u_ws RX9 TX9 10, w ∈ pp_ws := fun _ h => List.mem_append_right _ (List.mem_append_right _ (List.mem_append_right _ (List.mem_append_right _ (List.mem_append_right _ (List.mem_append_right _ (List.mem_append_right _ (List.mem_append_right _ (List.mem_append_left _ h))))))))
theorem pu9 : (u_ws RX9 TX9 10).all goodWord = true := by decide +kernel
theorem pi12 : ∀ w ∈ u_ws RX12 TX12 17, w ∈ pp_ws := fun _ h => List.mem_append_right _ (List.mem_append_right _ (List.mem_append_right _ (List.mem_append_right _ (List.mem_append_right _ (List.mem_append_right _ (List.mem_append_right _ (List.mem_append_right _ (List.mem_append_right _ (List.mem_append_left _ h)))))))))
theorem pu12 : (u_ws RX12 TX12 17).all goodWord = true := by decide +kernel
theorem pi13 : ∀ w ∈ u_ws RX13 TX13 229, w ∈ pp_ws := fun _ h => List.mem_append_right _ (List.mem_append_right _ (List.mem_append_right _ (List.mem_append_right _ (List.mem_append_right _ (List.mem_append_right _ (List.mem_append_right _ (List.mem_append_right _ (List.mem_append_right _ (List.mem_append_right _ (h))))))))))
theorem pu13 : (u_ws RX13 TX13 229).all goodWord = true := by decide +kernel
theorem pp_good : ∀ w ∈ pp_ws, goodWord w = true := fun w h => by
  rcases List.mem_append.mp h with h | h
  · exact List.all_eq_true.mp pp_w0_good w h
  rcases List.mem_append.mp h with h | h
  · exact (List.mem_filter.mp h).2
  rcases List.mem_append.mp h with h | h
  · exact List.all_eq_true.mp pu0 w h
  rcases List.mem_append.mp h with h | h
  · exact List.all_eq_true.mp pu1 w h
  rcases List.mem_append.mp h with h | h
  · exact List.all_eq_true.mp pu4 w h
  rcases List.mem_append.mp h with h | h
  · exact List.all_eq_true.mp pu5 w h
  rcases List.mem_append.mp h with h | h
  · exact List.all_eq_true.mp pu6 w h
  rcases List.mem_append.mp h with h | h
  · exact List.all_eq_true.mp pu8 w h
  rcases List.mem_append.mp h with h | h
  · exact List.all_eq_true.mp pu9 w h
  rcases List.mem_append.mp h with h | h
  · exact List.all_eq_true.mp pu12 w h
  exact List.all_eq_true.mp pu13 w h
theorem pp_gV {c0 c1 : Cond} {own C : String} {index : Nat} {y : MethodName} (h0 : c1 ∈ pp_ws) (h1 : Cond.methodLink own index y ∈ pp_ws) (h2 : Cond.instanceMethod y ∈ pp_ws) (h3 : Cond.selects C y y ∈ pp_ws) (h4 : Cond.initialized C ∈ pp_ws) : GoodIn (c0 :: pp_ws) (wsV own index C y (c1 :: pp_ws)) := fun w hw => by
  have h9 : w ∈ pp_ws := by
    rcases List.mem_append.mp hw with hw | hw
    · rcases List.mem_cons.mp hw with rfl | hw
      · exact h1
      rcases List.mem_cons.mp hw with rfl | hw
      · exact h2
      rcases List.mem_cons.mp hw with rfl | hw
      · exact h3
      rcases List.mem_cons.mp hw with rfl | hw
      · exact h4
      exact absurd hw List.not_mem_nil
    · rcases List.mem_cons.mp hw with rfl | hw
      · exact h0
      · exact hw
  exact ⟨List.mem_cons_of_mem _ h9, good_of_word (pp_good w h9)⟩
theorem pp_gS {c0 c1 : Cond} {own : String} {index : Nat} {y : MethodName} (h0 : c1 ∈ pp_ws) (h1 : Cond.methodLink own index y ∈ pp_ws) (h2 : Cond.static y ∈ pp_ws) (h3 : Cond.initialized y.cls ∈ pp_ws) : GoodIn (c0 :: pp_ws) (va_wsS own index y (c1 :: pp_ws)) := fun w hw => by
  have h9 : w ∈ pp_ws := by
    rcases List.mem_append.mp hw with hw | hw
    · rcases List.mem_cons.mp hw with rfl | hw
      · exact h1
      rcases List.mem_cons.mp hw with rfl | hw
      · exact h2
      rcases List.mem_cons.mp hw with rfl | hw
      · exact h3
      exact absurd hw List.not_mem_nil
    · rcases List.mem_cons.mp hw with rfl | hw
      · exact h0
      · exact hw
  exact ⟨List.mem_cons_of_mem _ h9, good_of_word (pp_good w h9)⟩
theorem pd_J0_charAt_5068e : yJ0_charAt_5068e.cls = RJ0 ∧ yJ0_charAt_5068e.cls ≠ "java/lang/invoke/MethodHandle" ∧ yJ0_charAt_5068e.cls ≠ "java/lang/invoke/VarHandle" ∧ (parseMethodDescriptor yJ0_charAt_5068e.desc).map (fun d => d.parameters.length) = some 1 := by decide +kernel
theorem pd_J0_checkIndex_df160 : yJ0_checkIndex_df160.cls ≠ "java/lang/invoke/MethodHandle" ∧ yJ0_checkIndex_df160.cls ≠ "java/lang/invoke/VarHandle" ∧ (parseMethodDescriptor yJ0_checkIndex_df160.desc).map (fun d => d.parameters.length) = some 2 := by decide +kernel
theorem pd_J0_coder_7d493 : yJ0_coder_7d493.cls = RJ0 ∧ yJ0_coder_7d493.cls ≠ "java/lang/invoke/MethodHandle" ∧ yJ0_coder_7d493.cls ≠ "java/lang/invoke/VarHandle" ∧ (parseMethodDescriptor yJ0_coder_7d493.desc).map (fun d => d.parameters.length) = some 0 := by decide +kernel
theorem pd_J0_isLatin1_aae02 : yJ0_isLatin1_aae02.cls = RJ0 ∧ yJ0_isLatin1_aae02.cls ≠ "java/lang/invoke/MethodHandle" ∧ yJ0_isLatin1_aae02.cls ≠ "java/lang/invoke/VarHandle" ∧ (parseMethodDescriptor yJ0_isLatin1_aae02.desc).map (fun d => d.parameters.length) = some 0 := by decide +kernel
theorem pd_J0_length_8abf5 : yJ0_length_8abf5.cls = RJ0 ∧ yJ0_length_8abf5.cls ≠ "java/lang/invoke/MethodHandle" ∧ yJ0_length_8abf5.cls ≠ "java/lang/invoke/VarHandle" ∧ (parseMethodDescriptor yJ0_length_8abf5.desc).map (fun d => d.parameters.length) = some 0 := by decide +kernel
theorem pd_J1_charAt_3b067 : yJ1_charAt_3b067.cls ≠ "java/lang/invoke/MethodHandle" ∧ yJ1_charAt_3b067.cls ≠ "java/lang/invoke/VarHandle" ∧ (parseMethodDescriptor yJ1_charAt_3b067.desc).map (fun d => d.parameters.length) = some 2 := by decide +kernel
theorem pd_J3_checkIndex_8e157 : yJ3_checkIndex_8e157.cls ≠ "java/lang/invoke/MethodHandle" ∧ yJ3_checkIndex_8e157.cls ≠ "java/lang/invoke/VarHandle" ∧ (parseMethodDescriptor yJ3_checkIndex_8e157.desc).map (fun d => d.parameters.length) = some 3 := by decide +kernel
theorem pd_X12_add : yX12_add.cls = RX12 ∧ yX12_add.cls ≠ "java/lang/invoke/MethodHandle" ∧ yX12_add.cls ≠ "java/lang/invoke/VarHandle" ∧ (parseMethodDescriptor yX12_add.desc).map (fun d => d.parameters.length) = some 1 := by decide +kernel
theorem pd_X12_analyse : yX12_analyse.cls = RX12 ∧ yX12_analyse.cls ≠ "java/lang/invoke/MethodHandle" ∧ yX12_analyse.cls ≠ "java/lang/invoke/VarHandle" ∧ (parseMethodDescriptor yX12_analyse.desc).map (fun d => d.parameters.length) = some 1 := by decide +kernel
theorem pd_X12_analysis : yX12_analysis.cls = RX12 ∧ yX12_analysis.cls ≠ "java/lang/invoke/MethodHandle" ∧ yX12_analysis.cls ≠ "java/lang/invoke/VarHandle" ∧ (parseMethodDescriptor yX12_analysis.desc).map (fun d => d.parameters.length) = some 2 := by decide +kernel
theorem pd_X12_ask : yX12_ask.cls = RX12 ∧ yX12_ask.cls ≠ "java/lang/invoke/MethodHandle" ∧ yX12_ask.cls ≠ "java/lang/invoke/VarHandle" ∧ (parseMethodDescriptor yX12_ask.desc).map (fun d => d.parameters.length) = some 1 := by decide +kernel
theorem pd_X12_bar : yX12_bar.cls = RX12 ∧ yX12_bar.cls ≠ "java/lang/invoke/MethodHandle" ∧ yX12_bar.cls ≠ "java/lang/invoke/VarHandle" ∧ (parseMethodDescriptor yX12_bar.desc).map (fun d => d.parameters.length) = some 2 := by decide +kernel
theorem pd_X12_cell : yX12_cell.cls = RX12 ∧ yX12_cell.cls ≠ "java/lang/invoke/MethodHandle" ∧ yX12_cell.cls ≠ "java/lang/invoke/VarHandle" ∧ (parseMethodDescriptor yX12_cell.desc).map (fun d => d.parameters.length) = some 3 := by decide +kernel
theorem pd_X12_checkPlace : yX12_checkPlace.cls ≠ "java/lang/invoke/MethodHandle" ∧ yX12_checkPlace.cls ≠ "java/lang/invoke/VarHandle" ∧ (parseMethodDescriptor yX12_checkPlace.desc).map (fun d => d.parameters.length) = some 1 := by decide +kernel
theorem pd_X12_count : yX12_count.cls = RX12 ∧ yX12_count.cls ≠ "java/lang/invoke/MethodHandle" ∧ yX12_count.cls ≠ "java/lang/invoke/VarHandle" ∧ (parseMethodDescriptor yX12_count.desc).map (fun d => d.parameters.length) = some 2 := by decide +kernel
theorem pd_X12_end : yX12_end.cls = RX12 ∧ yX12_end.cls ≠ "java/lang/invoke/MethodHandle" ∧ yX12_end.cls ≠ "java/lang/invoke/VarHandle" ∧ (parseMethodDescriptor yX12_end.desc).map (fun d => d.parameters.length) = some 1 := by decide +kernel
theorem pd_X12_feed : yX12_feed.cls = RX12 ∧ yX12_feed.cls ≠ "java/lang/invoke/MethodHandle" ∧ yX12_feed.cls ≠ "java/lang/invoke/VarHandle" ∧ (parseMethodDescriptor yX12_feed.desc).map (fun d => d.parameters.length) = some 5 := by decide +kernel
theorem pd_X12_guess : yX12_guess.cls = RX12 ∧ yX12_guess.cls ≠ "java/lang/invoke/MethodHandle" ∧ yX12_guess.cls ≠ "java/lang/invoke/VarHandle" ∧ (parseMethodDescriptor yX12_guess.desc).map (fun d => d.parameters.length) = some 1 := by decide +kernel
theorem pd_X12_guessed : yX12_guessed.cls = RX12 ∧ yX12_guessed.cls ≠ "java/lang/invoke/MethodHandle" ∧ yX12_guessed.cls ≠ "java/lang/invoke/VarHandle" ∧ (parseMethodDescriptor yX12_guessed.desc).map (fun d => d.parameters.length) = some 2 := by decide +kernel
theorem pd_X12_hit : yX12_hit.cls = RX12 ∧ yX12_hit.cls ≠ "java/lang/invoke/MethodHandle" ∧ yX12_hit.cls ≠ "java/lang/invoke/VarHandle" ∧ (parseMethodDescriptor yX12_hit.desc).map (fun d => d.parameters.length) = some 2 := by decide +kernel
theorem pd_X12_mean : yX12_mean.cls = RX12 ∧ yX12_mean.cls ≠ "java/lang/invoke/MethodHandle" ∧ yX12_mean.cls ≠ "java/lang/invoke/VarHandle" ∧ (parseMethodDescriptor yX12_mean.desc).map (fun d => d.parameters.length) = some 1 := by decide +kernel
theorem pd_X12_meaningOf : yX12_meaningOf.cls = RX12 ∧ yX12_meaningOf.cls ≠ "java/lang/invoke/MethodHandle" ∧ yX12_meaningOf.cls ≠ "java/lang/invoke/VarHandle" ∧ (parseMethodDescriptor yX12_meaningOf.desc).map (fun d => d.parameters.length) = some 1 := by decide +kernel
theorem pd_X12_mend : yX12_mend.cls = RX12 ∧ yX12_mend.cls ≠ "java/lang/invoke/MethodHandle" ∧ yX12_mend.cls ≠ "java/lang/invoke/VarHandle" ∧ (parseMethodDescriptor yX12_mend.desc).map (fun d => d.parameters.length) = some 2 := by decide +kernel
theorem pd_X12_number : yX12_number.cls = RX12 ∧ yX12_number.cls ≠ "java/lang/invoke/MethodHandle" ∧ yX12_number.cls ≠ "java/lang/invoke/VarHandle" ∧ (parseMethodDescriptor yX12_number.desc).map (fun d => d.parameters.length) = some 2 := by decide +kernel
theorem pd_X12_parse : yX12_parse.cls = RX12 ∧ yX12_parse.cls ≠ "java/lang/invoke/MethodHandle" ∧ yX12_parse.cls ≠ "java/lang/invoke/VarHandle" ∧ (parseMethodDescriptor yX12_parse.desc).map (fun d => d.parameters.length) = some 2 := by decide +kernel
theorem pd_X12_reading : yX12_reading.cls = RX12 ∧ yX12_reading.cls ≠ "java/lang/invoke/MethodHandle" ∧ yX12_reading.cls ≠ "java/lang/invoke/VarHandle" ∧ (parseMethodDescriptor yX12_reading.desc).map (fun d => d.parameters.length) = some 2 := by decide +kernel
theorem pd_X12_same : yX12_same.cls = RX12 ∧ yX12_same.cls ≠ "java/lang/invoke/MethodHandle" ∧ yX12_same.cls ≠ "java/lang/invoke/VarHandle" ∧ (parseMethodDescriptor yX12_same.desc).map (fun d => d.parameters.length) = some 2 := by decide +kernel
theorem pd_X12_say : yX12_say.cls = RX12 ∧ yX12_say.cls ≠ "java/lang/invoke/MethodHandle" ∧ yX12_say.cls ≠ "java/lang/invoke/VarHandle" ∧ (parseMethodDescriptor yX12_say.desc).map (fun d => d.parameters.length) = some 3 := by decide +kernel
theorem pd_X12_show : yX12_show.cls = RX12 ∧ yX12_show.cls ≠ "java/lang/invoke/MethodHandle" ∧ yX12_show.cls ≠ "java/lang/invoke/VarHandle" ∧ (parseMethodDescriptor yX12_show.desc).map (fun d => d.parameters.length) = some 1 := by decide +kernel
theorem pd_X12_sounds : yX12_sounds.cls = RX12 ∧ yX12_sounds.cls ≠ "java/lang/invoke/MethodHandle" ∧ yX12_sounds.cls ≠ "java/lang/invoke/VarHandle" ∧ (parseMethodDescriptor yX12_sounds.desc).map (fun d => d.parameters.length) = some 1 := by decide +kernel
theorem pd_X12_swap : yX12_swap.cls = RX12 ∧ yX12_swap.cls ≠ "java/lang/invoke/MethodHandle" ∧ yX12_swap.cls ≠ "java/lang/invoke/VarHandle" ∧ (parseMethodDescriptor yX12_swap.desc).map (fun d => d.parameters.length) = some 3 := by decide +kernel
theorem pd_X12_tongueAt : yX12_tongueAt.cls = RX12 ∧ yX12_tongueAt.cls ≠ "java/lang/invoke/MethodHandle" ∧ yX12_tongueAt.cls ≠ "java/lang/invoke/VarHandle" ∧ (parseMethodDescriptor yX12_tongueAt.desc).map (fun d => d.parameters.length) = some 1 := by decide +kernel
theorem pd_X12_tree : yX12_tree.cls = RX12 ∧ yX12_tree.cls ≠ "java/lang/invoke/MethodHandle" ∧ yX12_tree.cls ≠ "java/lang/invoke/VarHandle" ∧ (parseMethodDescriptor yX12_tree.desc).map (fun d => d.parameters.length) = some 1 := by decide +kernel
theorem pd_X12_truth : yX12_truth.cls = RX12 ∧ yX12_truth.cls ≠ "java/lang/invoke/MethodHandle" ∧ yX12_truth.cls ≠ "java/lang/invoke/VarHandle" ∧ (parseMethodDescriptor yX12_truth.desc).map (fun d => d.parameters.length) = some 1 := by decide +kernel
theorem pd_X13_bad : yX13_bad.cls = RX13 ∧ yX13_bad.cls ≠ "java/lang/invoke/MethodHandle" ∧ yX13_bad.cls ≠ "java/lang/invoke/VarHandle" ∧ (parseMethodDescriptor yX13_bad.desc).map (fun d => d.parameters.length) = some 0 := by decide +kernel
theorem pd_X13_four : yX13_four.cls = RX13 ∧ yX13_four.cls ≠ "java/lang/invoke/MethodHandle" ∧ yX13_four.cls ≠ "java/lang/invoke/VarHandle" ∧ (parseMethodDescriptor yX13_four.desc).map (fun d => d.parameters.length) = some 1 := by decide +kernel
theorem pd_X13_next : yX13_next.cls = RX13 ∧ yX13_next.cls ≠ "java/lang/invoke/MethodHandle" ∧ yX13_next.cls ≠ "java/lang/invoke/VarHandle" ∧ (parseMethodDescriptor yX13_next.desc).map (fun d => d.parameters.length) = some 0 := by decide +kernel
theorem pd_X13_noPlace : yX13_noPlace.cls = RX13 ∧ yX13_noPlace.cls ≠ "java/lang/invoke/MethodHandle" ∧ yX13_noPlace.cls ≠ "java/lang/invoke/VarHandle" ∧ (parseMethodDescriptor yX13_noPlace.desc).map (fun d => d.parameters.length) = some 1 := by decide +kernel
theorem pd_X13_noTongue : yX13_noTongue.cls = RX13 ∧ yX13_noTongue.cls ≠ "java/lang/invoke/MethodHandle" ∧ yX13_noTongue.cls ≠ "java/lang/invoke/VarHandle" ∧ (parseMethodDescriptor yX13_noTongue.desc).map (fun d => d.parameters.length) = some 1 := by decide +kernel
theorem pd_X13_noTree : yX13_noTree.cls = RX13 ∧ yX13_noTree.cls ≠ "java/lang/invoke/MethodHandle" ∧ yX13_noTree.cls ≠ "java/lang/invoke/VarHandle" ∧ (parseMethodDescriptor yX13_noTree.desc).map (fun d => d.parameters.length) = some 1 := by decide +kernel
theorem pd_X13_reads : yX13_reads.cls = RX13 ∧ yX13_reads.cls ≠ "java/lang/invoke/MethodHandle" ∧ yX13_reads.cls ≠ "java/lang/invoke/VarHandle" ∧ (parseMethodDescriptor yX13_reads.desc).map (fun d => d.parameters.length) = some 0 := by decide +kernel
theorem pd_X13_remember : yX13_remember.cls = RX13 ∧ yX13_remember.cls ≠ "java/lang/invoke/MethodHandle" ∧ yX13_remember.cls ≠ "java/lang/invoke/VarHandle" ∧ (parseMethodDescriptor yX13_remember.desc).map (fun d => d.parameters.length) = some 0 := by decide +kernel
theorem pd_X13_takes : yX13_takes.cls = RX13 ∧ yX13_takes.cls ≠ "java/lang/invoke/MethodHandle" ∧ yX13_takes.cls ≠ "java/lang/invoke/VarHandle" ∧ (parseMethodDescriptor yX13_takes.desc).map (fun d => d.parameters.length) = some 1 := by decide +kernel
theorem pd_X1_tellAnalysis : yX1_tellAnalysis.cls = RX1 ∧ yX1_tellAnalysis.cls ≠ "java/lang/invoke/MethodHandle" ∧ yX1_tellAnalysis.cls ≠ "java/lang/invoke/VarHandle" ∧ (parseMethodDescriptor yX1_tellAnalysis.desc).map (fun d => d.parameters.length) = some 2 := by decide +kernel
theorem pd_X1_tellGuess : yX1_tellGuess.cls = RX1 ∧ yX1_tellGuess.cls ≠ "java/lang/invoke/MethodHandle" ∧ yX1_tellGuess.cls ≠ "java/lang/invoke/VarHandle" ∧ (parseMethodDescriptor yX1_tellGuess.desc).map (fun d => d.parameters.length) = some 2 := by decide +kernel
theorem pd_X1_tellHit : yX1_tellHit.cls = RX1 ∧ yX1_tellHit.cls ≠ "java/lang/invoke/MethodHandle" ∧ yX1_tellHit.cls ≠ "java/lang/invoke/VarHandle" ∧ (parseMethodDescriptor yX1_tellHit.desc).map (fun d => d.parameters.length) = some 2 := by decide +kernel
theorem pd_X5_priceOf : yX5_priceOf.cls = RX5 ∧ yX5_priceOf.cls ≠ "java/lang/invoke/MethodHandle" ∧ yX5_priceOf.cls ≠ "java/lang/invoke/VarHandle" ∧ (parseMethodDescriptor yX5_priceOf.desc).map (fun d => d.parameters.length) = some 1 := by decide +kernel
theorem pd_X5_rank : yX5_rank.cls = RX5 ∧ yX5_rank.cls ≠ "java/lang/invoke/MethodHandle" ∧ yX5_rank.cls ≠ "java/lang/invoke/VarHandle" ∧ (parseMethodDescriptor yX5_rank.desc).map (fun d => d.parameters.length) = some 0 := by decide +kernel
theorem pd_X5_spell : yX5_spell.cls = RX5 ∧ yX5_spell.cls ≠ "java/lang/invoke/MethodHandle" ∧ yX5_spell.cls ≠ "java/lang/invoke/VarHandle" ∧ (parseMethodDescriptor yX5_spell.desc).map (fun d => d.parameters.length) = some 2 := by decide +kernel
theorem pd_X5_total : yX5_total.cls = RX5 ∧ yX5_total.cls ≠ "java/lang/invoke/MethodHandle" ∧ yX5_total.cls ≠ "java/lang/invoke/VarHandle" ∧ (parseMethodDescriptor yX5_total.desc).map (fun d => d.parameters.length) = some 0 := by decide +kernel
theorem pd_X6_begin : yX6_begin.cls = RX6 ∧ yX6_begin.cls ≠ "java/lang/invoke/MethodHandle" ∧ yX6_begin.cls ≠ "java/lang/invoke/VarHandle" ∧ (parseMethodDescriptor yX6_begin.desc).map (fun d => d.parameters.length) = some 0 := by decide +kernel
theorem pd_X6_readTree : yX6_readTree.cls = RX6 ∧ yX6_readTree.cls ≠ "java/lang/invoke/MethodHandle" ∧ yX6_readTree.cls ≠ "java/lang/invoke/VarHandle" ∧ (parseMethodDescriptor yX6_readTree.desc).map (fun d => d.parameters.length) = some 1 := by decide +kernel
theorem pd_X8_mark : yX8_mark.cls = RX8 ∧ yX8_mark.cls ≠ "java/lang/invoke/MethodHandle" ∧ yX8_mark.cls ≠ "java/lang/invoke/VarHandle" ∧ (parseMethodDescriptor yX8_mark.desc).map (fun d => d.parameters.length) = some 0 := by decide +kernel
theorem pd_X8_sizeOf : yX8_sizeOf.cls = RX8 ∧ yX8_sizeOf.cls ≠ "java/lang/invoke/MethodHandle" ∧ yX8_sizeOf.cls ≠ "java/lang/invoke/VarHandle" ∧ (parseMethodDescriptor yX8_sizeOf.desc).map (fun d => d.parameters.length) = some 1 := by decide +kernel
theorem pd_X9_advance : yX9_advance.cls = RX9 ∧ yX9_advance.cls ≠ "java/lang/invoke/MethodHandle" ∧ yX9_advance.cls ≠ "java/lang/invoke/VarHandle" ∧ (parseMethodDescriptor yX9_advance.desc).map (fun d => d.parameters.length) = some 0 := by decide +kernel
theorem pd_X9_onlyName : yX9_onlyName.cls = RX9 ∧ yX9_onlyName.cls ≠ "java/lang/invoke/MethodHandle" ∧ yX9_onlyName.cls ≠ "java/lang/invoke/VarHandle" ∧ (parseMethodDescriptor yX9_onlyName.desc).map (fun d => d.parameters.length) = some 0 := by decide +kernel
theorem pd_X9_put : yX9_put.cls = RX9 ∧ yX9_put.cls ≠ "java/lang/invoke/MethodHandle" ∧ yX9_put.cls ≠ "java/lang/invoke/VarHandle" ∧ (parseMethodDescriptor yX9_put.desc).map (fun d => d.parameters.length) = some 1 := by decide +kernel
theorem pd_X9_putFour : yX9_putFour.cls = RX9 ∧ yX9_putFour.cls ≠ "java/lang/invoke/MethodHandle" ∧ yX9_putFour.cls ≠ "java/lang/invoke/VarHandle" ∧ (parseMethodDescriptor yX9_putFour.desc).map (fun d => d.parameters.length) = some 1 := by decide +kernel
theorem pd_X9_rewind : yX9_rewind.cls = RX9 ∧ yX9_rewind.cls ≠ "java/lang/invoke/MethodHandle" ∧ yX9_rewind.cls ≠ "java/lang/invoke/VarHandle" ∧ (parseMethodDescriptor yX9_rewind.desc).map (fun d => d.parameters.length) = some 0 := by decide +kernel
