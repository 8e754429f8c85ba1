/-! THE WORDS of all contracts here: one list. -/
def pp_w0 : List Cond := [Cond.fieldLink RX12 19 "TongueHouse" "tape" "LTongueHouse$Text;",
  Cond.fieldLink RX12 100 "TongueHouse$Text" "size" "I",
  Cond.fieldLink RX9 22 "TongueHouse$Text" "size" "I",
  Cond.fieldLink RX9 11 "TongueHouse$Text" "bytes" "[B",
  Cond.methodLink RX9 26 yX9_put,
  Cond.code yX9_put cX9_put 2 none,
  Cond.instanceMethod yX9_put,
  Cond.selects RX9 yX9_put yX9_put,
  Cond.initialized RX9,
  Cond.methodLink RX12 111 yX9_putFour,
  Cond.code yX9_putFour cX9_putFour 2 none,
  Cond.instanceMethod yX9_putFour,
  Cond.selects RX9 yX9_putFour yX9_putFour,
  Cond.fieldLink RX13 3 "TongueHouseModel" "thrown" "I",
  Cond.fieldLink RX13 576 "TongueHouseModel" "taped" "I",
  Cond.fieldLink RX13 188 "TongueHouseModel" "tape" "[B",
  Cond.methodLink RX13 583 yX13_four,
  Cond.code yX13_four cX13_four 3 none,
  Cond.instanceMethod yX13_four,
  Cond.selects RX13 yX13_four yX13_four,
  Cond.initialized RX13,
  Cond.classLink RX12 115 "java/lang/IllegalArgumentException",
  Cond.initialized "java/lang/IllegalArgumentException",
  Cond.methodLink RX13 579 yX13_bad,
  Cond.code yX13_bad cX13_bad 1 (some .int),
  Cond.instanceMethod yX13_bad,
  Cond.selects RX13 yX13_bad yX13_bad,
  Cond.fieldLink RX12 37 "TongueHouse" "reader" "LTongueHouse$Reader;",
  Cond.fieldLink RX6 47 "TongueHouse$Reader" "rule" "I",
  Cond.fieldLink RX6 39 "TongueHouse$Reader" "store" "LTongueHouse$Store;",
  Cond.fieldLink RX8 78 "TongueHouse$Store" "isFull" "Z",
  Cond.fieldLink RX8 72 "TongueHouse$Store" "marks" "[I",
  Cond.fieldLink RX8 18 "TongueHouse$Store" "kinds" "LTongueHouse$Names;",
  Cond.fieldLink RX8 82 "TongueHouse$Names" "size" "I",
  Cond.fieldLink RX8 22 "TongueHouse$Store" "funs" "LTongueHouse$Names;",
  Cond.fieldLink RX8 25 "TongueHouse$Store" "things" "LTongueHouse$Names;",
  Cond.fieldLink RX8 28 "TongueHouse$Store" "tongueNames" "LTongueHouse$Names;",
  Cond.fieldLink RX8 85 "TongueHouse$Store" "factCount" "I",
  Cond.fieldLink RX8 88 "TongueHouse$Store" "poolSize" "I",
  Cond.fieldLink RX8 35 "TongueHouse$Store" "current" "I",
  Cond.fieldLink RX8 52 "TongueHouse$Store" "meanSize" "[I",
  Cond.methodLink RX8 95 arraycopyName,
  Cond.native arraycopyName,
  Cond.static arraycopyName,
  Cond.initialized "java/lang/System",
  Cond.methodLink RX6 51 yX8_mark,
  Cond.code yX8_mark cX8_mark 2 none,
  Cond.instanceMethod yX8_mark,
  Cond.selects RX8 yX8_mark yX8_mark,
  Cond.initialized RX8,
  Cond.fieldLink RX6 43 "TongueHouse$Reader" "tape" "LTongueHouse$Text;",
  Cond.fieldLink RX9 49 "TongueHouse$Text" "next" "I",
  Cond.fieldLink RX9 55 "TongueHouse$Text" "at" "I",
  Cond.fieldLink RX9 58 "TongueHouse$Text" "type" "I",
  Cond.methodLink RX9 52 yX9_advance,
  Cond.code yX9_advance cX9_advance 3 none,
  Cond.instanceMethod yX9_advance,
  Cond.selects RX9 yX9_advance yX9_advance,
  Cond.methodLink RX6 56 yX9_rewind,
  Cond.code yX9_rewind cX9_rewind 1 none,
  Cond.instanceMethod yX9_rewind,
  Cond.selects RX9 yX9_rewind yX9_rewind,
  Cond.methodLink RX12 120 yX6_begin,
  Cond.code yX6_begin cX6_begin 1 none,
  Cond.instanceMethod yX6_begin,
  Cond.selects RX6 yX6_begin yX6_begin,
  Cond.initialized RX6,
  Cond.fieldLink RX12 123 "TongueHouse$Text" "type" "I",
  Cond.fieldLink RX13 586 "TongueHouseModel" "textN" "I",
  Cond.methodLink RX13 682 yX13_reads,
  Cond.code yX13_reads cX13_reads 2 none,
  Cond.instanceMethod yX13_reads,
  Cond.selects RX13 yX13_reads yX13_reads,
  Cond.fieldLink RX13 286 "TongueHouseModel" "had" "[I",
  Cond.fieldLink RX13 658 "TongueHouseModel" "tongues" "I",
  Cond.fieldLink RX13 661 "TongueHouseModel" "kinds" "I",
  Cond.fieldLink RX13 664 "TongueHouseModel" "funs" "I",
  Cond.fieldLink RX13 667 "TongueHouseModel" "things" "I",
  Cond.fieldLink RX13 670 "TongueHouseModel" "facts" "I",
  Cond.fieldLink RX13 15 "TongueHouseModel" "current" "I",
  Cond.fieldLink RX13 673 "TongueHouseModel" "parts" "I",
  Cond.fieldLink RX13 637 "TongueHouseModel" "letters" "I",
  Cond.fieldLink RX13 676 "TongueHouseModel" "terms" "I",
  Cond.fieldLink RX13 56 "TongueHouseModel" "features" "[I",
  Cond.fieldLink RX13 59 "TongueHouseModel" "values" "[I",
  Cond.fieldLink RX13 62 "TongueHouseModel" "classes" "[I",
  Cond.fieldLink RX13 65 "TongueHouseModel" "sounds" "[I",
  Cond.fieldLink RX13 68 "TongueHouseModel" "patterns" "[I",
  Cond.fieldLink RX13 71 "TongueHouseModel" "words" "[I",
  Cond.fieldLink RX13 74 "TongueHouseModel" "lins" "[I",
  Cond.fieldLink RX13 679 "TongueHouseModel" "meants" "I",
  Cond.methodLink RX13 685 yX13_remember,
  Cond.code yX13_remember cX13_remember 3 none,
  Cond.instanceMethod yX13_remember,
  Cond.selects RX13 yX13_remember yX13_remember,
  Cond.fieldLink RX13 597 "TongueHouseModel" "tkEnd" "I",
  Cond.fieldLink RX13 639 "TongueHouseModel" "wrong" "I",
  Cond.fieldLink RX13 600 "TongueHouseModel" "tkAt" "I",
  Cond.fieldLink RX13 603 "TongueHouseModel" "tkNumber" "I",
  Cond.fieldLink RX13 606 "TongueHouseModel" "tkName" "J",
  Cond.fieldLink RX13 609 "TongueHouseModel" "tk" "I",
  Cond.methodLink RX13 655 yX13_next,
  Cond.code yX13_next cX13_next 2 none,
  Cond.instanceMethod yX13_next,
  Cond.selects RX13 yX13_next yX13_next,
  Cond.fieldLink RX13 695 "TongueHouseModel" "lastRule" "I",
  Cond.fieldLink RX13 698 "TongueHouseModel" "version" "I",
  Cond.fieldLink RX12 136 "TongueHouse$Reader" "rule" "I",
  Cond.fieldLink RX12 23 "TongueHouse" "out" "LTongueHouse$Text;",
  Cond.fieldLink RX13 589 "TongueHouseModel" "outN" "I",
  Cond.fieldLink RX12 12 "TongueHouse" "store" "LTongueHouse$Store;",
  Cond.fieldLink RX12 145 "TongueHouse$Store" "kinds" "LTongueHouse$Names;",
  Cond.methodLink RX9 80 yX9_rewind,
  Cond.methodLink RX12 165 yX9_onlyName,
  Cond.code yX9_onlyName cX9_onlyName 3 (some .long),
  Cond.instanceMethod yX9_onlyName,
  Cond.selects RX9 yX9_onlyName yX9_onlyName,
  Cond.fieldLink RX12 149 "TongueHouse$Store" "tongueNames" "LTongueHouse$Names;",
  Cond.fieldLink RX12 239 "TongueHouse$Names" "size" "I",
  Cond.methodLink RX12 155 yX12_tongueAt,
  Cond.code yX12_tongueAt cX12_tongueAt 2 (some (.object "TongueHouse$Tongue")),
  Cond.instanceMethod yX12_tongueAt,
  Cond.selects RX12 yX12_tongueAt yX12_tongueAt,
  Cond.initialized RX12,
  Cond.fieldLink RX12 152 "TongueHouse$Store" "funs" "LTongueHouse$Names;",
  Cond.fieldLink RX12 76 "TongueHouse" "finder" "LTongueHouse$Finder;",
  Cond.fieldLink RX1 53 "TongueHouse$Finder" "analyses" "I",
  Cond.methodLink RX12 203 yX1_tellAnalysis,
  Cond.code yX1_tellAnalysis cX1_tellAnalysis 6 (some .int),
  Cond.instanceMethod yX1_tellAnalysis,
  Cond.selects RX1 yX1_tellAnalysis yX1_tellAnalysis,
  Cond.initialized RX1,
  Cond.fieldLink RX13 854 "TongueHouseModel" "foundN" "I",
  Cond.fieldLink RX1 113 "TongueHouse$Finder" "guesses" "I",
  Cond.methodLink RX12 226 yX1_tellGuess,
  Cond.code yX1_tellGuess cX1_tellGuess 3 (some .int),
  Cond.instanceMethod yX1_tellGuess,
  Cond.selects RX1 yX1_tellGuess yX1_tellGuess,
  Cond.fieldLink RX13 870 "TongueHouseModel" "guesses" "I",
  Cond.fieldLink RX1 165 "TongueHouse$Finder" "hits" "I",
  Cond.methodLink RX12 310 yX1_tellHit,
  Cond.code yX1_tellHit cX1_tellHit 3 (some .int),
  Cond.instanceMethod yX1_tellHit,
  Cond.selects RX1 yX1_tellHit yX1_tellHit,
  Cond.fieldLink RX13 1052 "TongueHouseModel" "hits" "I",
  Cond.fieldLink RX12 55 "TongueHouse" "ranking" "LTongueHouse$Ranking;",
  Cond.fieldLink RX5 61 "TongueHouse$Ranking" "isOpen" "Z",
  Cond.methodLink RX12 236 yX5_total,
  Cond.code yX5_total cX5_total 5 (some .long),
  Cond.instanceMethod yX5_total,
  Cond.selects RX5 yX5_total yX5_total,
  Cond.initialized RX5,
  Cond.fieldLink RX13 984 "TongueHouseModel" "all" "J",
  Cond.methodLink RX5 146 yX5_rank,
  Cond.code yX5_rank cX5_rank 4 none,
  Cond.instanceMethod yX5_rank,
  Cond.selects RX5 yX5_rank yX5_rank,
  Cond.fieldLink RX5 68 "TongueHouse$Ranking" "topSize" "I",
  Cond.methodLink RX12 246 yX5_priceOf,
  Cond.code yX5_priceOf cX5_priceOf 2 (some .int),
  Cond.instanceMethod yX5_priceOf,
  Cond.selects RX5 yX5_priceOf yX5_priceOf,
  Cond.fieldLink RX13 977 "TongueHouseModel" "readings" "I",
  Cond.fieldLink RX12 289 "TongueHouse" "candidateCount" "I",
  Cond.fieldLink RX13 1046 "TongueHouseModel" "candidates" "I",
  Cond.methodLink RX12 249 yX12_checkPlace,
  Cond.code yX12_checkPlace cX12_checkPlace 1 none,
  Cond.static yX12_checkPlace,
  Cond.fieldLink RX12 82 "TongueHouse" "planted" "[[I",
  Cond.methodLink RX12 252 yX5_spell,
  Cond.code yX5_spell cX5_spell 11 (some .int),
  Cond.instanceMethod yX5_spell,
  Cond.selects RX5 yX5_spell yX5_spell,
  Cond.methodLink RX13 1017 yX13_noPlace,
  Cond.code yX13_noPlace cX13_noPlace 2 (some .boolean),
  Cond.instanceMethod yX13_noPlace,
  Cond.selects RX13 yX13_noPlace yX13_noPlace,
  Cond.fieldLink RX6 67 "TongueHouse$Text" "type" "I",
  Cond.fieldLink RX6 61 "TongueHouse$Text" "at" "I",
  Cond.methodLink RX12 262 yX6_readTree,
  Cond.code yX6_readTree cX6_readTree 5 (some .int),
  Cond.instanceMethod yX6_readTree,
  Cond.selects RX6 yX6_readTree yX6_readTree,
  Cond.fieldLink RX13 1011 "TongueHouseModel" "treeN" "I",
  Cond.methodLink RX13 1020 yX13_noTree,
  Cond.code yX13_noTree cX13_noTree 4 (some .boolean),
  Cond.instanceMethod yX13_noTree,
  Cond.selects RX13 yX13_noTree yX13_noTree,
  Cond.fieldLink RX12 85 "TongueHouse" "plantedSize" "[I",
  Cond.fieldLink RX13 467 "TongueHouseModel" "placeN" "[I",
  Cond.methodLink RX13 1030 yX13_takes,
  Cond.code yX13_takes cX13_takes 3 (some .int),
  Cond.instanceMethod yX13_takes,
  Cond.selects RX13 yX13_takes yX13_takes,
  Cond.methodLink RX12 278 yX12_meaningOf,
  Cond.code yX12_meaningOf cX12_meaningOf 2 (some .int),
  Cond.instanceMethod yX12_meaningOf,
  Cond.selects RX12 yX12_meaningOf yX12_meaningOf,
  Cond.methodLink RX12 355 yX8_sizeOf,
  Cond.code yX8_sizeOf cX8_sizeOf 2 (some .int),
  Cond.instanceMethod yX8_sizeOf,
  Cond.selects RX8 yX8_sizeOf yX8_sizeOf,
  Cond.fieldLink RX12 46 "TongueHouse" "chart" "LTongueHouse$Chart;",
  Cond.fieldLink RX12 346 "TongueHouse$Chart" "nodes" "I",
  Cond.fieldLink RX12 349 "TongueHouse$Chart" "ways" "I",
  Cond.fieldLink RX12 352 "TongueHouse$Finder" "collected" "I",
  Cond.fieldLink RX13 989 "TongueHouseModel" "noted" "I",
  Cond.fieldLink RX13 992 "TongueHouseModel" "notedWays" "I",
  Cond.fieldLink RX13 1049 "TongueHouseModel" "collected" "I",
  Cond.methodLink RX13 845 yX13_noTongue,
  Cond.code yX13_noTongue cX13_noTongue 2 (some .boolean),
  Cond.instanceMethod yX13_noTongue,
  Cond.selects RX13 yX13_noTongue yX13_noTongue,
  Cond.methodLink RL 7 yX12_feed,
  Cond.code yX12_feed cX12_feed 6 (some .int),
  Cond.instanceMethod yX12_feed,
  Cond.selects RX12 yX12_feed yX12_feed,
  Cond.methodLink RL 15 yX12_end,
  Cond.code yX12_end cX12_end 2 (some .int),
  Cond.instanceMethod yX12_end,
  Cond.selects RX12 yX12_end yX12_end,
  Cond.classLink RL 19 "java/lang/IllegalArgumentException",
  Cond.methodLink RL 21 yX12_number,
  Cond.code yX12_number cX12_number 6 (some .int),
  Cond.instanceMethod yX12_number,
  Cond.selects RX12 yX12_number yX12_number,
  Cond.methodLink RL 31 yX12_analysis,
  Cond.code yX12_analysis cX12_analysis 3 (some .int),
  Cond.instanceMethod yX12_analysis,
  Cond.selects RX12 yX12_analysis yX12_analysis,
  Cond.methodLink RL 41 yX12_guessed,
  Cond.code yX12_guessed cX12_guessed 3 (some .int),
  Cond.instanceMethod yX12_guessed,
  Cond.selects RX12 yX12_guessed yX12_guessed,
  Cond.methodLink RL 82 yX12_hit,
  Cond.code yX12_hit cX12_hit 3 (some .int),
  Cond.instanceMethod yX12_hit,
  Cond.selects RX12 yX12_hit yX12_hit,
  Cond.methodLink RL 51 yX12_reading,
  Cond.code yX12_reading cX12_reading 4 (some .int),
  Cond.instanceMethod yX12_reading,
  Cond.selects RX12 yX12_reading yX12_reading,
  Cond.methodLink RL 54 yX12_tree,
  Cond.code yX12_tree cX12_tree 3 (some .int),
  Cond.instanceMethod yX12_tree,
  Cond.selects RX12 yX12_tree yX12_tree,
  Cond.methodLink RL 57 yX12_show,
  Cond.code yX12_show cX12_show 2 (some .int),
  Cond.instanceMethod yX12_show,
  Cond.selects RX12 yX12_show yX12_show,
  Cond.methodLink RL 60 yX12_same,
  Cond.code yX12_same cX12_same 4 (some .boolean),
  Cond.instanceMethod yX12_same,
  Cond.selects RX12 yX12_same yX12_same,
  Cond.methodLink RL 67 yX12_mean,
  Cond.code yX12_mean cX12_mean 3 (some .int),
  Cond.instanceMethod yX12_mean,
  Cond.selects RX12 yX12_mean yX12_mean,
  Cond.methodLink RL 70 yX12_truth,
  Cond.code yX12_truth cX12_truth 3 (some .int),
  Cond.instanceMethod yX12_truth,
  Cond.selects RX12 yX12_truth yX12_truth,
  Cond.methodLink RL 88 yX12_count,
  Cond.code yX12_count cX12_count 3 (some .int),
  Cond.instanceMethod yX12_count,
  Cond.selects RX12 yX12_count yX12_count,
  Cond.methodLink RL 25 yX12_sounds,
  Cond.code yX12_sounds cX12_sounds 4 (some .int),
  Cond.instanceMethod yX12_sounds,
  Cond.selects RX12 yX12_sounds yX12_sounds,
  Cond.methodLink RL 28 yX12_analyse,
  Cond.code yX12_analyse cX12_analyse 4 (some .int),
  Cond.instanceMethod yX12_analyse,
  Cond.selects RX12 yX12_analyse yX12_analyse,
  Cond.methodLink RL 34 yX12_cell,
  Cond.code yX12_cell cX12_cell 7 (some .int),
  Cond.instanceMethod yX12_cell,
  Cond.selects RX12 yX12_cell yX12_cell,
  Cond.methodLink RL 38 yX12_guess,
  Cond.code yX12_guess cX12_guess 4 (some .int),
  Cond.instanceMethod yX12_guess,
  Cond.selects RX12 yX12_guess yX12_guess,
  Cond.methodLink RL 44 yX12_parse,
  Cond.code yX12_parse cX12_parse 5 (some .int),
  Cond.instanceMethod yX12_parse,
  Cond.selects RX12 yX12_parse yX12_parse,
  Cond.methodLink RL 47 yX12_bar,
  Cond.code yX12_bar cX12_bar 3 (some .long),
  Cond.instanceMethod yX12_bar,
  Cond.selects RX12 yX12_bar yX12_bar,
  Cond.methodLink RL 64 yX12_say,
  Cond.code yX12_say cX12_say 5 (some .int),
  Cond.instanceMethod yX12_say,
  Cond.selects RX12 yX12_say yX12_say,
  Cond.methodLink RL 73 yX12_swap,
  Cond.code yX12_swap cX12_swap 9 (some .int),
  Cond.instanceMethod yX12_swap,
  Cond.selects RX12 yX12_swap yX12_swap,
  Cond.methodLink RL 76 yX12_add,
  Cond.code yX12_add cX12_add 3 (some .int),
  Cond.instanceMethod yX12_add,
  Cond.selects RX12 yX12_add yX12_add,
  Cond.methodLink RL 79 yX12_ask,
  Cond.code yX12_ask cX12_ask 4 (some .int),
  Cond.instanceMethod yX12_ask,
  Cond.selects RX12 yX12_ask yX12_ask,
  Cond.methodLink RL 85 yX12_mend,
  Cond.code yX12_mend cX12_mend 10 (some .int),
  Cond.instanceMethod yX12_mend,
  Cond.selects RX12 yX12_mend yX12_mend,
  Cond.fieldLink RJ0 38 "java/lang/String" "COMPACT_STRINGS" "Z",
  Cond.fieldLink RJ0 15 "java/lang/String" "coder" "B",
  Cond.fieldLink RJ0 9 "java/lang/String" "value" "[B",
  Cond.code yJ0_coder_7d493 cJ0_coder_7d493 1 (some .byte),
  Cond.methodLink RJ0 335 yJ0_coder_7d493,
  Cond.instanceMethod yJ0_coder_7d493,
  Cond.selects RJ0 yJ0_coder_7d493 yJ0_coder_7d493,
  Cond.initialized RJ0,
  Cond.fieldLink RJ0 1053 "jdk/internal/util/Preconditions" "SIOOBE_FORMATTER" "Ljava/util/function/BiFunction;",
  Cond.code yJ3_checkIndex_8e157 cJ3_checkIndex_8e157 3 (some .int),
  Cond.methodLink RJ0 1059 yJ3_checkIndex_8e157,
  Cond.static yJ3_checkIndex_8e157,
  Cond.initialized RJ3,
  Cond.code yJ0_checkIndex_df160 cJ0_checkIndex_df160 2 none,
  Cond.methodLink RJ1 9 yJ0_checkIndex_df160,
  Cond.static yJ0_checkIndex_df160,
  Cond.code yJ0_isLatin1_aae02 cJ0_isLatin1_aae02 1 (some .boolean),
  Cond.methodLink RJ0 492 yJ0_isLatin1_aae02,
  Cond.instanceMethod yJ0_isLatin1_aae02,
  Cond.selects RJ0 yJ0_isLatin1_aae02 yJ0_isLatin1_aae02,
  Cond.code yJ1_charAt_3b067 cJ1_charAt_3b067 2 (some .char),
  Cond.methodLink RJ0 495 yJ1_charAt_3b067,
  Cond.static yJ1_charAt_3b067,
  Cond.initialized RJ1,
  Cond.code yJ0_length_8abf5 cJ0_length_8abf5 1 (some .int),
  Cond.methodLink RX13 627 yJ0_length_8abf5,
  Cond.instanceMethod yJ0_length_8abf5,
  Cond.selects RJ0 yJ0_length_8abf5 yJ0_length_8abf5,
  Cond.code yJ0_charAt_5068e cJ0_charAt_5068e 2 (some .char),
  Cond.methodLink RX13 630 yJ0_charAt_5068e,
  Cond.instanceMethod yJ0_charAt_5068e,
  Cond.selects RJ0 yJ0_charAt_5068e yJ0_charAt_5068e,
  Cond.code yX13_word cX13_word 4 (some .long),
  Cond.methodLink RX13 199 yX13_word,
  Cond.static yX13_word,
  Cond.methodLink RX13 9 objectInit,
  Cond.instanceMethod objectInit,
  Cond.code objectInit ⟨#[0xb1]⟩ 1 none,
  Cond.arrayClass .long,
  Cond.fieldLink RX13 18 "TongueHouseModel" "tongueName" "[J",
  Cond.fieldLink RX13 22 "TongueHouseModel" "kindName" "[J",
  Cond.fieldLink RX13 25 "TongueHouseModel" "funName" "[J",
  Cond.fieldLink RX13 28 "TongueHouseModel" "thingName" "[J",
  Cond.fieldLink RX13 31 "TongueHouseModel" "factName" "[J",
  Cond.arrayClass .int,
  Cond.fieldLink RX13 34 "TongueHouseModel" "funArgs" "[I",
  Cond.fieldLink RX13 38 "TongueHouseModel" "funArg" "[I",
  Cond.fieldLink RX13 41 "TongueHouseModel" "funKind" "[I",
  Cond.fieldLink RX13 44 "TongueHouseModel" "funPrice" "[I",
  Cond.fieldLink RX13 47 "TongueHouseModel" "funMean" "[I",
  Cond.fieldLink RX13 50 "TongueHouseModel" "factA" "[I",
  Cond.fieldLink RX13 53 "TongueHouseModel" "factB" "[I",
  Cond.fieldLink RX13 77 "TongueHouseModel" "featureName" "[J",
  Cond.fieldLink RX13 80 "TongueHouseModel" "valueName" "[J",
  Cond.fieldLink RX13 83 "TongueHouseModel" "className" "[J",
  Cond.fieldLink RX13 86 "TongueHouseModel" "patternName" "[J",
  Cond.fieldLink RX13 89 "TongueHouseModel" "valueFeature" "[I",
  Cond.fieldLink RX13 92 "TongueHouseModel" "valueNumber" "[I",
  Cond.fieldLink RX13 95 "TongueHouseModel" "classLetters" "[I",
  Cond.fieldLink RX13 98 "TongueHouseModel" "soundFrom" "[I",
  Cond.fieldLink RX13 101 "TongueHouseModel" "soundTo" "[I",
  Cond.fieldLink RX13 104 "TongueHouseModel" "soundLeft" "[I",
  Cond.fieldLink RX13 107 "TongueHouseModel" "soundRight" "[I",
  Cond.fieldLink RX13 110 "TongueHouseModel" "cells" "[I",
  Cond.fieldLink RX13 113 "TongueHouseModel" "cellValues" "[I",
  Cond.fieldLink RX13 116 "TongueHouseModel" "cellParts" "[I",
  Cond.fieldLink RX13 119 "TongueHouseModel" "cellMany" "[I",
  Cond.constant RX13 122 (42000),
  Cond.fieldLink RX13 123 "TongueHouseModel" "part" "[I",
  Cond.fieldLink RX13 126 "TongueHouseModel" "wordFun" "[I",
  Cond.fieldLink RX13 129 "TongueHouseModel" "wordPattern" "[I",
  Cond.fieldLink RX13 132 "TongueHouseModel" "wordStem" "[I",
  Cond.fieldLink RX13 135 "TongueHouseModel" "wordValues" "[I",
  Cond.fieldLink RX13 138 "TongueHouseModel" "wordPrice" "[I",
  Cond.fieldLink RX13 141 "TongueHouseModel" "linFun" "[I",
  Cond.fieldLink RX13 144 "TongueHouseModel" "linItems" "[I",
  Cond.fieldLink RX13 147 "TongueHouseModel" "linItem" "[I",
  Cond.fieldLink RX13 150 "TongueHouseModel" "linAsked" "[I",
  Cond.fieldLink RX13 153 "TongueHouseModel" "linSaid" "[I",
  Cond.fieldLink RX13 156 "TongueHouseModel" "linHow" "[I",
  Cond.fieldLink RX13 159 "TongueHouseModel" "linA" "[I",
  Cond.fieldLink RX13 162 "TongueHouseModel" "linB" "[I",
  Cond.fieldLink RX13 165 "TongueHouseModel" "linF" "[I",
  Cond.fieldLink RX13 168 "TongueHouseModel" "linPrice" "[I",
  Cond.constant RX13 171 (82000),
  Cond.arrayClass .byte,
  Cond.fieldLink RX13 172 "TongueHouseModel" "letter" "[B",
  Cond.fieldLink RX13 176 "TongueHouseModel" "termKind" "[I",
  Cond.fieldLink RX13 179 "TongueHouseModel" "termA" "[I",
  Cond.fieldLink RX13 182 "TongueHouseModel" "termB" "[I",
  Cond.fieldLink RX13 185 "TongueHouseModel" "termName" "[J",
  Cond.fieldLink RX13 191 "TongueHouseModel" "text" "[B",
  Cond.fieldLink RX13 194 "TongueHouseModel" "out" "[B",
  Cond.fieldLink RX13 203 "TongueHouseModel" "W_TONGUE" "J",
  Cond.fieldLink RX13 209 "TongueHouseModel" "W_KIND" "J",
  Cond.fieldLink RX13 214 "TongueHouseModel" "W_FUN" "J",
  Cond.fieldLink RX13 219 "TongueHouseModel" "W_FEATURE" "J",
  Cond.fieldLink RX13 224 "TongueHouseModel" "W_LETTERS" "J",
  Cond.fieldLink RX13 229 "TongueHouseModel" "W_SOUND" "J",
  Cond.fieldLink RX13 234 "TongueHouseModel" "W_PATTERN" "J",
  Cond.fieldLink RX13 238 "TongueHouseModel" "W_WORD" "J",
  Cond.fieldLink RX13 243 "TongueHouseModel" "W_LIN" "J",
  Cond.fieldLink RX13 248 "TongueHouseModel" "W_MEAN" "J",
  Cond.fieldLink RX13 253 "TongueHouseModel" "W_THING" "J",
  Cond.fieldLink RX13 258 "TongueHouseModel" "W_FACT" "J",
  Cond.fieldLink RX13 263 "TongueHouseModel" "W_COST" "J",
  Cond.fieldLink RX13 268 "TongueHouseModel" "W_HAS" "J",
  Cond.fieldLink RX13 273 "TongueHouseModel" "W_OF" "J",
  Cond.fieldLink RX13 278 "TongueHouseModel" "W_AGREE" "J",
  Cond.fieldLink RX13 283 "TongueHouseModel" "W_GIVE" "J",
  Cond.fieldLink RX13 289 "TongueHouseModel" "meant" "[I",
  Cond.fieldLink RX13 292 "TongueHouseModel" "four" "[I",
  Cond.fieldLink RX13 295 "TongueHouseModel" "six" "[J",
  Cond.fieldLink RX13 298 "TongueHouseModel" "sides" "[I",
  Cond.fieldLink RX13 301 "TongueHouseModel" "newValues" "[I",
  Cond.fieldLink RX13 304 "TongueHouseModel" "newParts" "[I",
  Cond.fieldLink RX13 307 "TongueHouseModel" "newMany" "[I",
  Cond.fieldLink RX13 310 "TongueHouseModel" "stems" "[I",
  Cond.fieldLink RX13 313 "TongueHouseModel" "itemIs" "[I",
  Cond.fieldLink RX13 316 "TongueHouseModel" "itemAsks" "[I",
  Cond.fieldLink RX13 319 "TongueHouseModel" "saidHow" "[I",
  Cond.fieldLink RX13 322 "TongueHouseModel" "saidA" "[I",
  Cond.fieldLink RX13 325 "TongueHouseModel" "saidB" "[I",
  Cond.fieldLink RX13 328 "TongueHouseModel" "saidF" "[I",
  Cond.fieldLink RX13 331 "TongueHouseModel" "argAt" "[I",
  Cond.fieldLink RX13 334 "TongueHouseModel" "binder" "[J",
  Cond.fieldLink RX13 337 "TongueHouseModel" "buf" "[B",
  Cond.fieldLink RX13 340 "TongueHouseModel" "made" "[B",
  Cond.fieldLink RX13 343 "TongueHouseModel" "formsOf" "I",
  Cond.fieldLink RX13 346 "TongueHouseModel" "formsAt" "I",
  Cond.constant RX13 349 (36864),
  Cond.fieldLink RX13 350 "TongueHouseModel" "formLetter" "[B",
  Cond.fieldLink RX13 353 "TongueHouseModel" "formSize" "[I",
  Cond.fieldLink RX13 356 "TongueHouseModel" "found" "[I",
  Cond.fieldLink RX13 359 "TongueHouseModel" "guessP" "[I",
  Cond.fieldLink RX13 362 "TongueHouseModel" "guessN" "[I",
  Cond.fieldLink RX13 365 "TongueHouseModel" "said" "[B",
  Cond.fieldLink RX13 368 "TongueHouseModel" "other" "[B",
  Cond.fieldLink RX13 371 "TongueHouseModel" "saidN" "[I",
  Cond.fieldLink RX13 374 "TongueHouseModel" "otherN" "[I",
  Cond.fieldLink RX13 377 "TongueHouseModel" "nKind" "[I",
  Cond.fieldLink RX13 380 "TongueHouseModel" "nTo" "[I",
  Cond.fieldLink RX13 383 "TongueHouseModel" "nValues" "[I",
  Cond.fieldLink RX13 386 "TongueHouseModel" "nNext" "[I",
  Cond.fieldLink RX13 389 "TongueHouseModel" "nAt" "[I",
  Cond.fieldLink RX13 392 "TongueHouseModel" "nMany" "[I",
  Cond.fieldLink RX13 395 "TongueHouseModel" "span" "[I",
  Cond.fieldLink RX13 398 "TongueHouseModel" "yNode" "[I",
  Cond.fieldLink RX13 401 "TongueHouseModel" "yA" "[I",
  Cond.fieldLink RX13 404 "TongueHouseModel" "yB" "[I",
  Cond.fieldLink RX13 407 "TongueHouseModel" "yLin" "[I",
  Cond.constant RX13 410 (36000),
  Cond.fieldLink RX13 411 "TongueHouseModel" "yArg" "[I",
  Cond.fieldLink RX13 414 "TongueHouseModel" "yOrder" "[I",
  Cond.fieldLink RX13 417 "TongueHouseModel" "eff" "[I",
  Cond.fieldLink RX13 420 "TongueHouseModel" "fin" "[I",
  Cond.fieldLink RX13 423 "TongueHouseModel" "argNode" "[I",
  Cond.fieldLink RX13 426 "TongueHouseModel" "itemNode" "[I",
  Cond.fieldLink RX13 429 "TongueHouseModel" "nTrees" "[J",
  Cond.fieldLink RX13 432 "TongueHouseModel" "topN" "[I",
  Cond.constant RX13 435 (48000),
  Cond.fieldLink RX13 436 "TongueHouseModel" "topPrice" "[I",
  Cond.fieldLink RX13 439 "TongueHouseModel" "topWay" "[I",
  Cond.fieldLink RX13 442 "TongueHouseModel" "topRanks" "[I",
  Cond.arrayClass .boolean,
  Cond.fieldLink RX13 445 "TongueHouseModel" "barred" "[Z",
  Cond.fieldLink RX13 449 "TongueHouseModel" "forest" "I",
  Cond.fieldLink RX13 452 "TongueHouseModel" "readNode" "[I",
  Cond.fieldLink RX13 455 "TongueHouseModel" "readRank" "[I",
  Cond.fieldLink RX13 458 "TongueHouseModel" "readPrice" "[I",
  Cond.fieldLink RX13 461 "TongueHouseModel" "tree" "[I",
  Cond.fieldLink RX13 464 "TongueHouseModel" "placeFun" "[I",
  Cond.constant RX13 470 (288000),
  Cond.fieldLink RX13 471 "TongueHouseModel" "optText" "[B",
  Cond.fieldLink RX13 474 "TongueHouseModel" "optSize" "[I",
  Cond.fieldLink RX13 477 "TongueHouseModel" "optValues" "[I",
  Cond.fieldLink RX13 480 "TongueHouseModel" "optPrice" "[I",
  Cond.fieldLink RX13 483 "TongueHouseModel" "optOrder" "[I",
  Cond.fieldLink RX13 486 "TongueHouseModel" "optN" "[I",
  Cond.fieldLink RX13 489 "TongueHouseModel" "argTree" "[I",
  Cond.fieldLink RX13 492 "TongueHouseModel" "picked" "[I",
  Cond.fieldLink RX13 495 "TongueHouseModel" "candidate" "[B",
  Cond.fieldLink RX13 498 "TongueHouseModel" "candidateN" "[I",
  Cond.constant RX13 501 (57600),
  Cond.fieldLink RX13 502 "TongueHouseModel" "kept" "[B",
  Cond.fieldLink RX13 505 "TongueHouseModel" "keptN" "[I",
  Cond.fieldLink RX13 508 "TongueHouseModel" "keptTongue" "[I",
  Cond.fieldLink RX13 511 "TongueHouseModel" "keptSize" "[I",
  Cond.fieldLink RX13 514 "TongueHouseModel" "asked" "[I",
  Cond.fieldLink RX13 517 "TongueHouseModel" "askedN" "[I",
  Cond.fieldLink RX13 520 "TongueHouseModel" "hitAt" "[I",
  Cond.fieldLink RX13 523 "TongueHouseModel" "hitWord" "[I",
  Cond.fieldLink RX13 526 "TongueHouseModel" "hKind" "[I",
  Cond.fieldLink RX13 529 "TongueHouseModel" "hA" "[I",
  Cond.fieldLink RX13 532 "TongueHouseModel" "hB" "[I",
  Cond.fieldLink RX13 535 "TongueHouseModel" "hName" "[J",
  Cond.fieldLink RX13 538 "TongueHouseModel" "bound" "[I",
  Cond.fieldLink RX13 543 "TongueHouseModel" "W_AND" "J",
  Cond.fieldLink RX13 548 "TongueHouseModel" "W_OR" "J",
  Cond.fieldLink RX13 553 "TongueHouseModel" "W_IF" "J",
  Cond.fieldLink RX13 558 "TongueHouseModel" "W_NOT" "J",
  Cond.fieldLink RX13 563 "TongueHouseModel" "W_ALL" "J",
  Cond.fieldLink RX13 568 "TongueHouseModel" "W_SOME" "J",
  Cond.fieldLink RX13 573 "TongueHouseModel" "W_IS" "J",
  Cond.classLink RL 8 RX12,
  Cond.instantiable RX12 17,
  Cond.classLink RL 92 RX13,
  Cond.instantiable RX13 229,
  Cond.methodLink RL 94 yX13_init,
  Cond.instanceMethod yX13_init,
  Cond.code yX13_init cX13_init 2 none,
  Cond.codeWith yL_feed cL_feed 8 (some .int) [(0, 16, 19, 13)],
  Cond.methodLink RL 95 yL_feed,
  Cond.static yL_feed,
  Cond.initialized RL,
  Cond.code yX13_feed cX13_feed 6 (some .int),
  Cond.methodLink RL 100 yX13_feed,
  Cond.instanceMethod yX13_feed,
  Cond.selects RX13 yX13_feed yX13_feed,
  Cond.code yX13_thrown cX13_thrown 1 (some .int),
  Cond.methodLink RL 101 yX13_thrown,
  Cond.instanceMethod yX13_thrown,
  Cond.selects RX13 yX13_thrown yX13_thrown,
  Cond.codeWith yL_end cL_end 4 (some .int) [(0, 9, 12, 19)],
  Cond.methodLink RL 105 yL_end,
  Cond.static yL_end,
  Cond.code yX13_end cX13_end 2 (some .int),
  Cond.methodLink RL 108 yX13_end,
  Cond.instanceMethod yX13_end,
  Cond.selects RX13 yX13_end yX13_end,
  Cond.code yX12_module cX12_module 2 (some .int),
  Cond.methodLink RL 109 yX12_module,
  Cond.instanceMethod yX12_module,
  Cond.selects RX12 yX12_module yX12_module,
  Cond.code yX13_module cX13_module 2 (some .int),
  Cond.methodLink RL 112 yX13_module,
  Cond.instanceMethod yX13_module,
  Cond.selects RX13 yX13_module yX13_module,
  Cond.code yX12_rule cX12_rule 1 (some .int),
  Cond.methodLink RL 113 yX12_rule,
  Cond.instanceMethod yX12_rule,
  Cond.selects RX12 yX12_rule yX12_rule,
  Cond.code yX13_rule cX13_rule 1 (some .int),
  Cond.methodLink RL 116 yX13_rule,
  Cond.instanceMethod yX13_rule,
  Cond.selects RX13 yX13_rule yX13_rule,
  Cond.code yX12_out cX12_out 2 (some .int),
  Cond.methodLink RL 117 yX12_out,
  Cond.instanceMethod yX12_out,
  Cond.selects RX12 yX12_out yX12_out,
  Cond.code yX13_out cX13_out 2 (some .int),
  Cond.methodLink RL 120 yX13_out,
  Cond.instanceMethod yX13_out,
  Cond.selects RX13 yX13_out yX13_out,
  Cond.codeWith yL_number cL_number 5 (some .int) [(0, 10, 13, 19)],
  Cond.methodLink RL 121 yL_number,
  Cond.static yL_number,
  Cond.code yX13_number cX13_number 5 (some .int),
  Cond.methodLink RL 124 yX13_number,
  Cond.instanceMethod yX13_number,
  Cond.selects RX13 yX13_number yX13_number,
  Cond.codeWith yL_sounds cL_sounds 4 (some .int) [(0, 9, 12, 19)],
  Cond.methodLink RL 125 yL_sounds,
  Cond.static yL_sounds,
  Cond.code yX13_sounds cX13_sounds 3 (some .int),
  Cond.methodLink RL 127 yX13_sounds,
  Cond.instanceMethod yX13_sounds,
  Cond.selects RX13 yX13_sounds yX13_sounds,
  Cond.codeWith yL_analyse cL_analyse 4 (some .int) [(0, 9, 12, 19)],
  Cond.methodLink RL 128 yL_analyse,
  Cond.static yL_analyse,
  Cond.code yX13_analyse cX13_analyse 5 (some .int),
  Cond.methodLink RL 130 yX13_analyse,
  Cond.instanceMethod yX13_analyse,
  Cond.selects RX13 yX13_analyse yX13_analyse,
  Cond.codeWith yL_analysis cL_analysis 5 (some .int) [(0, 10, 13, 19)],
  Cond.methodLink RL 131 yL_analysis,
  Cond.static yL_analysis,
  Cond.code yX13_analysis cX13_analysis 6 (some .int),
  Cond.methodLink RL 133 yX13_analysis,
  Cond.instanceMethod yX13_analysis,
  Cond.selects RX13 yX13_analysis yX13_analysis,
  Cond.codeWith yL_cell cL_cell 6 (some .int) [(0, 12, 15, 19)],
  Cond.methodLink RL 134 yL_cell,
  Cond.static yL_cell,
  Cond.code yX13_cell cX13_cell 5 (some .int),
  Cond.methodLink RL 137 yX13_cell,
  Cond.instanceMethod yX13_cell,
  Cond.selects RX13 yX13_cell yX13_cell,
  Cond.codeWith yL_guess cL_guess 4 (some .int) [(0, 9, 12, 19)],
  Cond.methodLink RL 138 yL_guess,
  Cond.static yL_guess,
  Cond.code yX13_guess cX13_guess 8 (some .int),
  Cond.methodLink RL 140 yX13_guess,
  Cond.instanceMethod yX13_guess,
  Cond.selects RX13 yX13_guess yX13_guess,
  Cond.codeWith yL_guessed cL_guessed 5 (some .int) [(0, 10, 13, 19)],
  Cond.methodLink RL 141 yL_guessed,
  Cond.static yL_guessed,
  Cond.code yX13_guessed cX13_guessed 3 (some .int),
  Cond.methodLink RL 143 yX13_guessed,
  Cond.instanceMethod yX13_guessed,
  Cond.selects RX13 yX13_guessed yX13_guessed,
  Cond.codeWith yL_parse cL_parse 5 (some .int) [(0, 10, 13, 19)],
  Cond.methodLink RL 144 yL_parse,
  Cond.static yL_parse,
  Cond.code yX13_parse cX13_parse 3 (some .int),
  Cond.methodLink RL 146 yX13_parse,
  Cond.instanceMethod yX13_parse,
  Cond.selects RX13 yX13_parse yX13_parse,
  Cond.code yX12_trees cX12_trees 1 (some .long),
  Cond.methodLink RL 147 yX12_trees,
  Cond.instanceMethod yX12_trees,
  Cond.selects RX12 yX12_trees yX12_trees,
  Cond.code yX13_trees cX13_trees 1 (some .long),
  Cond.methodLink RL 151 yX13_trees,
  Cond.instanceMethod yX13_trees,
  Cond.selects RX13 yX13_trees yX13_trees,
  Cond.codeWith yL_bar cL_bar 5 (some .int) [(0, 9, 12, 19)],
  Cond.methodLink RL 152 yL_bar,
  Cond.static yL_bar,
  Cond.code yX13_bar cX13_bar 3 (some .long),
  Cond.methodLink RL 155 yX13_bar,
  Cond.instanceMethod yX13_bar,
  Cond.selects RX13 yX13_bar yX13_bar,
  Cond.code yX12_price cX12_price 2 (some .int),
  Cond.methodLink RL 156 yX12_price,
  Cond.instanceMethod yX12_price,
  Cond.selects RX12 yX12_price yX12_price,
  Cond.code yX13_price cX13_price 2 (some .int),
  Cond.methodLink RL 159 yX13_price,
  Cond.instanceMethod yX13_price,
  Cond.selects RX13 yX13_price yX13_price,
  Cond.codeWith yL_reading cL_reading 5 (some .int) [(0, 10, 13, 19)],
  Cond.methodLink RL 160 yL_reading,
  Cond.static yL_reading,
  Cond.code yX13_reading cX13_reading 4 (some .int),
  Cond.methodLink RL 162 yX13_reading,
  Cond.instanceMethod yX13_reading,
  Cond.selects RX13 yX13_reading yX13_reading,
  Cond.codeWith yL_tree cL_tree 4 (some .int) [(0, 9, 12, 19)],
  Cond.methodLink RL 163 yL_tree,
  Cond.static yL_tree,
  Cond.code yX13_tree cX13_tree 3 (some .int),
  Cond.methodLink RL 165 yX13_tree,
  Cond.instanceMethod yX13_tree,
  Cond.selects RX13 yX13_tree yX13_tree,
  Cond.codeWith yL_show cL_show 4 (some .int) [(0, 9, 12, 19)],
  Cond.methodLink RL 166 yL_show,
  Cond.static yL_show,
  Cond.code yX13_show cX13_show 2 (some .int),
  Cond.methodLink RL 168 yX13_show,
  Cond.instanceMethod yX13_show,
  Cond.selects RX13 yX13_show yX13_show,
  Cond.codeWith yL_same cL_same 5 (some .int) [(0, 17, 20, 19)],
  Cond.methodLink RL 169 yL_same,
  Cond.static yL_same,
  Cond.code yX13_same cX13_same 4 (some .boolean),
  Cond.methodLink RL 171 yX13_same,
  Cond.instanceMethod yX13_same,
  Cond.selects RX13 yX13_same yX13_same,
  Cond.codeWith yL_say cL_say 6 (some .int) [(0, 12, 15, 19)],
  Cond.methodLink RL 172 yL_say,
  Cond.static yL_say,
  Cond.code yX13_say cX13_say 6 (some .int),
  Cond.methodLink RL 174 yX13_say,
  Cond.instanceMethod yX13_say,
  Cond.selects RX13 yX13_say yX13_say,
  Cond.codeWith yL_mean cL_mean 4 (some .int) [(0, 9, 12, 19)],
  Cond.methodLink RL 175 yL_mean,
  Cond.static yL_mean,
  Cond.code yX13_mean_ cX13_mean_ 3 (some .int),
  Cond.methodLink RL 177 yX13_mean_,
  Cond.instanceMethod yX13_mean_,
  Cond.selects RX13 yX13_mean_ yX13_mean_,
  Cond.codeWith yL_truth cL_truth 4 (some .int) [(0, 9, 12, 19)],
  Cond.methodLink RL 178 yL_truth,
  Cond.static yL_truth,
  Cond.code yX13_truth cX13_truth 3 (some .int),
  Cond.methodLink RL 180 yX13_truth,
  Cond.instanceMethod yX13_truth,
  Cond.selects RX13 yX13_truth yX13_truth,
  Cond.codeWith yL_swap cL_swap 6 (some .int) [(0, 12, 15, 19)],
  Cond.methodLink RL 181 yL_swap,
  Cond.static yL_swap,
  Cond.code yX13_swap cX13_swap 9 (some .int),
  Cond.methodLink RL 183 yX13_swap,
  Cond.instanceMethod yX13_swap,
  Cond.selects RX13 yX13_swap yX13_swap,
  Cond.code yX12_candidate cX12_candidate 2 (some .int),
  Cond.methodLink RL 184 yX12_candidate,
  Cond.instanceMethod yX12_candidate,
  Cond.selects RX12 yX12_candidate yX12_candidate,
  Cond.code yX13_candidate cX13_candidate 3 (some .int),
  Cond.methodLink RL 187 yX13_candidate,
  Cond.instanceMethod yX13_candidate,
  Cond.selects RX13 yX13_candidate yX13_candidate,
  Cond.codeWith yL_add cL_add 4 (some .int) [(0, 9, 12, 19), (0, 9, 15, 13)],
  Cond.methodLink RL 188 yL_add,
  Cond.static yL_add,
  Cond.code yX13_add cX13_add 4 (some .int),
  Cond.methodLink RL 190 yX13_add,
  Cond.instanceMethod yX13_add,
  Cond.selects RX13 yX13_add yX13_add,
  Cond.codeWith yL_ask cL_ask 4 (some .int) [(0, 9, 12, 19)],
  Cond.methodLink RL 191 yL_ask,
  Cond.static yL_ask,
  Cond.code yX13_ask cX13_ask 7 (some .int),
  Cond.methodLink RL 193 yX13_ask,
  Cond.instanceMethod yX13_ask,
  Cond.selects RX13 yX13_ask yX13_ask,
  Cond.codeWith yL_hit cL_hit 5 (some .int) [(0, 10, 13, 19)],
  Cond.methodLink RL 194 yL_hit,
  Cond.static yL_hit,
  Cond.code yX13_hit cX13_hit 3 (some .int),
  Cond.methodLink RL 196 yX13_hit,
  Cond.instanceMethod yX13_hit,
  Cond.selects RX13 yX13_hit yX13_hit,
  Cond.codeWith yL_mend cL_mend 5 (some .int) [(0, 10, 13, 19)],
  Cond.methodLink RL 197 yL_mend,
  Cond.static yL_mend,
  Cond.code yX13_mend cX13_mend 4 (some .int),
  Cond.methodLink RL 199 yX13_mend,
  Cond.instanceMethod yX13_mend,
  Cond.selects RX13 yX13_mend yX13_mend,
  Cond.codeWith yL_count cL_count 5 (some .int) [(0, 10, 13, 19)],
  Cond.methodLink RL 200 yL_count,
  Cond.static yL_count,
  Cond.code yX13_count cX13_count 3 (some .int),
  Cond.methodLink RL 202 yX13_count,
  Cond.instanceMethod yX13_count,
  Cond.selects RX13 yX13_count yX13_count]
theorem pp_w0_good : pp_w0.all goodWord = true := by decide +kernel
def pp_ws : List Cond := pp_w0 ++ (px_atI.filter goodWord ++ (u_ws RX0 TX0 22 ++ (u_ws RX1 TX1 19 ++ (u_ws RX4 TX4 2 ++ (u_ws RX5 TX5 19 ++ (u_ws RX6 TX6 19 ++ (u_ws RX8 TX8 21 ++ (u_ws RX9 TX9 10 ++ (u_ws RX12 TX12 17 ++ (u_ws RX13 TX13 229))))))))))
set_option maxRecDepth 100000 in
theorem pp0 : Cond.fieldLink RX12 19 "TongueHouse" "tape" "LTongueHouse$Text;" ∈ pp_ws := List.mem_append_left _ (List.mem_of_getElem? (i := 0) rfl)
set_option maxRecDepth 100000 in
theorem pp1 : Cond.fieldLink RX12 100 "TongueHouse$Text" "size" "I" ∈ pp_ws := List.mem_append_left _ (List.mem_of_getElem? (i := 1) rfl)
set_option maxRecDepth 100000 in
theorem pp2 : Cond.fieldLink RX9 22 "TongueHouse$Text" "size" "I" ∈ pp_ws := List.mem_append_left _ (List.mem_of_getElem? (i := 2) rfl)
set_option maxRecDepth 100000 in
theorem pp3 : Cond.fieldLink RX9 11 "TongueHouse$Text" "bytes" "[B" ∈ pp_ws := List.mem_append_left _ (List.mem_of_getElem? (i := 3) rfl)
set_option maxRecDepth 100000 in
theorem pp4 : Cond.methodLink RX9 26 yX9_put ∈ pp_ws := List.mem_append_left _ (List.mem_of_getElem? (i := 4) rfl)
set_option maxRecDepth 100000 in
theorem pp5 : Cond.code yX9_put cX9_put 2 none ∈ pp_ws := List.mem_append_left _ (List.mem_of_getElem? (i := 5) rfl)
set_option maxRecDepth 100000 in
theorem pp6 : Cond.instanceMethod yX9_put ∈ pp_ws := List.mem_append_left _ (List.mem_of_getElem? (i := 6) rfl)
set_option maxRecDepth 100000 in
theorem pp7 : Cond.selects RX9 yX9_put yX9_put ∈ pp_ws := List.mem_append_left _ (List.mem_of_getElem? (i := 7) rfl)
set_option maxRecDepth 100000 in
theorem pp8 : Cond.initialized RX9 ∈ pp_ws := List.mem_append_left _ (List.mem_of_getElem? (i := 8) rfl)
set_option maxRecDepth 100000 in
theorem pp9 : Cond.methodLink RX12 111 yX9_putFour ∈ pp_ws := List.mem_append_left _ (List.mem_of_getElem? (i := 9) rfl)
set_option maxRecDepth 100000 in
theorem pp10 : Cond.code yX9_putFour cX9_putFour 2 none ∈ pp_ws := List.mem_append_left _ (List.mem_of_getElem? (i := 10) rfl)
set_option maxRecDepth 100000 in
theorem pp11 : Cond.instanceMethod yX9_putFour ∈ pp_ws := List.mem_append_left _ (List.mem_of_getElem? (i := 11) rfl)
set_option maxRecDepth 100000 in
theorem pp12 : Cond.selects RX9 yX9_putFour yX9_putFour ∈ pp_ws := List.mem_append_left _ (List.mem_of_getElem? (i := 12) rfl)
set_option maxRecDepth 100000 in
theorem pp13 : Cond.fieldLink RX13 3 "TongueHouseModel" "thrown" "I" ∈ pp_ws := List.mem_append_left _ (List.mem_of_getElem? (i := 13) rfl)
set_option maxRecDepth 100000 in
theorem pp14 : Cond.fieldLink RX13 576 "TongueHouseModel" "taped" "I" ∈ pp_ws := List.mem_append_left _ (List.mem_of_getElem? (i := 14) rfl)
set_option maxRecDepth 100000 in
theorem pp15 : Cond.fieldLink RX13 188 "TongueHouseModel" "tape" "[B" ∈ pp_ws := List.mem_append_left _ (List.mem_of_getElem? (i := 15) rfl)
set_option maxRecDepth 100000 in
theorem pp16 : Cond.methodLink RX13 583 yX13_four ∈ pp_ws := List.mem_append_left _ (List.mem_of_getElem? (i := 16) rfl)
set_option maxRecDepth 100000 in
theorem pp17 : Cond.code yX13_four cX13_four 3 none ∈ pp_ws := List.mem_append_left _ (List.mem_of_getElem? (i := 17) rfl)
set_option maxRecDepth 100000 in
theorem pp18 : Cond.instanceMethod yX13_four ∈ pp_ws := List.mem_append_left _ (List.mem_of_getElem? (i := 18) rfl)
set_option maxRecDepth 100000 in
theorem pp19 : Cond.selects RX13 yX13_four yX13_four ∈ pp_ws := List.mem_append_left _ (List.mem_of_getElem? (i := 19) rfl)
set_option maxRecDepth 100000 in
theorem pp20 : Cond.initialized RX13 ∈ pp_ws := List.mem_append_left _ (List.mem_of_getElem? (i := 20) rfl)
set_option maxRecDepth 100000 in
theorem pp21 : Cond.classLink RX12 115 "java/lang/IllegalArgumentException" ∈ pp_ws := List.mem_append_left _ (List.mem_of_getElem? (i := 21) rfl)
set_option maxRecDepth 100000 in
theorem pp22 : Cond.initialized "java/lang/IllegalArgumentException" ∈ pp_ws := List.mem_append_left _ (List.mem_of_getElem? (i := 22) rfl)
set_option maxRecDepth 100000 in
theorem pp23 : Cond.methodLink RX13 579 yX13_bad ∈ pp_ws := List.mem_append_left _ (List.mem_of_getElem? (i := 23) rfl)
set_option maxRecDepth 100000 in
theorem pp24 : Cond.code yX13_bad cX13_bad 1 (some .int) ∈ pp_ws := List.mem_append_left _ (List.mem_of_getElem? (i := 24) rfl)
set_option maxRecDepth 100000 in
theorem pp25 : Cond.instanceMethod yX13_bad ∈ pp_ws := List.mem_append_left _ (List.mem_of_getElem? (i := 25) rfl)
set_option maxRecDepth 100000 in
theorem pp26 : Cond.selects RX13 yX13_bad yX13_bad ∈ pp_ws := List.mem_append_left _ (List.mem_of_getElem? (i := 26) rfl)
set_option maxRecDepth 100000 in
theorem pp27 : Cond.fieldLink RX12 37 "TongueHouse" "reader" "LTongueHouse$Reader;" ∈ pp_ws := List.mem_append_left _ (List.mem_of_getElem? (i := 27) rfl)
set_option maxRecDepth 100000 in
theorem pp28 : Cond.fieldLink RX6 47 "TongueHouse$Reader" "rule" "I" ∈ pp_ws := List.mem_append_left _ (List.mem_of_getElem? (i := 28) rfl)
set_option maxRecDepth 100000 in
theorem pp29 : Cond.fieldLink RX6 39 "TongueHouse$Reader" "store" "LTongueHouse$Store;" ∈ pp_ws := List.mem_append_left _ (List.mem_of_getElem? (i := 29) rfl)
set_option maxRecDepth 100000 in
theorem pp30 : Cond.fieldLink RX8 78 "TongueHouse$Store" "isFull" "Z" ∈ pp_ws := List.mem_append_left _ (List.mem_of_getElem? (i := 30) rfl)
set_option maxRecDepth 100000 in
theorem pp31 : Cond.fieldLink RX8 72 "TongueHouse$Store" "marks" "[I" ∈ pp_ws := List.mem_append_left _ (List.mem_of_getElem? (i := 31) rfl)
set_option maxRecDepth 100000 in
theorem pp32 : Cond.fieldLink RX8 18 "TongueHouse$Store" "kinds" "LTongueHouse$Names;" ∈ pp_ws := List.mem_append_left _ (List.mem_of_getElem? (i := 32) rfl)
set_option maxRecDepth 100000 in
theorem pp33 : Cond.fieldLink RX8 82 "TongueHouse$Names" "size" "I" ∈ pp_ws := List.mem_append_left _ (List.mem_of_getElem? (i := 33) rfl)
set_option maxRecDepth 100000 in
theorem pp34 : Cond.fieldLink RX8 22 "TongueHouse$Store" "funs" "LTongueHouse$Names;" ∈ pp_ws := List.mem_append_left _ (List.mem_of_getElem? (i := 34) rfl)
set_option maxRecDepth 100000 in
theorem pp35 : Cond.fieldLink RX8 25 "TongueHouse$Store" "things" "LTongueHouse$Names;" ∈ pp_ws := List.mem_append_left _ (List.mem_of_getElem? (i := 35) rfl)
set_option maxRecDepth 100000 in
theorem pp36 : Cond.fieldLink RX8 28 "TongueHouse$Store" "tongueNames" "LTongueHouse$Names;" ∈ pp_ws := List.mem_append_left _ (List.mem_of_getElem? (i := 36) rfl)
set_option maxRecDepth 100000 in
theorem pp37 : Cond.fieldLink RX8 85 "TongueHouse$Store" "factCount" "I" ∈ pp_ws := List.mem_append_left _ (List.mem_of_getElem? (i := 37) rfl)
set_option maxRecDepth 100000 in
theorem pp38 : Cond.fieldLink RX8 88 "TongueHouse$Store" "poolSize" "I" ∈ pp_ws := List.mem_append_left _ (List.mem_of_getElem? (i := 38) rfl)
set_option maxRecDepth 100000 in
theorem pp39 : Cond.fieldLink RX8 35 "TongueHouse$Store" "current" "I" ∈ pp_ws := List.mem_append_left _ (List.mem_of_getElem? (i := 39) rfl)
set_option maxRecDepth 100000 in
theorem pp40 : Cond.fieldLink RX8 52 "TongueHouse$Store" "meanSize" "[I" ∈ pp_ws := List.mem_append_left _ (List.mem_of_getElem? (i := 40) rfl)
set_option maxRecDepth 100000 in
theorem pp41 : Cond.methodLink RX8 95 arraycopyName ∈ pp_ws := List.mem_append_left _ (List.mem_of_getElem? (i := 41) rfl)
set_option maxRecDepth 100000 in
theorem pp42 : Cond.native arraycopyName ∈ pp_ws := List.mem_append_left _ (List.mem_of_getElem? (i := 42) rfl)
set_option maxRecDepth 100000 in
theorem pp43 : Cond.static arraycopyName ∈ pp_ws := List.mem_append_left _ (List.mem_of_getElem? (i := 43) rfl)
set_option maxRecDepth 100000 in
theorem pp44 : Cond.initialized "java/lang/System" ∈ pp_ws := List.mem_append_left _ (List.mem_of_getElem? (i := 44) rfl)
set_option maxRecDepth 100000 in
theorem pp45 : Cond.methodLink RX6 51 yX8_mark ∈ pp_ws := List.mem_append_left _ (List.mem_of_getElem? (i := 45) rfl)
set_option maxRecDepth 100000 in
theorem pp46 : Cond.code yX8_mark cX8_mark 2 none ∈ pp_ws := List.mem_append_left _ (List.mem_of_getElem? (i := 46) rfl)
set_option maxRecDepth 100000 in
theorem pp47 : Cond.instanceMethod yX8_mark ∈ pp_ws := List.mem_append_left _ (List.mem_of_getElem? (i := 47) rfl)
set_option maxRecDepth 100000 in
theorem pp48 : Cond.selects RX8 yX8_mark yX8_mark ∈ pp_ws := List.mem_append_left _ (List.mem_of_getElem? (i := 48) rfl)
set_option maxRecDepth 100000 in
theorem pp49 : Cond.initialized RX8 ∈ pp_ws := List.mem_append_left _ (List.mem_of_getElem? (i := 49) rfl)
set_option maxRecDepth 100000 in
theorem pp50 : Cond.fieldLink RX6 43 "TongueHouse$Reader" "tape" "LTongueHouse$Text;" ∈ pp_ws := List.mem_append_left _ (List.mem_of_getElem? (i := 50) rfl)
set_option maxRecDepth 100000 in
theorem pp51 : Cond.fieldLink RX9 49 "TongueHouse$Text" "next" "I" ∈ pp_ws := List.mem_append_left _ (List.mem_of_getElem? (i := 51) rfl)
set_option maxRecDepth 100000 in
theorem pp52 : Cond.fieldLink RX9 55 "TongueHouse$Text" "at" "I" ∈ pp_ws := List.mem_append_left _ (List.mem_of_getElem? (i := 52) rfl)
set_option maxRecDepth 100000 in
theorem pp53 : Cond.fieldLink RX9 58 "TongueHouse$Text" "type" "I" ∈ pp_ws := List.mem_append_left _ (List.mem_of_getElem? (i := 53) rfl)
set_option maxRecDepth 100000 in
theorem pp54 : Cond.methodLink RX9 52 yX9_advance ∈ pp_ws := List.mem_append_left _ (List.mem_of_getElem? (i := 54) rfl)
set_option maxRecDepth 100000 in
theorem pp55 : Cond.code yX9_advance cX9_advance 3 none ∈ pp_ws := List.mem_append_left _ (List.mem_of_getElem? (i := 55) rfl)
set_option maxRecDepth 100000 in
theorem pp56 : Cond.instanceMethod yX9_advance ∈ pp_ws := List.mem_append_left _ (List.mem_of_getElem? (i := 56) rfl)
set_option maxRecDepth 100000 in
theorem pp57 : Cond.selects RX9 yX9_advance yX9_advance ∈ pp_ws := List.mem_append_left _ (List.mem_of_getElem? (i := 57) rfl)
set_option maxRecDepth 100000 in
theorem pp58 : Cond.methodLink RX6 56 yX9_rewind ∈ pp_ws := List.mem_append_left _ (List.mem_of_getElem? (i := 58) rfl)
set_option maxRecDepth 100000 in
theorem pp59 : Cond.code yX9_rewind cX9_rewind 1 none ∈ pp_ws := List.mem_append_left _ (List.mem_of_getElem? (i := 59) rfl)
set_option maxRecDepth 100000 in
theorem pp60 : Cond.instanceMethod yX9_rewind ∈ pp_ws := List.mem_append_left _ (List.mem_of_getElem? (i := 60) rfl)
set_option maxRecDepth 100000 in
theorem pp61 : Cond.selects RX9 yX9_rewind yX9_rewind ∈ pp_ws := List.mem_append_left _ (List.mem_of_getElem? (i := 61) rfl)
set_option maxRecDepth 100000 in
theorem pp62 : Cond.methodLink RX12 120 yX6_begin ∈ pp_ws := List.mem_append_left _ (List.mem_of_getElem? (i := 62) rfl)
set_option maxRecDepth 100000 in
theorem pp63 : Cond.code yX6_begin cX6_begin 1 none ∈ pp_ws := List.mem_append_left _ (List.mem_of_getElem? (i := 63) rfl)
set_option maxRecDepth 100000 in
theorem pp64 : Cond.instanceMethod yX6_begin ∈ pp_ws := List.mem_append_left _ (List.mem_of_getElem? (i := 64) rfl)
set_option maxRecDepth 100000 in
theorem pp65 : Cond.selects RX6 yX6_begin yX6_begin ∈ pp_ws := List.mem_append_left _ (List.mem_of_getElem? (i := 65) rfl)
set_option maxRecDepth 100000 in
theorem pp66 : Cond.initialized RX6 ∈ pp_ws := List.mem_append_left _ (List.mem_of_getElem? (i := 66) rfl)
set_option maxRecDepth 100000 in
theorem pp67 : Cond.fieldLink RX12 123 "TongueHouse$Text" "type" "I" ∈ pp_ws := List.mem_append_left _ (List.mem_of_getElem? (i := 67) rfl)
set_option maxRecDepth 100000 in
theorem pp68 : Cond.fieldLink RX13 586 "TongueHouseModel" "textN" "I" ∈ pp_ws := List.mem_append_left _ (List.mem_of_getElem? (i := 68) rfl)
set_option maxRecDepth 100000 in
theorem pp69 : Cond.methodLink RX13 682 yX13_reads ∈ pp_ws := List.mem_append_left _ (List.mem_of_getElem? (i := 69) rfl)
set_option maxRecDepth 100000 in
theorem pp70 : Cond.code yX13_reads cX13_reads 2 none ∈ pp_ws := List.mem_append_left _ (List.mem_of_getElem? (i := 70) rfl)
set_option maxRecDepth 100000 in
theorem pp71 : Cond.instanceMethod yX13_reads ∈ pp_ws := List.mem_append_left _ (List.mem_of_getElem? (i := 71) rfl)
set_option maxRecDepth 100000 in
theorem pp72 : Cond.selects RX13 yX13_reads yX13_reads ∈ pp_ws := List.mem_append_left _ (List.mem_of_getElem? (i := 72) rfl)
set_option maxRecDepth 100000 in
theorem pp73 : Cond.fieldLink RX13 286 "TongueHouseModel" "had" "[I" ∈ pp_ws := List.mem_append_left _ (List.mem_of_getElem? (i := 73) rfl)
set_option maxRecDepth 100000 in
theorem pp74 : Cond.fieldLink RX13 658 "TongueHouseModel" "tongues" "I" ∈ pp_ws := List.mem_append_left _ (List.mem_of_getElem? (i := 74) rfl)
set_option maxRecDepth 100000 in
theorem pp75 : Cond.fieldLink RX13 661 "TongueHouseModel" "kinds" "I" ∈ pp_ws := List.mem_append_left _ (List.mem_of_getElem? (i := 75) rfl)
set_option maxRecDepth 100000 in
theorem pp76 : Cond.fieldLink RX13 664 "TongueHouseModel" "funs" "I" ∈ pp_ws := List.mem_append_left _ (List.mem_of_getElem? (i := 76) rfl)
set_option maxRecDepth 100000 in
theorem pp77 : Cond.fieldLink RX13 667 "TongueHouseModel" "things" "I" ∈ pp_ws := List.mem_append_left _ (List.mem_of_getElem? (i := 77) rfl)
set_option maxRecDepth 100000 in
theorem pp78 : Cond.fieldLink RX13 670 "TongueHouseModel" "facts" "I" ∈ pp_ws := List.mem_append_left _ (List.mem_of_getElem? (i := 78) rfl)
set_option maxRecDepth 100000 in
theorem pp79 : Cond.fieldLink RX13 15 "TongueHouseModel" "current" "I" ∈ pp_ws := List.mem_append_left _ (List.mem_of_getElem? (i := 79) rfl)
set_option maxRecDepth 100000 in
theorem pp80 : Cond.fieldLink RX13 673 "TongueHouseModel" "parts" "I" ∈ pp_ws := List.mem_append_left _ (List.mem_of_getElem? (i := 80) rfl)
set_option maxRecDepth 100000 in
theorem pp81 : Cond.fieldLink RX13 637 "TongueHouseModel" "letters" "I" ∈ pp_ws := List.mem_append_left _ (List.mem_of_getElem? (i := 81) rfl)
set_option maxRecDepth 100000 in
theorem pp82 : Cond.fieldLink RX13 676 "TongueHouseModel" "terms" "I" ∈ pp_ws := List.mem_append_left _ (List.mem_of_getElem? (i := 82) rfl)
set_option maxRecDepth 100000 in
theorem pp83 : Cond.fieldLink RX13 56 "TongueHouseModel" "features" "[I" ∈ pp_ws := List.mem_append_left _ (List.mem_of_getElem? (i := 83) rfl)
set_option maxRecDepth 100000 in
theorem pp84 : Cond.fieldLink RX13 59 "TongueHouseModel" "values" "[I" ∈ pp_ws := List.mem_append_left _ (List.mem_of_getElem? (i := 84) rfl)
set_option maxRecDepth 100000 in
theorem pp85 : Cond.fieldLink RX13 62 "TongueHouseModel" "classes" "[I" ∈ pp_ws := List.mem_append_left _ (List.mem_of_getElem? (i := 85) rfl)
set_option maxRecDepth 100000 in
theorem pp86 : Cond.fieldLink RX13 65 "TongueHouseModel" "sounds" "[I" ∈ pp_ws := List.mem_append_left _ (List.mem_of_getElem? (i := 86) rfl)
set_option maxRecDepth 100000 in
theorem pp87 : Cond.fieldLink RX13 68 "TongueHouseModel" "patterns" "[I" ∈ pp_ws := List.mem_append_left _ (List.mem_of_getElem? (i := 87) rfl)
set_option maxRecDepth 100000 in
theorem pp88 : Cond.fieldLink RX13 71 "TongueHouseModel" "words" "[I" ∈ pp_ws := List.mem_append_left _ (List.mem_of_getElem? (i := 88) rfl)
set_option maxRecDepth 100000 in
theorem pp89 : Cond.fieldLink RX13 74 "TongueHouseModel" "lins" "[I" ∈ pp_ws := List.mem_append_left _ (List.mem_of_getElem? (i := 89) rfl)
set_option maxRecDepth 100000 in
theorem pp90 : Cond.fieldLink RX13 679 "TongueHouseModel" "meants" "I" ∈ pp_ws := List.mem_append_left _ (List.mem_of_getElem? (i := 90) rfl)
set_option maxRecDepth 100000 in
theorem pp91 : Cond.methodLink RX13 685 yX13_remember ∈ pp_ws := List.mem_append_left _ (List.mem_of_getElem? (i := 91) rfl)
set_option maxRecDepth 100000 in
theorem pp92 : Cond.code yX13_remember cX13_remember 3 none ∈ pp_ws := List.mem_append_left _ (List.mem_of_getElem? (i := 92) rfl)
set_option maxRecDepth 100000 in
theorem pp93 : Cond.instanceMethod yX13_remember ∈ pp_ws := List.mem_append_left _ (List.mem_of_getElem? (i := 93) rfl)
set_option maxRecDepth 100000 in
theorem pp94 : Cond.selects RX13 yX13_remember yX13_remember ∈ pp_ws := List.mem_append_left _ (List.mem_of_getElem? (i := 94) rfl)
set_option maxRecDepth 100000 in
theorem pp95 : Cond.fieldLink RX13 597 "TongueHouseModel" "tkEnd" "I" ∈ pp_ws := List.mem_append_left _ (List.mem_of_getElem? (i := 95) rfl)
set_option maxRecDepth 100000 in
theorem pp96 : Cond.fieldLink RX13 639 "TongueHouseModel" "wrong" "I" ∈ pp_ws := List.mem_append_left _ (List.mem_of_getElem? (i := 96) rfl)
set_option maxRecDepth 100000 in
theorem pp97 : Cond.fieldLink RX13 600 "TongueHouseModel" "tkAt" "I" ∈ pp_ws := List.mem_append_left _ (List.mem_of_getElem? (i := 97) rfl)
set_option maxRecDepth 100000 in
theorem pp98 : Cond.fieldLink RX13 603 "TongueHouseModel" "tkNumber" "I" ∈ pp_ws := List.mem_append_left _ (List.mem_of_getElem? (i := 98) rfl)
set_option maxRecDepth 100000 in
theorem pp99 : Cond.fieldLink RX13 606 "TongueHouseModel" "tkName" "J" ∈ pp_ws := List.mem_append_left _ (List.mem_of_getElem? (i := 99) rfl)
set_option maxRecDepth 100000 in
theorem pp100 : Cond.fieldLink RX13 609 "TongueHouseModel" "tk" "I" ∈ pp_ws := List.mem_append_left _ (List.mem_of_getElem? (i := 100) rfl)
set_option maxRecDepth 100000 in
theorem pp101 : Cond.methodLink RX13 655 yX13_next ∈ pp_ws := List.mem_append_left _ (List.mem_of_getElem? (i := 101) rfl)
set_option maxRecDepth 100000 in
theorem pp102 : Cond.code yX13_next cX13_next 2 none ∈ pp_ws := List.mem_append_left _ (List.mem_of_getElem? (i := 102) rfl)
set_option maxRecDepth 100000 in
theorem pp103 : Cond.instanceMethod yX13_next ∈ pp_ws := List.mem_append_left _ (List.mem_of_getElem? (i := 103) rfl)
set_option maxRecDepth 100000 in
theorem pp104 : Cond.selects RX13 yX13_next yX13_next ∈ pp_ws := List.mem_append_left _ (List.mem_of_getElem? (i := 104) rfl)
set_option maxRecDepth 100000 in
theorem pp105 : Cond.fieldLink RX13 695 "TongueHouseModel" "lastRule" "I" ∈ pp_ws := List.mem_append_left _ (List.mem_of_getElem? (i := 105) rfl)
set_option maxRecDepth 100000 in
theorem pp106 : Cond.fieldLink RX13 698 "TongueHouseModel" "version" "I" ∈ pp_ws := List.mem_append_left _ (List.mem_of_getElem? (i := 106) rfl)
set_option maxRecDepth 100000 in
theorem pp107 : Cond.fieldLink RX12 136 "TongueHouse$Reader" "rule" "I" ∈ pp_ws := List.mem_append_left _ (List.mem_of_getElem? (i := 107) rfl)
set_option maxRecDepth 100000 in
theorem pp108 : Cond.fieldLink RX12 23 "TongueHouse" "out" "LTongueHouse$Text;" ∈ pp_ws := List.mem_append_left _ (List.mem_of_getElem? (i := 108) rfl)
set_option maxRecDepth 100000 in
theorem pp109 : Cond.fieldLink RX13 589 "TongueHouseModel" "outN" "I" ∈ pp_ws := List.mem_append_left _ (List.mem_of_getElem? (i := 109) rfl)
set_option maxRecDepth 100000 in
theorem pp110 : Cond.fieldLink RX12 12 "TongueHouse" "store" "LTongueHouse$Store;" ∈ pp_ws := List.mem_append_left _ (List.mem_of_getElem? (i := 110) rfl)
set_option maxRecDepth 100000 in
theorem pp111 : Cond.fieldLink RX12 145 "TongueHouse$Store" "kinds" "LTongueHouse$Names;" ∈ pp_ws := List.mem_append_left _ (List.mem_of_getElem? (i := 111) rfl)
set_option maxRecDepth 100000 in
theorem pp112 : Cond.methodLink RX9 80 yX9_rewind ∈ pp_ws := List.mem_append_left _ (List.mem_of_getElem? (i := 112) rfl)
set_option maxRecDepth 100000 in
theorem pp113 : Cond.methodLink RX12 165 yX9_onlyName ∈ pp_ws := List.mem_append_left _ (List.mem_of_getElem? (i := 113) rfl)
set_option maxRecDepth 100000 in
theorem pp114 : Cond.code yX9_onlyName cX9_onlyName 3 (some .long) ∈ pp_ws := List.mem_append_left _ (List.mem_of_getElem? (i := 114) rfl)
set_option maxRecDepth 100000 in
theorem pp115 : Cond.instanceMethod yX9_onlyName ∈ pp_ws := List.mem_append_left _ (List.mem_of_getElem? (i := 115) rfl)
set_option maxRecDepth 100000 in
theorem pp116 : Cond.selects RX9 yX9_onlyName yX9_onlyName ∈ pp_ws := List.mem_append_left _ (List.mem_of_getElem? (i := 116) rfl)
set_option maxRecDepth 100000 in
theorem pp117 : Cond.fieldLink RX12 149 "TongueHouse$Store" "tongueNames" "LTongueHouse$Names;" ∈ pp_ws := List.mem_append_left _ (List.mem_of_getElem? (i := 117) rfl)
set_option maxRecDepth 100000 in
theorem pp118 : Cond.fieldLink RX12 239 "TongueHouse$Names" "size" "I" ∈ pp_ws := List.mem_append_left _ (List.mem_of_getElem? (i := 118) rfl)
set_option maxRecDepth 100000 in
theorem pp119 : Cond.methodLink RX12 155 yX12_tongueAt ∈ pp_ws := List.mem_append_left _ (List.mem_of_getElem? (i := 119) rfl)
set_option maxRecDepth 100000 in
theorem pp120 : Cond.code yX12_tongueAt cX12_tongueAt 2 (some (.object "TongueHouse$Tongue")) ∈ pp_ws := List.mem_append_left _ (List.mem_of_getElem? (i := 120) rfl)
set_option maxRecDepth 100000 in
theorem pp121 : Cond.instanceMethod yX12_tongueAt ∈ pp_ws := List.mem_append_left _ (List.mem_of_getElem? (i := 121) rfl)
set_option maxRecDepth 100000 in
theorem pp122 : Cond.selects RX12 yX12_tongueAt yX12_tongueAt ∈ pp_ws := List.mem_append_left _ (List.mem_of_getElem? (i := 122) rfl)
set_option maxRecDepth 100000 in
theorem pp123 : Cond.initialized RX12 ∈ pp_ws := List.mem_append_left _ (List.mem_of_getElem? (i := 123) rfl)
set_option maxRecDepth 100000 in
theorem pp124 : Cond.fieldLink RX12 152 "TongueHouse$Store" "funs" "LTongueHouse$Names;" ∈ pp_ws := List.mem_append_left _ (List.mem_of_getElem? (i := 124) rfl)
set_option maxRecDepth 100000 in
theorem pp125 : Cond.fieldLink RX12 76 "TongueHouse" "finder" "LTongueHouse$Finder;" ∈ pp_ws := List.mem_append_left _ (List.mem_of_getElem? (i := 125) rfl)
set_option maxRecDepth 100000 in
theorem pp126 : Cond.fieldLink RX1 53 "TongueHouse$Finder" "analyses" "I" ∈ pp_ws := List.mem_append_left _ (List.mem_of_getElem? (i := 126) rfl)
set_option maxRecDepth 100000 in
theorem pp127 : Cond.methodLink RX12 203 yX1_tellAnalysis ∈ pp_ws := List.mem_append_left _ (List.mem_of_getElem? (i := 127) rfl)
set_option maxRecDepth 100000 in
theorem pp128 : Cond.code yX1_tellAnalysis cX1_tellAnalysis 6 (some .int) ∈ pp_ws := List.mem_append_left _ (List.mem_of_getElem? (i := 128) rfl)
set_option maxRecDepth 100000 in
theorem pp129 : Cond.instanceMethod yX1_tellAnalysis ∈ pp_ws := List.mem_append_left _ (List.mem_of_getElem? (i := 129) rfl)
set_option maxRecDepth 100000 in
theorem pp130 : Cond.selects RX1 yX1_tellAnalysis yX1_tellAnalysis ∈ pp_ws := List.mem_append_left _ (List.mem_of_getElem? (i := 130) rfl)
set_option maxRecDepth 100000 in
theorem pp131 : Cond.initialized RX1 ∈ pp_ws := List.mem_append_left _ (List.mem_of_getElem? (i := 131) rfl)
set_option maxRecDepth 100000 in
theorem pp132 : Cond.fieldLink RX13 854 "TongueHouseModel" "foundN" "I" ∈ pp_ws := List.mem_append_left _ (List.mem_of_getElem? (i := 132) rfl)
set_option maxRecDepth 100000 in
theorem pp133 : Cond.fieldLink RX1 113 "TongueHouse$Finder" "guesses" "I" ∈ pp_ws := List.mem_append_left _ (List.mem_of_getElem? (i := 133) rfl)
set_option maxRecDepth 100000 in
theorem pp134 : Cond.methodLink RX12 226 yX1_tellGuess ∈ pp_ws := List.mem_append_left _ (List.mem_of_getElem? (i := 134) rfl)
set_option maxRecDepth 100000 in
theorem pp135 : Cond.code yX1_tellGuess cX1_tellGuess 3 (some .int) ∈ pp_ws := List.mem_append_left _ (List.mem_of_getElem? (i := 135) rfl)
set_option maxRecDepth 100000 in
theorem pp136 : Cond.instanceMethod yX1_tellGuess ∈ pp_ws := List.mem_append_left _ (List.mem_of_getElem? (i := 136) rfl)
set_option maxRecDepth 100000 in
theorem pp137 : Cond.selects RX1 yX1_tellGuess yX1_tellGuess ∈ pp_ws := List.mem_append_left _ (List.mem_of_getElem? (i := 137) rfl)
set_option maxRecDepth 100000 in
theorem pp138 : Cond.fieldLink RX13 870 "TongueHouseModel" "guesses" "I" ∈ pp_ws := List.mem_append_left _ (List.mem_of_getElem? (i := 138) rfl)
set_option maxRecDepth 100000 in
theorem pp139 : Cond.fieldLink RX1 165 "TongueHouse$Finder" "hits" "I" ∈ pp_ws := List.mem_append_left _ (List.mem_of_getElem? (i := 139) rfl)
set_option maxRecDepth 100000 in
theorem pp140 : Cond.methodLink RX12 310 yX1_tellHit ∈ pp_ws := List.mem_append_left _ (List.mem_of_getElem? (i := 140) rfl)
set_option maxRecDepth 100000 in
theorem pp141 : Cond.code yX1_tellHit cX1_tellHit 3 (some .int) ∈ pp_ws := List.mem_append_left _ (List.mem_of_getElem? (i := 141) rfl)
set_option maxRecDepth 100000 in
theorem pp142 : Cond.instanceMethod yX1_tellHit ∈ pp_ws := List.mem_append_left _ (List.mem_of_getElem? (i := 142) rfl)
set_option maxRecDepth 100000 in
theorem pp143 : Cond.selects RX1 yX1_tellHit yX1_tellHit ∈ pp_ws := List.mem_append_left _ (List.mem_of_getElem? (i := 143) rfl)
set_option maxRecDepth 100000 in
theorem pp144 : Cond.fieldLink RX13 1052 "TongueHouseModel" "hits" "I" ∈ pp_ws := List.mem_append_left _ (List.mem_of_getElem? (i := 144) rfl)
set_option maxRecDepth 100000 in
theorem pp145 : Cond.fieldLink RX12 55 "TongueHouse" "ranking" "LTongueHouse$Ranking;" ∈ pp_ws := List.mem_append_left _ (List.mem_of_getElem? (i := 145) rfl)
set_option maxRecDepth 100000 in
theorem pp146 : Cond.fieldLink RX5 61 "TongueHouse$Ranking" "isOpen" "Z" ∈ pp_ws := List.mem_append_left _ (List.mem_of_getElem? (i := 146) rfl)
set_option maxRecDepth 100000 in
theorem pp147 : Cond.methodLink RX12 236 yX5_total ∈ pp_ws := List.mem_append_left _ (List.mem_of_getElem? (i := 147) rfl)
set_option maxRecDepth 100000 in
theorem pp148 : Cond.code yX5_total cX5_total 5 (some .long) ∈ pp_ws := List.mem_append_left _ (List.mem_of_getElem? (i := 148) rfl)
set_option maxRecDepth 100000 in
theorem pp149 : Cond.instanceMethod yX5_total ∈ pp_ws := List.mem_append_left _ (List.mem_of_getElem? (i := 149) rfl)
set_option maxRecDepth 100000 in
theorem pp150 : Cond.selects RX5 yX5_total yX5_total ∈ pp_ws := List.mem_append_left _ (List.mem_of_getElem? (i := 150) rfl)
set_option maxRecDepth 100000 in
theorem pp151 : Cond.initialized RX5 ∈ pp_ws := List.mem_append_left _ (List.mem_of_getElem? (i := 151) rfl)
set_option maxRecDepth 100000 in
theorem pp152 : Cond.fieldLink RX13 984 "TongueHouseModel" "all" "J" ∈ pp_ws := List.mem_append_left _ (List.mem_of_getElem? (i := 152) rfl)
set_option maxRecDepth 100000 in
theorem pp153 : Cond.methodLink RX5 146 yX5_rank ∈ pp_ws := List.mem_append_left _ (List.mem_of_getElem? (i := 153) rfl)
set_option maxRecDepth 100000 in
theorem pp154 : Cond.code yX5_rank cX5_rank 4 none ∈ pp_ws := List.mem_append_left _ (List.mem_of_getElem? (i := 154) rfl)
set_option maxRecDepth 100000 in
theorem pp155 : Cond.instanceMethod yX5_rank ∈ pp_ws := List.mem_append_left _ (List.mem_of_getElem? (i := 155) rfl)
set_option maxRecDepth 100000 in
theorem pp156 : Cond.selects RX5 yX5_rank yX5_rank ∈ pp_ws := List.mem_append_left _ (List.mem_of_getElem? (i := 156) rfl)
set_option maxRecDepth 100000 in
theorem pp157 : Cond.fieldLink RX5 68 "TongueHouse$Ranking" "topSize" "I" ∈ pp_ws := List.mem_append_left _ (List.mem_of_getElem? (i := 157) rfl)
set_option maxRecDepth 100000 in
theorem pp158 : Cond.methodLink RX12 246 yX5_priceOf ∈ pp_ws := List.mem_append_left _ (List.mem_of_getElem? (i := 158) rfl)
set_option maxRecDepth 100000 in
theorem pp159 : Cond.code yX5_priceOf cX5_priceOf 2 (some .int) ∈ pp_ws := List.mem_append_left _ (List.mem_of_getElem? (i := 159) rfl)
set_option maxRecDepth 100000 in
theorem pp160 : Cond.instanceMethod yX5_priceOf ∈ pp_ws := List.mem_append_left _ (List.mem_of_getElem? (i := 160) rfl)
set_option maxRecDepth 100000 in
theorem pp161 : Cond.selects RX5 yX5_priceOf yX5_priceOf ∈ pp_ws := List.mem_append_left _ (List.mem_of_getElem? (i := 161) rfl)
set_option maxRecDepth 100000 in
theorem pp162 : Cond.fieldLink RX13 977 "TongueHouseModel" "readings" "I" ∈ pp_ws := List.mem_append_left _ (List.mem_of_getElem? (i := 162) rfl)
set_option maxRecDepth 100000 in
theorem pp163 : Cond.fieldLink RX12 289 "TongueHouse" "candidateCount" "I" ∈ pp_ws := List.mem_append_left _ (List.mem_of_getElem? (i := 163) rfl)
set_option maxRecDepth 100000 in
theorem pp164 : Cond.fieldLink RX13 1046 "TongueHouseModel" "candidates" "I" ∈ pp_ws := List.mem_append_left _ (List.mem_of_getElem? (i := 164) rfl)
set_option maxRecDepth 100000 in
theorem pp165 : Cond.methodLink RX12 249 yX12_checkPlace ∈ pp_ws := List.mem_append_left _ (List.mem_of_getElem? (i := 165) rfl)
set_option maxRecDepth 100000 in
theorem pp166 : Cond.code yX12_checkPlace cX12_checkPlace 1 none ∈ pp_ws := List.mem_append_left _ (List.mem_of_getElem? (i := 166) rfl)
set_option maxRecDepth 100000 in
theorem pp167 : Cond.static yX12_checkPlace ∈ pp_ws := List.mem_append_left _ (List.mem_of_getElem? (i := 167) rfl)
set_option maxRecDepth 100000 in
theorem pp168 : Cond.fieldLink RX12 82 "TongueHouse" "planted" "[[I" ∈ pp_ws := List.mem_append_left _ (List.mem_of_getElem? (i := 168) rfl)
set_option maxRecDepth 100000 in
theorem pp169 : Cond.methodLink RX12 252 yX5_spell ∈ pp_ws := List.mem_append_left _ (List.mem_of_getElem? (i := 169) rfl)
set_option maxRecDepth 100000 in
theorem pp170 : Cond.code yX5_spell cX5_spell 11 (some .int) ∈ pp_ws := List.mem_append_left _ (List.mem_of_getElem? (i := 170) rfl)
set_option maxRecDepth 100000 in
theorem pp171 : Cond.instanceMethod yX5_spell ∈ pp_ws := List.mem_append_left _ (List.mem_of_getElem? (i := 171) rfl)
set_option maxRecDepth 100000 in
theorem pp172 : Cond.selects RX5 yX5_spell yX5_spell ∈ pp_ws := List.mem_append_left _ (List.mem_of_getElem? (i := 172) rfl)
set_option maxRecDepth 100000 in
theorem pp173 : Cond.methodLink RX13 1017 yX13_noPlace ∈ pp_ws := List.mem_append_left _ (List.mem_of_getElem? (i := 173) rfl)
set_option maxRecDepth 100000 in
theorem pp174 : Cond.code yX13_noPlace cX13_noPlace 2 (some .boolean) ∈ pp_ws := List.mem_append_left _ (List.mem_of_getElem? (i := 174) rfl)
set_option maxRecDepth 100000 in
theorem pp175 : Cond.instanceMethod yX13_noPlace ∈ pp_ws := List.mem_append_left _ (List.mem_of_getElem? (i := 175) rfl)
set_option maxRecDepth 100000 in
theorem pp176 : Cond.selects RX13 yX13_noPlace yX13_noPlace ∈ pp_ws := List.mem_append_left _ (List.mem_of_getElem? (i := 176) rfl)
set_option maxRecDepth 100000 in
theorem pp177 : Cond.fieldLink RX6 67 "TongueHouse$Text" "type" "I" ∈ pp_ws := List.mem_append_left _ (List.mem_of_getElem? (i := 177) rfl)
set_option maxRecDepth 100000 in
theorem pp178 : Cond.fieldLink RX6 61 "TongueHouse$Text" "at" "I" ∈ pp_ws := List.mem_append_left _ (List.mem_of_getElem? (i := 178) rfl)
set_option maxRecDepth 100000 in
theorem pp179 : Cond.methodLink RX12 262 yX6_readTree ∈ pp_ws := List.mem_append_left _ (List.mem_of_getElem? (i := 179) rfl)
set_option maxRecDepth 100000 in
theorem pp180 : Cond.code yX6_readTree cX6_readTree 5 (some .int) ∈ pp_ws := List.mem_append_left _ (List.mem_of_getElem? (i := 180) rfl)
set_option maxRecDepth 100000 in
theorem pp181 : Cond.instanceMethod yX6_readTree ∈ pp_ws := List.mem_append_left _ (List.mem_of_getElem? (i := 181) rfl)
set_option maxRecDepth 100000 in
theorem pp182 : Cond.selects RX6 yX6_readTree yX6_readTree ∈ pp_ws := List.mem_append_left _ (List.mem_of_getElem? (i := 182) rfl)
set_option maxRecDepth 100000 in
theorem pp183 : Cond.fieldLink RX13 1011 "TongueHouseModel" "treeN" "I" ∈ pp_ws := List.mem_append_left _ (List.mem_of_getElem? (i := 183) rfl)
set_option maxRecDepth 100000 in
theorem pp184 : Cond.methodLink RX13 1020 yX13_noTree ∈ pp_ws := List.mem_append_left _ (List.mem_of_getElem? (i := 184) rfl)
set_option maxRecDepth 100000 in
theorem pp185 : Cond.code yX13_noTree cX13_noTree 4 (some .boolean) ∈ pp_ws := List.mem_append_left _ (List.mem_of_getElem? (i := 185) rfl)
set_option maxRecDepth 100000 in
theorem pp186 : Cond.instanceMethod yX13_noTree ∈ pp_ws := List.mem_append_left _ (List.mem_of_getElem? (i := 186) rfl)
set_option maxRecDepth 100000 in
theorem pp187 : Cond.selects RX13 yX13_noTree yX13_noTree ∈ pp_ws := List.mem_append_left _ (List.mem_of_getElem? (i := 187) rfl)
set_option maxRecDepth 100000 in
theorem pp188 : Cond.fieldLink RX12 85 "TongueHouse" "plantedSize" "[I" ∈ pp_ws := List.mem_append_left _ (List.mem_of_getElem? (i := 188) rfl)
set_option maxRecDepth 100000 in
theorem pp189 : Cond.fieldLink RX13 467 "TongueHouseModel" "placeN" "[I" ∈ pp_ws := List.mem_append_left _ (List.mem_of_getElem? (i := 189) rfl)
set_option maxRecDepth 100000 in
theorem pp190 : Cond.methodLink RX13 1030 yX13_takes ∈ pp_ws := List.mem_append_left _ (List.mem_of_getElem? (i := 190) rfl)
set_option maxRecDepth 100000 in
theorem pp191 : Cond.code yX13_takes cX13_takes 3 (some .int) ∈ pp_ws := List.mem_append_left _ (List.mem_of_getElem? (i := 191) rfl)
set_option maxRecDepth 100000 in
theorem pp192 : Cond.instanceMethod yX13_takes ∈ pp_ws := List.mem_append_left _ (List.mem_of_getElem? (i := 192) rfl)
set_option maxRecDepth 100000 in
theorem pp193 : Cond.selects RX13 yX13_takes yX13_takes ∈ pp_ws := List.mem_append_left _ (List.mem_of_getElem? (i := 193) rfl)
set_option maxRecDepth 100000 in
theorem pp194 : Cond.methodLink RX12 278 yX12_meaningOf ∈ pp_ws := List.mem_append_left _ (List.mem_of_getElem? (i := 194) rfl)
set_option maxRecDepth 100000 in
theorem pp195 : Cond.code yX12_meaningOf cX12_meaningOf 2 (some .int) ∈ pp_ws := List.mem_append_left _ (List.mem_of_getElem? (i := 195) rfl)
set_option maxRecDepth 100000 in
theorem pp196 : Cond.instanceMethod yX12_meaningOf ∈ pp_ws := List.mem_append_left _ (List.mem_of_getElem? (i := 196) rfl)
set_option maxRecDepth 100000 in
theorem pp197 : Cond.selects RX12 yX12_meaningOf yX12_meaningOf ∈ pp_ws := List.mem_append_left _ (List.mem_of_getElem? (i := 197) rfl)
set_option maxRecDepth 100000 in
theorem pp198 : Cond.methodLink RX12 355 yX8_sizeOf ∈ pp_ws := List.mem_append_left _ (List.mem_of_getElem? (i := 198) rfl)
set_option maxRecDepth 100000 in
theorem pp199 : Cond.code yX8_sizeOf cX8_sizeOf 2 (some .int) ∈ pp_ws := List.mem_append_left _ (List.mem_of_getElem? (i := 199) rfl)
set_option maxRecDepth 100000 in
theorem pp200 : Cond.instanceMethod yX8_sizeOf ∈ pp_ws := List.mem_append_left _ (List.mem_of_getElem? (i := 200) rfl)
set_option maxRecDepth 100000 in
theorem pp201 : Cond.selects RX8 yX8_sizeOf yX8_sizeOf ∈ pp_ws := List.mem_append_left _ (List.mem_of_getElem? (i := 201) rfl)
set_option maxRecDepth 100000 in
theorem pp202 : Cond.fieldLink RX12 46 "TongueHouse" "chart" "LTongueHouse$Chart;" ∈ pp_ws := List.mem_append_left _ (List.mem_of_getElem? (i := 202) rfl)
set_option maxRecDepth 100000 in
theorem pp203 : Cond.fieldLink RX12 346 "TongueHouse$Chart" "nodes" "I" ∈ pp_ws := List.mem_append_left _ (List.mem_of_getElem? (i := 203) rfl)
set_option maxRecDepth 100000 in
theorem pp204 : Cond.fieldLink RX12 349 "TongueHouse$Chart" "ways" "I" ∈ pp_ws := List.mem_append_left _ (List.mem_of_getElem? (i := 204) rfl)
set_option maxRecDepth 100000 in
theorem pp205 : Cond.fieldLink RX12 352 "TongueHouse$Finder" "collected" "I" ∈ pp_ws := List.mem_append_left _ (List.mem_of_getElem? (i := 205) rfl)
set_option maxRecDepth 100000 in
theorem pp206 : Cond.fieldLink RX13 989 "TongueHouseModel" "noted" "I" ∈ pp_ws := List.mem_append_left _ (List.mem_of_getElem? (i := 206) rfl)
set_option maxRecDepth 100000 in
theorem pp207 : Cond.fieldLink RX13 992 "TongueHouseModel" "notedWays" "I" ∈ pp_ws := List.mem_append_left _ (List.mem_of_getElem? (i := 207) rfl)
set_option maxRecDepth 100000 in
theorem pp208 : Cond.fieldLink RX13 1049 "TongueHouseModel" "collected" "I" ∈ pp_ws := List.mem_append_left _ (List.mem_of_getElem? (i := 208) rfl)
set_option maxRecDepth 100000 in
theorem pp209 : Cond.methodLink RX13 845 yX13_noTongue ∈ pp_ws := List.mem_append_left _ (List.mem_of_getElem? (i := 209) rfl)
set_option maxRecDepth 100000 in
theorem pp210 : Cond.code yX13_noTongue cX13_noTongue 2 (some .boolean) ∈ pp_ws := List.mem_append_left _ (List.mem_of_getElem? (i := 210) rfl)
set_option maxRecDepth 100000 in
theorem pp211 : Cond.instanceMethod yX13_noTongue ∈ pp_ws := List.mem_append_left _ (List.mem_of_getElem? (i := 211) rfl)
set_option maxRecDepth 100000 in
theorem pp212 : Cond.selects RX13 yX13_noTongue yX13_noTongue ∈ pp_ws := List.mem_append_left _ (List.mem_of_getElem? (i := 212) rfl)
set_option maxRecDepth 100000 in
theorem pp213 : Cond.methodLink RL 7 yX12_feed ∈ pp_ws := List.mem_append_left _ (List.mem_of_getElem? (i := 213) rfl)
set_option maxRecDepth 100000 in
theorem pp214 : Cond.code yX12_feed cX12_feed 6 (some .int) ∈ pp_ws := List.mem_append_left _ (List.mem_of_getElem? (i := 214) rfl)
set_option maxRecDepth 100000 in
theorem pp215 : Cond.instanceMethod yX12_feed ∈ pp_ws := List.mem_append_left _ (List.mem_of_getElem? (i := 215) rfl)
set_option maxRecDepth 100000 in
theorem pp216 : Cond.selects RX12 yX12_feed yX12_feed ∈ pp_ws := List.mem_append_left _ (List.mem_of_getElem? (i := 216) rfl)
set_option maxRecDepth 100000 in
theorem pp217 : Cond.methodLink RL 15 yX12_end ∈ pp_ws := List.mem_append_left _ (List.mem_of_getElem? (i := 217) rfl)
set_option maxRecDepth 100000 in
theorem pp218 : Cond.code yX12_end cX12_end 2 (some .int) ∈ pp_ws := List.mem_append_left _ (List.mem_of_getElem? (i := 218) rfl)
set_option maxRecDepth 100000 in
theorem pp219 : Cond.instanceMethod yX12_end ∈ pp_ws := List.mem_append_left _ (List.mem_of_getElem? (i := 219) rfl)
set_option maxRecDepth 100000 in
theorem pp220 : Cond.selects RX12 yX12_end yX12_end ∈ pp_ws := List.mem_append_left _ (List.mem_of_getElem? (i := 220) rfl)
set_option maxRecDepth 100000 in
theorem pp221 : Cond.classLink RL 19 "java/lang/IllegalArgumentException" ∈ pp_ws := List.mem_append_left _ (List.mem_of_getElem? (i := 221) rfl)
set_option maxRecDepth 100000 in
theorem pp222 : Cond.methodLink RL 21 yX12_number ∈ pp_ws := List.mem_append_left _ (List.mem_of_getElem? (i := 222) rfl)
set_option maxRecDepth 100000 in
theorem pp223 : Cond.code yX12_number cX12_number 6 (some .int) ∈ pp_ws := List.mem_append_left _ (List.mem_of_getElem? (i := 223) rfl)
set_option maxRecDepth 100000 in
theorem pp224 : Cond.instanceMethod yX12_number ∈ pp_ws := List.mem_append_left _ (List.mem_of_getElem? (i := 224) rfl)
set_option maxRecDepth 100000 in
theorem pp225 : Cond.selects RX12 yX12_number yX12_number ∈ pp_ws := List.mem_append_left _ (List.mem_of_getElem? (i := 225) rfl)
set_option maxRecDepth 100000 in
theorem pp226 : Cond.methodLink RL 31 yX12_analysis ∈ pp_ws := List.mem_append_left _ (List.mem_of_getElem? (i := 226) rfl)
set_option maxRecDepth 100000 in
theorem pp227 : Cond.code yX12_analysis cX12_analysis 3 (some .int) ∈ pp_ws := List.mem_append_left _ (List.mem_of_getElem? (i := 227) rfl)
set_option maxRecDepth 100000 in
theorem pp228 : Cond.instanceMethod yX12_analysis ∈ pp_ws := List.mem_append_left _ (List.mem_of_getElem? (i := 228) rfl)
set_option maxRecDepth 100000 in
theorem pp229 : Cond.selects RX12 yX12_analysis yX12_analysis ∈ pp_ws := List.mem_append_left _ (List.mem_of_getElem? (i := 229) rfl)
set_option maxRecDepth 100000 in
theorem pp230 : Cond.methodLink RL 41 yX12_guessed ∈ pp_ws := List.mem_append_left _ (List.mem_of_getElem? (i := 230) rfl)
set_option maxRecDepth 100000 in
theorem pp231 : Cond.code yX12_guessed cX12_guessed 3 (some .int) ∈ pp_ws := List.mem_append_left _ (List.mem_of_getElem? (i := 231) rfl)
set_option maxRecDepth 100000 in
theorem pp232 : Cond.instanceMethod yX12_guessed ∈ pp_ws := List.mem_append_left _ (List.mem_of_getElem? (i := 232) rfl)
set_option maxRecDepth 100000 in
theorem pp233 : Cond.selects RX12 yX12_guessed yX12_guessed ∈ pp_ws := List.mem_append_left _ (List.mem_of_getElem? (i := 233) rfl)
set_option maxRecDepth 100000 in
theorem pp234 : Cond.methodLink RL 82 yX12_hit ∈ pp_ws := List.mem_append_left _ (List.mem_of_getElem? (i := 234) rfl)
set_option maxRecDepth 100000 in
theorem pp235 : Cond.code yX12_hit cX12_hit 3 (some .int) ∈ pp_ws := List.mem_append_left _ (List.mem_of_getElem? (i := 235) rfl)
set_option maxRecDepth 100000 in
theorem pp236 : Cond.instanceMethod yX12_hit ∈ pp_ws := List.mem_append_left _ (List.mem_of_getElem? (i := 236) rfl)
set_option maxRecDepth 100000 in
theorem pp237 : Cond.selects RX12 yX12_hit yX12_hit ∈ pp_ws := List.mem_append_left _ (List.mem_of_getElem? (i := 237) rfl)
set_option maxRecDepth 100000 in
theorem pp238 : Cond.methodLink RL 51 yX12_reading ∈ pp_ws := List.mem_append_left _ (List.mem_of_getElem? (i := 238) rfl)
set_option maxRecDepth 100000 in
theorem pp239 : Cond.code yX12_reading cX12_reading 4 (some .int) ∈ pp_ws := List.mem_append_left _ (List.mem_of_getElem? (i := 239) rfl)
set_option maxRecDepth 100000 in
theorem pp240 : Cond.instanceMethod yX12_reading ∈ pp_ws := List.mem_append_left _ (List.mem_of_getElem? (i := 240) rfl)
set_option maxRecDepth 100000 in
theorem pp241 : Cond.selects RX12 yX12_reading yX12_reading ∈ pp_ws := List.mem_append_left _ (List.mem_of_getElem? (i := 241) rfl)
set_option maxRecDepth 100000 in
theorem pp242 : Cond.methodLink RL 54 yX12_tree ∈ pp_ws := List.mem_append_left _ (List.mem_of_getElem? (i := 242) rfl)
set_option maxRecDepth 100000 in
theorem pp243 : Cond.code yX12_tree cX12_tree 3 (some .int) ∈ pp_ws := List.mem_append_left _ (List.mem_of_getElem? (i := 243) rfl)
set_option maxRecDepth 100000 in
theorem pp244 : Cond.instanceMethod yX12_tree ∈ pp_ws := List.mem_append_left _ (List.mem_of_getElem? (i := 244) rfl)
set_option maxRecDepth 100000 in
theorem pp245 : Cond.selects RX12 yX12_tree yX12_tree ∈ pp_ws := List.mem_append_left _ (List.mem_of_getElem? (i := 245) rfl)
set_option maxRecDepth 100000 in
theorem pp246 : Cond.methodLink RL 57 yX12_show ∈ pp_ws := List.mem_append_left _ (List.mem_of_getElem? (i := 246) rfl)
set_option maxRecDepth 100000 in
theorem pp247 : Cond.code yX12_show cX12_show 2 (some .int) ∈ pp_ws := List.mem_append_left _ (List.mem_of_getElem? (i := 247) rfl)
set_option maxRecDepth 100000 in
theorem pp248 : Cond.instanceMethod yX12_show ∈ pp_ws := List.mem_append_left _ (List.mem_of_getElem? (i := 248) rfl)
set_option maxRecDepth 100000 in
theorem pp249 : Cond.selects RX12 yX12_show yX12_show ∈ pp_ws := List.mem_append_left _ (List.mem_of_getElem? (i := 249) rfl)
set_option maxRecDepth 100000 in
theorem pp250 : Cond.methodLink RL 60 yX12_same ∈ pp_ws := List.mem_append_left _ (List.mem_of_getElem? (i := 250) rfl)
set_option maxRecDepth 100000 in
theorem pp251 : Cond.code yX12_same cX12_same 4 (some .boolean) ∈ pp_ws := List.mem_append_left _ (List.mem_of_getElem? (i := 251) rfl)
set_option maxRecDepth 100000 in
theorem pp252 : Cond.instanceMethod yX12_same ∈ pp_ws := List.mem_append_left _ (List.mem_of_getElem? (i := 252) rfl)
set_option maxRecDepth 100000 in
theorem pp253 : Cond.selects RX12 yX12_same yX12_same ∈ pp_ws := List.mem_append_left _ (List.mem_of_getElem? (i := 253) rfl)
set_option maxRecDepth 100000 in
theorem pp254 : Cond.methodLink RL 67 yX12_mean ∈ pp_ws := List.mem_append_left _ (List.mem_of_getElem? (i := 254) rfl)
set_option maxRecDepth 100000 in
theorem pp255 : Cond.code yX12_mean cX12_mean 3 (some .int) ∈ pp_ws := List.mem_append_left _ (List.mem_of_getElem? (i := 255) rfl)
set_option maxRecDepth 100000 in
theorem pp256 : Cond.instanceMethod yX12_mean ∈ pp_ws := List.mem_append_left _ (List.mem_of_getElem? (i := 256) rfl)
set_option maxRecDepth 100000 in
theorem pp257 : Cond.selects RX12 yX12_mean yX12_mean ∈ pp_ws := List.mem_append_left _ (List.mem_of_getElem? (i := 257) rfl)
set_option maxRecDepth 100000 in
theorem pp258 : Cond.methodLink RL 70 yX12_truth ∈ pp_ws := List.mem_append_left _ (List.mem_of_getElem? (i := 258) rfl)
set_option maxRecDepth 100000 in
theorem pp259 : Cond.code yX12_truth cX12_truth 3 (some .int) ∈ pp_ws := List.mem_append_left _ (List.mem_of_getElem? (i := 259) rfl)
set_option maxRecDepth 100000 in
theorem pp260 : Cond.instanceMethod yX12_truth ∈ pp_ws := List.mem_append_left _ (List.mem_of_getElem? (i := 260) rfl)
set_option maxRecDepth 100000 in
theorem pp261 : Cond.selects RX12 yX12_truth yX12_truth ∈ pp_ws := List.mem_append_left _ (List.mem_of_getElem? (i := 261) rfl)
set_option maxRecDepth 100000 in
theorem pp262 : Cond.methodLink RL 88 yX12_count ∈ pp_ws := List.mem_append_left _ (List.mem_of_getElem? (i := 262) rfl)
set_option maxRecDepth 100000 in
theorem pp263 : Cond.code yX12_count cX12_count 3 (some .int) ∈ pp_ws := List.mem_append_left _ (List.mem_of_getElem? (i := 263) rfl)
set_option maxRecDepth 100000 in
theorem pp264 : Cond.instanceMethod yX12_count ∈ pp_ws := List.mem_append_left _ (List.mem_of_getElem? (i := 264) rfl)
set_option maxRecDepth 100000 in
theorem pp265 : Cond.selects RX12 yX12_count yX12_count ∈ pp_ws := List.mem_append_left _ (List.mem_of_getElem? (i := 265) rfl)
set_option maxRecDepth 100000 in
theorem pp266 : Cond.methodLink RL 25 yX12_sounds ∈ pp_ws := List.mem_append_left _ (List.mem_of_getElem? (i := 266) rfl)
set_option maxRecDepth 100000 in
theorem pp267 : Cond.code yX12_sounds cX12_sounds 4 (some .int) ∈ pp_ws := List.mem_append_left _ (List.mem_of_getElem? (i := 267) rfl)
set_option maxRecDepth 100000 in
theorem pp268 : Cond.instanceMethod yX12_sounds ∈ pp_ws := List.mem_append_left _ (List.mem_of_getElem? (i := 268) rfl)
set_option maxRecDepth 100000 in
theorem pp269 : Cond.selects RX12 yX12_sounds yX12_sounds ∈ pp_ws := List.mem_append_left _ (List.mem_of_getElem? (i := 269) rfl)
set_option maxRecDepth 100000 in
theorem pp270 : Cond.methodLink RL 28 yX12_analyse ∈ pp_ws := List.mem_append_left _ (List.mem_of_getElem? (i := 270) rfl)
set_option maxRecDepth 100000 in
theorem pp271 : Cond.code yX12_analyse cX12_analyse 4 (some .int) ∈ pp_ws := List.mem_append_left _ (List.mem_of_getElem? (i := 271) rfl)
set_option maxRecDepth 100000 in
theorem pp272 : Cond.instanceMethod yX12_analyse ∈ pp_ws := List.mem_append_left _ (List.mem_of_getElem? (i := 272) rfl)
set_option maxRecDepth 100000 in
theorem pp273 : Cond.selects RX12 yX12_analyse yX12_analyse ∈ pp_ws := List.mem_append_left _ (List.mem_of_getElem? (i := 273) rfl)
set_option maxRecDepth 100000 in
theorem pp274 : Cond.methodLink RL 34 yX12_cell ∈ pp_ws := List.mem_append_left _ (List.mem_of_getElem? (i := 274) rfl)
set_option maxRecDepth 100000 in
theorem pp275 : Cond.code yX12_cell cX12_cell 7 (some .int) ∈ pp_ws := List.mem_append_left _ (List.mem_of_getElem? (i := 275) rfl)
set_option maxRecDepth 100000 in
theorem pp276 : Cond.instanceMethod yX12_cell ∈ pp_ws := List.mem_append_left _ (List.mem_of_getElem? (i := 276) rfl)
set_option maxRecDepth 100000 in
theorem pp277 : Cond.selects RX12 yX12_cell yX12_cell ∈ pp_ws := List.mem_append_left _ (List.mem_of_getElem? (i := 277) rfl)
set_option maxRecDepth 100000 in
theorem pp278 : Cond.methodLink RL 38 yX12_guess ∈ pp_ws := List.mem_append_left _ (List.mem_of_getElem? (i := 278) rfl)
set_option maxRecDepth 100000 in
theorem pp279 : Cond.code yX12_guess cX12_guess 4 (some .int) ∈ pp_ws := List.mem_append_left _ (List.mem_of_getElem? (i := 279) rfl)
set_option maxRecDepth 100000 in
theorem pp280 : Cond.instanceMethod yX12_guess ∈ pp_ws := List.mem_append_left _ (List.mem_of_getElem? (i := 280) rfl)
set_option maxRecDepth 100000 in
theorem pp281 : Cond.selects RX12 yX12_guess yX12_guess ∈ pp_ws := List.mem_append_left _ (List.mem_of_getElem? (i := 281) rfl)
set_option maxRecDepth 100000 in
theorem pp282 : Cond.methodLink RL 44 yX12_parse ∈ pp_ws := List.mem_append_left _ (List.mem_of_getElem? (i := 282) rfl)
set_option maxRecDepth 100000 in
theorem pp283 : Cond.code yX12_parse cX12_parse 5 (some .int) ∈ pp_ws := List.mem_append_left _ (List.mem_of_getElem? (i := 283) rfl)
set_option maxRecDepth 100000 in
theorem pp284 : Cond.instanceMethod yX12_parse ∈ pp_ws := List.mem_append_left _ (List.mem_of_getElem? (i := 284) rfl)
set_option maxRecDepth 100000 in
theorem pp285 : Cond.selects RX12 yX12_parse yX12_parse ∈ pp_ws := List.mem_append_left _ (List.mem_of_getElem? (i := 285) rfl)
set_option maxRecDepth 100000 in
theorem pp286 : Cond.methodLink RL 47 yX12_bar ∈ pp_ws := List.mem_append_left _ (List.mem_of_getElem? (i := 286) rfl)
set_option maxRecDepth 100000 in
theorem pp287 : Cond.code yX12_bar cX12_bar 3 (some .long) ∈ pp_ws := List.mem_append_left _ (List.mem_of_getElem? (i := 287) rfl)
set_option maxRecDepth 100000 in
theorem pp288 : Cond.instanceMethod yX12_bar ∈ pp_ws := List.mem_append_left _ (List.mem_of_getElem? (i := 288) rfl)
set_option maxRecDepth 100000 in
theorem pp289 : Cond.selects RX12 yX12_bar yX12_bar ∈ pp_ws := List.mem_append_left _ (List.mem_of_getElem? (i := 289) rfl)
set_option maxRecDepth 100000 in
theorem pp290 : Cond.methodLink RL 64 yX12_say ∈ pp_ws := List.mem_append_left _ (List.mem_of_getElem? (i := 290) rfl)
set_option maxRecDepth 100000 in
theorem pp291 : Cond.code yX12_say cX12_say 5 (some .int) ∈ pp_ws := List.mem_append_left _ (List.mem_of_getElem? (i := 291) rfl)
set_option maxRecDepth 100000 in
theorem pp292 : Cond.instanceMethod yX12_say ∈ pp_ws := List.mem_append_left _ (List.mem_of_getElem? (i := 292) rfl)
set_option maxRecDepth 100000 in
theorem pp293 : Cond.selects RX12 yX12_say yX12_say ∈ pp_ws := List.mem_append_left _ (List.mem_of_getElem? (i := 293) rfl)
set_option maxRecDepth 100000 in
theorem pp294 : Cond.methodLink RL 73 yX12_swap ∈ pp_ws := List.mem_append_left _ (List.mem_of_getElem? (i := 294) rfl)
set_option maxRecDepth 100000 in
theorem pp295 : Cond.code yX12_swap cX12_swap 9 (some .int) ∈ pp_ws := List.mem_append_left _ (List.mem_of_getElem? (i := 295) rfl)
set_option maxRecDepth 100000 in
theorem pp296 : Cond.instanceMethod yX12_swap ∈ pp_ws := List.mem_append_left _ (List.mem_of_getElem? (i := 296) rfl)
set_option maxRecDepth 100000 in
theorem pp297 : Cond.selects RX12 yX12_swap yX12_swap ∈ pp_ws := List.mem_append_left _ (List.mem_of_getElem? (i := 297) rfl)
set_option maxRecDepth 100000 in
theorem pp298 : Cond.methodLink RL 76 yX12_add ∈ pp_ws := List.mem_append_left _ (List.mem_of_getElem? (i := 298) rfl)
set_option maxRecDepth 100000 in
theorem pp299 : Cond.code yX12_add cX12_add 3 (some .int) ∈ pp_ws := List.mem_append_left _ (List.mem_of_getElem? (i := 299) rfl)
set_option maxRecDepth 100000 in
theorem pp300 : Cond.instanceMethod yX12_add ∈ pp_ws := List.mem_append_left _ (List.mem_of_getElem? (i := 300) rfl)
set_option maxRecDepth 100000 in
theorem pp301 : Cond.selects RX12 yX12_add yX12_add ∈ pp_ws := List.mem_append_left _ (List.mem_of_getElem? (i := 301) rfl)
set_option maxRecDepth 100000 in
theorem pp302 : Cond.methodLink RL 79 yX12_ask ∈ pp_ws := List.mem_append_left _ (List.mem_of_getElem? (i := 302) rfl)
set_option maxRecDepth 100000 in
theorem pp303 : Cond.code yX12_ask cX12_ask 4 (some .int) ∈ pp_ws := List.mem_append_left _ (List.mem_of_getElem? (i := 303) rfl)
set_option maxRecDepth 100000 in
theorem pp304 : Cond.instanceMethod yX12_ask ∈ pp_ws := List.mem_append_left _ (List.mem_of_getElem? (i := 304) rfl)
set_option maxRecDepth 100000 in
theorem pp305 : Cond.selects RX12 yX12_ask yX12_ask ∈ pp_ws := List.mem_append_left _ (List.mem_of_getElem? (i := 305) rfl)
set_option maxRecDepth 100000 in
theorem pp306 : Cond.methodLink RL 85 yX12_mend ∈ pp_ws := List.mem_append_left _ (List.mem_of_getElem? (i := 306) rfl)
set_option maxRecDepth 100000 in
theorem pp307 : Cond.code yX12_mend cX12_mend 10 (some .int) ∈ pp_ws := List.mem_append_left _ (List.mem_of_getElem? (i := 307) rfl)
set_option maxRecDepth 100000 in
theorem pp308 : Cond.instanceMethod yX12_mend ∈ pp_ws := List.mem_append_left _ (List.mem_of_getElem? (i := 308) rfl)
set_option maxRecDepth 100000 in
theorem pp309 : Cond.selects RX12 yX12_mend yX12_mend ∈ pp_ws := List.mem_append_left _ (List.mem_of_getElem? (i := 309) rfl)
set_option maxRecDepth 100000 in
theorem pp310 : Cond.fieldLink RJ0 38 "java/lang/String" "COMPACT_STRINGS" "Z" ∈ pp_ws := List.mem_append_left _ (List.mem_of_getElem? (i := 310) rfl)
set_option maxRecDepth 100000 in
theorem pp311 : Cond.fieldLink RJ0 15 "java/lang/String" "coder" "B" ∈ pp_ws := List.mem_append_left _ (List.mem_of_getElem? (i := 311) rfl)
set_option maxRecDepth 100000 in
theorem pp312 : Cond.fieldLink RJ0 9 "java/lang/String" "value" "[B" ∈ pp_ws := List.mem_append_left _ (List.mem_of_getElem? (i := 312) rfl)
set_option maxRecDepth 100000 in
theorem pp313 : Cond.code yJ0_coder_7d493 cJ0_coder_7d493 1 (some .byte) ∈ pp_ws := List.mem_append_left _ (List.mem_of_getElem? (i := 313) rfl)
set_option maxRecDepth 100000 in
theorem pp314 : Cond.methodLink RJ0 335 yJ0_coder_7d493 ∈ pp_ws := List.mem_append_left _ (List.mem_of_getElem? (i := 314) rfl)
set_option maxRecDepth 100000 in
theorem pp315 : Cond.instanceMethod yJ0_coder_7d493 ∈ pp_ws := List.mem_append_left _ (List.mem_of_getElem? (i := 315) rfl)
set_option maxRecDepth 100000 in
theorem pp316 : Cond.selects RJ0 yJ0_coder_7d493 yJ0_coder_7d493 ∈ pp_ws := List.mem_append_left _ (List.mem_of_getElem? (i := 316) rfl)
set_option maxRecDepth 100000 in
theorem pp317 : Cond.initialized RJ0 ∈ pp_ws := List.mem_append_left _ (List.mem_of_getElem? (i := 317) rfl)
set_option maxRecDepth 100000 in
theorem pp318 : Cond.fieldLink RJ0 1053 "jdk/internal/util/Preconditions" "SIOOBE_FORMATTER" "Ljava/util/function/BiFunction;" ∈ pp_ws := List.mem_append_left _ (List.mem_of_getElem? (i := 318) rfl)
set_option maxRecDepth 100000 in
theorem pp319 : Cond.code yJ3_checkIndex_8e157 cJ3_checkIndex_8e157 3 (some .int) ∈ pp_ws := List.mem_append_left _ (List.mem_of_getElem? (i := 319) rfl)
set_option maxRecDepth 100000 in
theorem pp320 : Cond.methodLink RJ0 1059 yJ3_checkIndex_8e157 ∈ pp_ws := List.mem_append_left _ (List.mem_of_getElem? (i := 320) rfl)
set_option maxRecDepth 100000 in
theorem pp321 : Cond.static yJ3_checkIndex_8e157 ∈ pp_ws := List.mem_append_left _ (List.mem_of_getElem? (i := 321) rfl)
set_option maxRecDepth 100000 in
theorem pp322 : Cond.initialized RJ3 ∈ pp_ws := List.mem_append_left _ (List.mem_of_getElem? (i := 322) rfl)
set_option maxRecDepth 100000 in
theorem pp323 : Cond.code yJ0_checkIndex_df160 cJ0_checkIndex_df160 2 none ∈ pp_ws := List.mem_append_left _ (List.mem_of_getElem? (i := 323) rfl)
set_option maxRecDepth 100000 in
theorem pp324 : Cond.methodLink RJ1 9 yJ0_checkIndex_df160 ∈ pp_ws := List.mem_append_left _ (List.mem_of_getElem? (i := 324) rfl)
set_option maxRecDepth 100000 in
theorem pp325 : Cond.static yJ0_checkIndex_df160 ∈ pp_ws := List.mem_append_left _ (List.mem_of_getElem? (i := 325) rfl)
set_option maxRecDepth 100000 in
theorem pp326 : Cond.code yJ0_isLatin1_aae02 cJ0_isLatin1_aae02 1 (some .boolean) ∈ pp_ws := List.mem_append_left _ (List.mem_of_getElem? (i := 326) rfl)
set_option maxRecDepth 100000 in
theorem pp327 : Cond.methodLink RJ0 492 yJ0_isLatin1_aae02 ∈ pp_ws := List.mem_append_left _ (List.mem_of_getElem? (i := 327) rfl)
set_option maxRecDepth 100000 in
theorem pp328 : Cond.instanceMethod yJ0_isLatin1_aae02 ∈ pp_ws := List.mem_append_left _ (List.mem_of_getElem? (i := 328) rfl)
set_option maxRecDepth 100000 in
theorem pp329 : Cond.selects RJ0 yJ0_isLatin1_aae02 yJ0_isLatin1_aae02 ∈ pp_ws := List.mem_append_left _ (List.mem_of_getElem? (i := 329) rfl)
set_option maxRecDepth 100000 in
theorem pp330 : Cond.code yJ1_charAt_3b067 cJ1_charAt_3b067 2 (some .char) ∈ pp_ws := List.mem_append_left _ (List.mem_of_getElem? (i := 330) rfl)
set_option maxRecDepth 100000 in
theorem pp331 : Cond.methodLink RJ0 495 yJ1_charAt_3b067 ∈ pp_ws := List.mem_append_left _ (List.mem_of_getElem? (i := 331) rfl)
set_option maxRecDepth 100000 in
theorem pp332 : Cond.static yJ1_charAt_3b067 ∈ pp_ws := List.mem_append_left _ (List.mem_of_getElem? (i := 332) rfl)
set_option maxRecDepth 100000 in
theorem pp333 : Cond.initialized RJ1 ∈ pp_ws := List.mem_append_left _ (List.mem_of_getElem? (i := 333) rfl)
set_option maxRecDepth 100000 in
theorem pp334 : Cond.code yJ0_length_8abf5 cJ0_length_8abf5 1 (some .int) ∈ pp_ws := List.mem_append_left _ (List.mem_of_getElem? (i := 334) rfl)
set_option maxRecDepth 100000 in
theorem pp335 : Cond.methodLink RX13 627 yJ0_length_8abf5 ∈ pp_ws := List.mem_append_left _ (List.mem_of_getElem? (i := 335) rfl)
set_option maxRecDepth 100000 in
theorem pp336 : Cond.instanceMethod yJ0_length_8abf5 ∈ pp_ws := List.mem_append_left _ (List.mem_of_getElem? (i := 336) rfl)
set_option maxRecDepth 100000 in
theorem pp337 : Cond.selects RJ0 yJ0_length_8abf5 yJ0_length_8abf5 ∈ pp_ws := List.mem_append_left _ (List.mem_of_getElem? (i := 337) rfl)
set_option maxRecDepth 100000 in
theorem pp338 : Cond.code yJ0_charAt_5068e cJ0_charAt_5068e 2 (some .char) ∈ pp_ws := List.mem_append_left _ (List.mem_of_getElem? (i := 338) rfl)
set_option maxRecDepth 100000 in
theorem pp339 : Cond.methodLink RX13 630 yJ0_charAt_5068e ∈ pp_ws := List.mem_append_left _ (List.mem_of_getElem? (i := 339) rfl)
set_option maxRecDepth 100000 in
theorem pp340 : Cond.instanceMethod yJ0_charAt_5068e ∈ pp_ws := List.mem_append_left _ (List.mem_of_getElem? (i := 340) rfl)
set_option maxRecDepth 100000 in
theorem pp341 : Cond.selects RJ0 yJ0_charAt_5068e yJ0_charAt_5068e ∈ pp_ws := List.mem_append_left _ (List.mem_of_getElem? (i := 341) rfl)
set_option maxRecDepth 100000 in
theorem pp342 : Cond.code yX13_word cX13_word 4 (some .long) ∈ pp_ws := List.mem_append_left _ (List.mem_of_getElem? (i := 342) rfl)
set_option maxRecDepth 100000 in
theorem pp343 : Cond.methodLink RX13 199 yX13_word ∈ pp_ws := List.mem_append_left _ (List.mem_of_getElem? (i := 343) rfl)
set_option maxRecDepth 100000 in
theorem pp344 : Cond.static yX13_word ∈ pp_ws := List.mem_append_left _ (List.mem_of_getElem? (i := 344) rfl)
set_option maxRecDepth 100000 in
theorem pp345 : Cond.methodLink RX13 9 objectInit ∈ pp_ws := List.mem_append_left _ (List.mem_of_getElem? (i := 345) rfl)
set_option maxRecDepth 100000 in
theorem pp346 : Cond.instanceMethod objectInit ∈ pp_ws := List.mem_append_left _ (List.mem_of_getElem? (i := 346) rfl)
set_option maxRecDepth 100000 in
theorem pp347 : Cond.code objectInit ⟨#[0xb1]⟩ 1 none ∈ pp_ws := List.mem_append_left _ (List.mem_of_getElem? (i := 347) rfl)
set_option maxRecDepth 100000 in
theorem pp348 : Cond.arrayClass .long ∈ pp_ws := List.mem_append_left _ (List.mem_of_getElem? (i := 348) rfl)
set_option maxRecDepth 100000 in
theorem pp349 : Cond.fieldLink RX13 18 "TongueHouseModel" "tongueName" "[J" ∈ pp_ws := List.mem_append_left _ (List.mem_of_getElem? (i := 349) rfl)
set_option maxRecDepth 100000 in
theorem pp350 : Cond.fieldLink RX13 22 "TongueHouseModel" "kindName" "[J" ∈ pp_ws := List.mem_append_left _ (List.mem_of_getElem? (i := 350) rfl)
set_option maxRecDepth 100000 in
theorem pp351 : Cond.fieldLink RX13 25 "TongueHouseModel" "funName" "[J" ∈ pp_ws := List.mem_append_left _ (List.mem_of_getElem? (i := 351) rfl)
set_option maxRecDepth 100000 in
theorem pp352 : Cond.fieldLink RX13 28 "TongueHouseModel" "thingName" "[J" ∈ pp_ws := List.mem_append_left _ (List.mem_of_getElem? (i := 352) rfl)
set_option maxRecDepth 100000 in
theorem pp353 : Cond.fieldLink RX13 31 "TongueHouseModel" "factName" "[J" ∈ pp_ws := List.mem_append_left _ (List.mem_of_getElem? (i := 353) rfl)
set_option maxRecDepth 100000 in
theorem pp354 : Cond.arrayClass .int ∈ pp_ws := List.mem_append_left _ (List.mem_of_getElem? (i := 354) rfl)
set_option maxRecDepth 100000 in
theorem pp355 : Cond.fieldLink RX13 34 "TongueHouseModel" "funArgs" "[I" ∈ pp_ws := List.mem_append_left _ (List.mem_of_getElem? (i := 355) rfl)
set_option maxRecDepth 100000 in
theorem pp356 : Cond.fieldLink RX13 38 "TongueHouseModel" "funArg" "[I" ∈ pp_ws := List.mem_append_left _ (List.mem_of_getElem? (i := 356) rfl)
set_option maxRecDepth 100000 in
theorem pp357 : Cond.fieldLink RX13 41 "TongueHouseModel" "funKind" "[I" ∈ pp_ws := List.mem_append_left _ (List.mem_of_getElem? (i := 357) rfl)
set_option maxRecDepth 100000 in
theorem pp358 : Cond.fieldLink RX13 44 "TongueHouseModel" "funPrice" "[I" ∈ pp_ws := List.mem_append_left _ (List.mem_of_getElem? (i := 358) rfl)
set_option maxRecDepth 100000 in
theorem pp359 : Cond.fieldLink RX13 47 "TongueHouseModel" "funMean" "[I" ∈ pp_ws := List.mem_append_left _ (List.mem_of_getElem? (i := 359) rfl)
set_option maxRecDepth 100000 in
theorem pp360 : Cond.fieldLink RX13 50 "TongueHouseModel" "factA" "[I" ∈ pp_ws := List.mem_append_left _ (List.mem_of_getElem? (i := 360) rfl)
set_option maxRecDepth 100000 in
theorem pp361 : Cond.fieldLink RX13 53 "TongueHouseModel" "factB" "[I" ∈ pp_ws := List.mem_append_left _ (List.mem_of_getElem? (i := 361) rfl)
set_option maxRecDepth 100000 in
theorem pp362 : Cond.fieldLink RX13 77 "TongueHouseModel" "featureName" "[J" ∈ pp_ws := List.mem_append_left _ (List.mem_of_getElem? (i := 362) rfl)
set_option maxRecDepth 100000 in
theorem pp363 : Cond.fieldLink RX13 80 "TongueHouseModel" "valueName" "[J" ∈ pp_ws := List.mem_append_left _ (List.mem_of_getElem? (i := 363) rfl)
set_option maxRecDepth 100000 in
theorem pp364 : Cond.fieldLink RX13 83 "TongueHouseModel" "className" "[J" ∈ pp_ws := List.mem_append_left _ (List.mem_of_getElem? (i := 364) rfl)
set_option maxRecDepth 100000 in
theorem pp365 : Cond.fieldLink RX13 86 "TongueHouseModel" "patternName" "[J" ∈ pp_ws := List.mem_append_left _ (List.mem_of_getElem? (i := 365) rfl)
set_option maxRecDepth 100000 in
theorem pp366 : Cond.fieldLink RX13 89 "TongueHouseModel" "valueFeature" "[I" ∈ pp_ws := List.mem_append_left _ (List.mem_of_getElem? (i := 366) rfl)
set_option maxRecDepth 100000 in
theorem pp367 : Cond.fieldLink RX13 92 "TongueHouseModel" "valueNumber" "[I" ∈ pp_ws := List.mem_append_left _ (List.mem_of_getElem? (i := 367) rfl)
set_option maxRecDepth 100000 in
theorem pp368 : Cond.fieldLink RX13 95 "TongueHouseModel" "classLetters" "[I" ∈ pp_ws := List.mem_append_left _ (List.mem_of_getElem? (i := 368) rfl)
set_option maxRecDepth 100000 in
theorem pp369 : Cond.fieldLink RX13 98 "TongueHouseModel" "soundFrom" "[I" ∈ pp_ws := List.mem_append_left _ (List.mem_of_getElem? (i := 369) rfl)
set_option maxRecDepth 100000 in
theorem pp370 : Cond.fieldLink RX13 101 "TongueHouseModel" "soundTo" "[I" ∈ pp_ws := List.mem_append_left _ (List.mem_of_getElem? (i := 370) rfl)
set_option maxRecDepth 100000 in
theorem pp371 : Cond.fieldLink RX13 104 "TongueHouseModel" "soundLeft" "[I" ∈ pp_ws := List.mem_append_left _ (List.mem_of_getElem? (i := 371) rfl)
set_option maxRecDepth 100000 in
theorem pp372 : Cond.fieldLink RX13 107 "TongueHouseModel" "soundRight" "[I" ∈ pp_ws := List.mem_append_left _ (List.mem_of_getElem? (i := 372) rfl)
set_option maxRecDepth 100000 in
theorem pp373 : Cond.fieldLink RX13 110 "TongueHouseModel" "cells" "[I" ∈ pp_ws := List.mem_append_left _ (List.mem_of_getElem? (i := 373) rfl)
set_option maxRecDepth 100000 in
theorem pp374 : Cond.fieldLink RX13 113 "TongueHouseModel" "cellValues" "[I" ∈ pp_ws := List.mem_append_left _ (List.mem_of_getElem? (i := 374) rfl)
set_option maxRecDepth 100000 in
theorem pp375 : Cond.fieldLink RX13 116 "TongueHouseModel" "cellParts" "[I" ∈ pp_ws := List.mem_append_left _ (List.mem_of_getElem? (i := 375) rfl)
set_option maxRecDepth 100000 in
theorem pp376 : Cond.fieldLink RX13 119 "TongueHouseModel" "cellMany" "[I" ∈ pp_ws := List.mem_append_left _ (List.mem_of_getElem? (i := 376) rfl)
set_option maxRecDepth 100000 in
theorem pp377 : Cond.constant RX13 122 (42000) ∈ pp_ws := List.mem_append_left _ (List.mem_of_getElem? (i := 377) rfl)
set_option maxRecDepth 100000 in
theorem pp378 : Cond.fieldLink RX13 123 "TongueHouseModel" "part" "[I" ∈ pp_ws := List.mem_append_left _ (List.mem_of_getElem? (i := 378) rfl)
set_option maxRecDepth 100000 in
theorem pp379 : Cond.fieldLink RX13 126 "TongueHouseModel" "wordFun" "[I" ∈ pp_ws := List.mem_append_left _ (List.mem_of_getElem? (i := 379) rfl)
set_option maxRecDepth 100000 in
theorem pp380 : Cond.fieldLink RX13 129 "TongueHouseModel" "wordPattern" "[I" ∈ pp_ws := List.mem_append_left _ (List.mem_of_getElem? (i := 380) rfl)
set_option maxRecDepth 100000 in
theorem pp381 : Cond.fieldLink RX13 132 "TongueHouseModel" "wordStem" "[I" ∈ pp_ws := List.mem_append_left _ (List.mem_of_getElem? (i := 381) rfl)
set_option maxRecDepth 100000 in
theorem pp382 : Cond.fieldLink RX13 135 "TongueHouseModel" "wordValues" "[I" ∈ pp_ws := List.mem_append_left _ (List.mem_of_getElem? (i := 382) rfl)
set_option maxRecDepth 100000 in
theorem pp383 : Cond.fieldLink RX13 138 "TongueHouseModel" "wordPrice" "[I" ∈ pp_ws := List.mem_append_left _ (List.mem_of_getElem? (i := 383) rfl)
set_option maxRecDepth 100000 in
theorem pp384 : Cond.fieldLink RX13 141 "TongueHouseModel" "linFun" "[I" ∈ pp_ws := List.mem_append_left _ (List.mem_of_getElem? (i := 384) rfl)
set_option maxRecDepth 100000 in
theorem pp385 : Cond.fieldLink RX13 144 "TongueHouseModel" "linItems" "[I" ∈ pp_ws := List.mem_append_left _ (List.mem_of_getElem? (i := 385) rfl)
set_option maxRecDepth 100000 in
theorem pp386 : Cond.fieldLink RX13 147 "TongueHouseModel" "linItem" "[I" ∈ pp_ws := List.mem_append_left _ (List.mem_of_getElem? (i := 386) rfl)
set_option maxRecDepth 100000 in
theorem pp387 : Cond.fieldLink RX13 150 "TongueHouseModel" "linAsked" "[I" ∈ pp_ws := List.mem_append_left _ (List.mem_of_getElem? (i := 387) rfl)
set_option maxRecDepth 100000 in
theorem pp388 : Cond.fieldLink RX13 153 "TongueHouseModel" "linSaid" "[I" ∈ pp_ws := List.mem_append_left _ (List.mem_of_getElem? (i := 388) rfl)
set_option maxRecDepth 100000 in
theorem pp389 : Cond.fieldLink RX13 156 "TongueHouseModel" "linHow" "[I" ∈ pp_ws := List.mem_append_left _ (List.mem_of_getElem? (i := 389) rfl)
set_option maxRecDepth 100000 in
theorem pp390 : Cond.fieldLink RX13 159 "TongueHouseModel" "linA" "[I" ∈ pp_ws := List.mem_append_left _ (List.mem_of_getElem? (i := 390) rfl)
set_option maxRecDepth 100000 in
theorem pp391 : Cond.fieldLink RX13 162 "TongueHouseModel" "linB" "[I" ∈ pp_ws := List.mem_append_left _ (List.mem_of_getElem? (i := 391) rfl)
set_option maxRecDepth 100000 in
theorem pp392 : Cond.fieldLink RX13 165 "TongueHouseModel" "linF" "[I" ∈ pp_ws := List.mem_append_left _ (List.mem_of_getElem? (i := 392) rfl)
set_option maxRecDepth 100000 in
theorem pp393 : Cond.fieldLink RX13 168 "TongueHouseModel" "linPrice" "[I" ∈ pp_ws := List.mem_append_left _ (List.mem_of_getElem? (i := 393) rfl)
set_option maxRecDepth 100000 in
theorem pp394 : Cond.constant RX13 171 (82000) ∈ pp_ws := List.mem_append_left _ (List.mem_of_getElem? (i := 394) rfl)
set_option maxRecDepth 100000 in
theorem pp395 : Cond.arrayClass .byte ∈ pp_ws := List.mem_append_left _ (List.mem_of_getElem? (i := 395) rfl)
set_option maxRecDepth 100000 in
theorem pp396 : Cond.fieldLink RX13 172 "TongueHouseModel" "letter" "[B" ∈ pp_ws := List.mem_append_left _ (List.mem_of_getElem? (i := 396) rfl)
set_option maxRecDepth 100000 in
theorem pp397 : Cond.fieldLink RX13 176 "TongueHouseModel" "termKind" "[I" ∈ pp_ws := List.mem_append_left _ (List.mem_of_getElem? (i := 397) rfl)
set_option maxRecDepth 100000 in
theorem pp398 : Cond.fieldLink RX13 179 "TongueHouseModel" "termA" "[I" ∈ pp_ws := List.mem_append_left _ (List.mem_of_getElem? (i := 398) rfl)
set_option maxRecDepth 100000 in
theorem pp399 : Cond.fieldLink RX13 182 "TongueHouseModel" "termB" "[I" ∈ pp_ws := List.mem_append_left _ (List.mem_of_getElem? (i := 399) rfl)
set_option maxRecDepth 100000 in
theorem pp400 : Cond.fieldLink RX13 185 "TongueHouseModel" "termName" "[J" ∈ pp_ws := List.mem_append_left _ (List.mem_of_getElem? (i := 400) rfl)
set_option maxRecDepth 100000 in
theorem pp401 : Cond.fieldLink RX13 191 "TongueHouseModel" "text" "[B" ∈ pp_ws := List.mem_append_left _ (List.mem_of_getElem? (i := 401) rfl)
set_option maxRecDepth 100000 in
theorem pp402 : Cond.fieldLink RX13 194 "TongueHouseModel" "out" "[B" ∈ pp_ws := List.mem_append_left _ (List.mem_of_getElem? (i := 402) rfl)
set_option maxRecDepth 100000 in
theorem pp403 : Cond.fieldLink RX13 203 "TongueHouseModel" "W_TONGUE" "J" ∈ pp_ws := List.mem_append_left _ (List.mem_of_getElem? (i := 403) rfl)
set_option maxRecDepth 100000 in
theorem pp404 : Cond.fieldLink RX13 209 "TongueHouseModel" "W_KIND" "J" ∈ pp_ws := List.mem_append_left _ (List.mem_of_getElem? (i := 404) rfl)
set_option maxRecDepth 100000 in
theorem pp405 : Cond.fieldLink RX13 214 "TongueHouseModel" "W_FUN" "J" ∈ pp_ws := List.mem_append_left _ (List.mem_of_getElem? (i := 405) rfl)
set_option maxRecDepth 100000 in
theorem pp406 : Cond.fieldLink RX13 219 "TongueHouseModel" "W_FEATURE" "J" ∈ pp_ws := List.mem_append_left _ (List.mem_of_getElem? (i := 406) rfl)
set_option maxRecDepth 100000 in
theorem pp407 : Cond.fieldLink RX13 224 "TongueHouseModel" "W_LETTERS" "J" ∈ pp_ws := List.mem_append_left _ (List.mem_of_getElem? (i := 407) rfl)
set_option maxRecDepth 100000 in
theorem pp408 : Cond.fieldLink RX13 229 "TongueHouseModel" "W_SOUND" "J" ∈ pp_ws := List.mem_append_left _ (List.mem_of_getElem? (i := 408) rfl)
set_option maxRecDepth 100000 in
theorem pp409 : Cond.fieldLink RX13 234 "TongueHouseModel" "W_PATTERN" "J" ∈ pp_ws := List.mem_append_left _ (List.mem_of_getElem? (i := 409) rfl)
set_option maxRecDepth 100000 in
theorem pp410 : Cond.fieldLink RX13 238 "TongueHouseModel" "W_WORD" "J" ∈ pp_ws := List.mem_append_left _ (List.mem_of_getElem? (i := 410) rfl)
set_option maxRecDepth 100000 in
theorem pp411 : Cond.fieldLink RX13 243 "TongueHouseModel" "W_LIN" "J" ∈ pp_ws := List.mem_append_left _ (List.mem_of_getElem? (i := 411) rfl)
set_option maxRecDepth 100000 in
theorem pp412 : Cond.fieldLink RX13 248 "TongueHouseModel" "W_MEAN" "J" ∈ pp_ws := List.mem_append_left _ (List.mem_of_getElem? (i := 412) rfl)
set_option maxRecDepth 100000 in
theorem pp413 : Cond.fieldLink RX13 253 "TongueHouseModel" "W_THING" "J" ∈ pp_ws := List.mem_append_left _ (List.mem_of_getElem? (i := 413) rfl)
set_option maxRecDepth 100000 in
theorem pp414 : Cond.fieldLink RX13 258 "TongueHouseModel" "W_FACT" "J" ∈ pp_ws := List.mem_append_left _ (List.mem_of_getElem? (i := 414) rfl)
set_option maxRecDepth 100000 in
theorem pp415 : Cond.fieldLink RX13 263 "TongueHouseModel" "W_COST" "J" ∈ pp_ws := List.mem_append_left _ (List.mem_of_getElem? (i := 415) rfl)
set_option maxRecDepth 100000 in
theorem pp416 : Cond.fieldLink RX13 268 "TongueHouseModel" "W_HAS" "J" ∈ pp_ws := List.mem_append_left _ (List.mem_of_getElem? (i := 416) rfl)
set_option maxRecDepth 100000 in
theorem pp417 : Cond.fieldLink RX13 273 "TongueHouseModel" "W_OF" "J" ∈ pp_ws := List.mem_append_left _ (List.mem_of_getElem? (i := 417) rfl)
set_option maxRecDepth 100000 in
theorem pp418 : Cond.fieldLink RX13 278 "TongueHouseModel" "W_AGREE" "J" ∈ pp_ws := List.mem_append_left _ (List.mem_of_getElem? (i := 418) rfl)
set_option maxRecDepth 100000 in
theorem pp419 : Cond.fieldLink RX13 283 "TongueHouseModel" "W_GIVE" "J" ∈ pp_ws := List.mem_append_left _ (List.mem_of_getElem? (i := 419) rfl)
set_option maxRecDepth 100000 in
theorem pp420 : Cond.fieldLink RX13 289 "TongueHouseModel" "meant" "[I" ∈ pp_ws := List.mem_append_left _ (List.mem_of_getElem? (i := 420) rfl)
set_option maxRecDepth 100000 in
theorem pp421 : Cond.fieldLink RX13 292 "TongueHouseModel" "four" "[I" ∈ pp_ws := List.mem_append_left _ (List.mem_of_getElem? (i := 421) rfl)
set_option maxRecDepth 100000 in
theorem pp422 : Cond.fieldLink RX13 295 "TongueHouseModel" "six" "[J" ∈ pp_ws := List.mem_append_left _ (List.mem_of_getElem? (i := 422) rfl)
set_option maxRecDepth 100000 in
theorem pp423 : Cond.fieldLink RX13 298 "TongueHouseModel" "sides" "[I" ∈ pp_ws := List.mem_append_left _ (List.mem_of_getElem? (i := 423) rfl)
set_option maxRecDepth 100000 in
theorem pp424 : Cond.fieldLink RX13 301 "TongueHouseModel" "newValues" "[I" ∈ pp_ws := List.mem_append_left _ (List.mem_of_getElem? (i := 424) rfl)
set_option maxRecDepth 100000 in
theorem pp425 : Cond.fieldLink RX13 304 "TongueHouseModel" "newParts" "[I" ∈ pp_ws := List.mem_append_left _ (List.mem_of_getElem? (i := 425) rfl)
set_option maxRecDepth 100000 in
theorem pp426 : Cond.fieldLink RX13 307 "TongueHouseModel" "newMany" "[I" ∈ pp_ws := List.mem_append_left _ (List.mem_of_getElem? (i := 426) rfl)
set_option maxRecDepth 100000 in
theorem pp427 : Cond.fieldLink RX13 310 "TongueHouseModel" "stems" "[I" ∈ pp_ws := List.mem_append_left _ (List.mem_of_getElem? (i := 427) rfl)
set_option maxRecDepth 100000 in
theorem pp428 : Cond.fieldLink RX13 313 "TongueHouseModel" "itemIs" "[I" ∈ pp_ws := List.mem_append_left _ (List.mem_of_getElem? (i := 428) rfl)
set_option maxRecDepth 100000 in
theorem pp429 : Cond.fieldLink RX13 316 "TongueHouseModel" "itemAsks" "[I" ∈ pp_ws := List.mem_append_left _ (List.mem_of_getElem? (i := 429) rfl)
set_option maxRecDepth 100000 in
theorem pp430 : Cond.fieldLink RX13 319 "TongueHouseModel" "saidHow" "[I" ∈ pp_ws := List.mem_append_left _ (List.mem_of_getElem? (i := 430) rfl)
set_option maxRecDepth 100000 in
theorem pp431 : Cond.fieldLink RX13 322 "TongueHouseModel" "saidA" "[I" ∈ pp_ws := List.mem_append_left _ (List.mem_of_getElem? (i := 431) rfl)
set_option maxRecDepth 100000 in
theorem pp432 : Cond.fieldLink RX13 325 "TongueHouseModel" "saidB" "[I" ∈ pp_ws := List.mem_append_left _ (List.mem_of_getElem? (i := 432) rfl)
set_option maxRecDepth 100000 in
theorem pp433 : Cond.fieldLink RX13 328 "TongueHouseModel" "saidF" "[I" ∈ pp_ws := List.mem_append_left _ (List.mem_of_getElem? (i := 433) rfl)
set_option maxRecDepth 100000 in
theorem pp434 : Cond.fieldLink RX13 331 "TongueHouseModel" "argAt" "[I" ∈ pp_ws := List.mem_append_left _ (List.mem_of_getElem? (i := 434) rfl)
set_option maxRecDepth 100000 in
theorem pp435 : Cond.fieldLink RX13 334 "TongueHouseModel" "binder" "[J" ∈ pp_ws := List.mem_append_left _ (List.mem_of_getElem? (i := 435) rfl)
set_option maxRecDepth 100000 in
theorem pp436 : Cond.fieldLink RX13 337 "TongueHouseModel" "buf" "[B" ∈ pp_ws := List.mem_append_left _ (List.mem_of_getElem? (i := 436) rfl)
set_option maxRecDepth 100000 in
theorem pp437 : Cond.fieldLink RX13 340 "TongueHouseModel" "made" "[B" ∈ pp_ws := List.mem_append_left _ (List.mem_of_getElem? (i := 437) rfl)
set_option maxRecDepth 100000 in
theorem pp438 : Cond.fieldLink RX13 343 "TongueHouseModel" "formsOf" "I" ∈ pp_ws := List.mem_append_left _ (List.mem_of_getElem? (i := 438) rfl)
set_option maxRecDepth 100000 in
theorem pp439 : Cond.fieldLink RX13 346 "TongueHouseModel" "formsAt" "I" ∈ pp_ws := List.mem_append_left _ (List.mem_of_getElem? (i := 439) rfl)
set_option maxRecDepth 100000 in
theorem pp440 : Cond.constant RX13 349 (36864) ∈ pp_ws := List.mem_append_left _ (List.mem_of_getElem? (i := 440) rfl)
set_option maxRecDepth 100000 in
theorem pp441 : Cond.fieldLink RX13 350 "TongueHouseModel" "formLetter" "[B" ∈ pp_ws := List.mem_append_left _ (List.mem_of_getElem? (i := 441) rfl)
set_option maxRecDepth 100000 in
theorem pp442 : Cond.fieldLink RX13 353 "TongueHouseModel" "formSize" "[I" ∈ pp_ws := List.mem_append_left _ (List.mem_of_getElem? (i := 442) rfl)
set_option maxRecDepth 100000 in
theorem pp443 : Cond.fieldLink RX13 356 "TongueHouseModel" "found" "[I" ∈ pp_ws := List.mem_append_left _ (List.mem_of_getElem? (i := 443) rfl)
set_option maxRecDepth 100000 in
theorem pp444 : Cond.fieldLink RX13 359 "TongueHouseModel" "guessP" "[I" ∈ pp_ws := List.mem_append_left _ (List.mem_of_getElem? (i := 444) rfl)
set_option maxRecDepth 100000 in
theorem pp445 : Cond.fieldLink RX13 362 "TongueHouseModel" "guessN" "[I" ∈ pp_ws := List.mem_append_left _ (List.mem_of_getElem? (i := 445) rfl)
set_option maxRecDepth 100000 in
theorem pp446 : Cond.fieldLink RX13 365 "TongueHouseModel" "said" "[B" ∈ pp_ws := List.mem_append_left _ (List.mem_of_getElem? (i := 446) rfl)
set_option maxRecDepth 100000 in
theorem pp447 : Cond.fieldLink RX13 368 "TongueHouseModel" "other" "[B" ∈ pp_ws := List.mem_append_left _ (List.mem_of_getElem? (i := 447) rfl)
set_option maxRecDepth 100000 in
theorem pp448 : Cond.fieldLink RX13 371 "TongueHouseModel" "saidN" "[I" ∈ pp_ws := List.mem_append_left _ (List.mem_of_getElem? (i := 448) rfl)
set_option maxRecDepth 100000 in
theorem pp449 : Cond.fieldLink RX13 374 "TongueHouseModel" "otherN" "[I" ∈ pp_ws := List.mem_append_left _ (List.mem_of_getElem? (i := 449) rfl)
set_option maxRecDepth 100000 in
theorem pp450 : Cond.fieldLink RX13 377 "TongueHouseModel" "nKind" "[I" ∈ pp_ws := List.mem_append_left _ (List.mem_of_getElem? (i := 450) rfl)
set_option maxRecDepth 100000 in
theorem pp451 : Cond.fieldLink RX13 380 "TongueHouseModel" "nTo" "[I" ∈ pp_ws := List.mem_append_left _ (List.mem_of_getElem? (i := 451) rfl)
set_option maxRecDepth 100000 in
theorem pp452 : Cond.fieldLink RX13 383 "TongueHouseModel" "nValues" "[I" ∈ pp_ws := List.mem_append_left _ (List.mem_of_getElem? (i := 452) rfl)
set_option maxRecDepth 100000 in
theorem pp453 : Cond.fieldLink RX13 386 "TongueHouseModel" "nNext" "[I" ∈ pp_ws := List.mem_append_left _ (List.mem_of_getElem? (i := 453) rfl)
set_option maxRecDepth 100000 in
theorem pp454 : Cond.fieldLink RX13 389 "TongueHouseModel" "nAt" "[I" ∈ pp_ws := List.mem_append_left _ (List.mem_of_getElem? (i := 454) rfl)
set_option maxRecDepth 100000 in
theorem pp455 : Cond.fieldLink RX13 392 "TongueHouseModel" "nMany" "[I" ∈ pp_ws := List.mem_append_left _ (List.mem_of_getElem? (i := 455) rfl)
set_option maxRecDepth 100000 in
theorem pp456 : Cond.fieldLink RX13 395 "TongueHouseModel" "span" "[I" ∈ pp_ws := List.mem_append_left _ (List.mem_of_getElem? (i := 456) rfl)
set_option maxRecDepth 100000 in
theorem pp457 : Cond.fieldLink RX13 398 "TongueHouseModel" "yNode" "[I" ∈ pp_ws := List.mem_append_left _ (List.mem_of_getElem? (i := 457) rfl)
set_option maxRecDepth 100000 in
theorem pp458 : Cond.fieldLink RX13 401 "TongueHouseModel" "yA" "[I" ∈ pp_ws := List.mem_append_left _ (List.mem_of_getElem? (i := 458) rfl)
set_option maxRecDepth 100000 in
theorem pp459 : Cond.fieldLink RX13 404 "TongueHouseModel" "yB" "[I" ∈ pp_ws := List.mem_append_left _ (List.mem_of_getElem? (i := 459) rfl)
set_option maxRecDepth 100000 in
theorem pp460 : Cond.fieldLink RX13 407 "TongueHouseModel" "yLin" "[I" ∈ pp_ws := List.mem_append_left _ (List.mem_of_getElem? (i := 460) rfl)
set_option maxRecDepth 100000 in
theorem pp461 : Cond.constant RX13 410 (36000) ∈ pp_ws := List.mem_append_left _ (List.mem_of_getElem? (i := 461) rfl)
set_option maxRecDepth 100000 in
theorem pp462 : Cond.fieldLink RX13 411 "TongueHouseModel" "yArg" "[I" ∈ pp_ws := List.mem_append_left _ (List.mem_of_getElem? (i := 462) rfl)
set_option maxRecDepth 100000 in
theorem pp463 : Cond.fieldLink RX13 414 "TongueHouseModel" "yOrder" "[I" ∈ pp_ws := List.mem_append_left _ (List.mem_of_getElem? (i := 463) rfl)
set_option maxRecDepth 100000 in
theorem pp464 : Cond.fieldLink RX13 417 "TongueHouseModel" "eff" "[I" ∈ pp_ws := List.mem_append_left _ (List.mem_of_getElem? (i := 464) rfl)
set_option maxRecDepth 100000 in
theorem pp465 : Cond.fieldLink RX13 420 "TongueHouseModel" "fin" "[I" ∈ pp_ws := List.mem_append_left _ (List.mem_of_getElem? (i := 465) rfl)
set_option maxRecDepth 100000 in
theorem pp466 : Cond.fieldLink RX13 423 "TongueHouseModel" "argNode" "[I" ∈ pp_ws := List.mem_append_left _ (List.mem_of_getElem? (i := 466) rfl)
set_option maxRecDepth 100000 in
theorem pp467 : Cond.fieldLink RX13 426 "TongueHouseModel" "itemNode" "[I" ∈ pp_ws := List.mem_append_left _ (List.mem_of_getElem? (i := 467) rfl)
set_option maxRecDepth 100000 in
theorem pp468 : Cond.fieldLink RX13 429 "TongueHouseModel" "nTrees" "[J" ∈ pp_ws := List.mem_append_left _ (List.mem_of_getElem? (i := 468) rfl)
set_option maxRecDepth 100000 in
theorem pp469 : Cond.fieldLink RX13 432 "TongueHouseModel" "topN" "[I" ∈ pp_ws := List.mem_append_left _ (List.mem_of_getElem? (i := 469) rfl)
set_option maxRecDepth 100000 in
theorem pp470 : Cond.constant RX13 435 (48000) ∈ pp_ws := List.mem_append_left _ (List.mem_of_getElem? (i := 470) rfl)
set_option maxRecDepth 100000 in
theorem pp471 : Cond.fieldLink RX13 436 "TongueHouseModel" "topPrice" "[I" ∈ pp_ws := List.mem_append_left _ (List.mem_of_getElem? (i := 471) rfl)
set_option maxRecDepth 100000 in
theorem pp472 : Cond.fieldLink RX13 439 "TongueHouseModel" "topWay" "[I" ∈ pp_ws := List.mem_append_left _ (List.mem_of_getElem? (i := 472) rfl)
set_option maxRecDepth 100000 in
theorem pp473 : Cond.fieldLink RX13 442 "TongueHouseModel" "topRanks" "[I" ∈ pp_ws := List.mem_append_left _ (List.mem_of_getElem? (i := 473) rfl)
set_option maxRecDepth 100000 in
theorem pp474 : Cond.arrayClass .boolean ∈ pp_ws := List.mem_append_left _ (List.mem_of_getElem? (i := 474) rfl)
set_option maxRecDepth 100000 in
theorem pp475 : Cond.fieldLink RX13 445 "TongueHouseModel" "barred" "[Z" ∈ pp_ws := List.mem_append_left _ (List.mem_of_getElem? (i := 475) rfl)
set_option maxRecDepth 100000 in
theorem pp476 : Cond.fieldLink RX13 449 "TongueHouseModel" "forest" "I" ∈ pp_ws := List.mem_append_left _ (List.mem_of_getElem? (i := 476) rfl)
set_option maxRecDepth 100000 in
theorem pp477 : Cond.fieldLink RX13 452 "TongueHouseModel" "readNode" "[I" ∈ pp_ws := List.mem_append_left _ (List.mem_of_getElem? (i := 477) rfl)
set_option maxRecDepth 100000 in
theorem pp478 : Cond.fieldLink RX13 455 "TongueHouseModel" "readRank" "[I" ∈ pp_ws := List.mem_append_left _ (List.mem_of_getElem? (i := 478) rfl)
set_option maxRecDepth 100000 in
theorem pp479 : Cond.fieldLink RX13 458 "TongueHouseModel" "readPrice" "[I" ∈ pp_ws := List.mem_append_left _ (List.mem_of_getElem? (i := 479) rfl)
set_option maxRecDepth 100000 in
theorem pp480 : Cond.fieldLink RX13 461 "TongueHouseModel" "tree" "[I" ∈ pp_ws := List.mem_append_left _ (List.mem_of_getElem? (i := 480) rfl)
set_option maxRecDepth 100000 in
theorem pp481 : Cond.fieldLink RX13 464 "TongueHouseModel" "placeFun" "[I" ∈ pp_ws := List.mem_append_left _ (List.mem_of_getElem? (i := 481) rfl)
set_option maxRecDepth 100000 in
theorem pp482 : Cond.constant RX13 470 (288000) ∈ pp_ws := List.mem_append_left _ (List.mem_of_getElem? (i := 482) rfl)
set_option maxRecDepth 100000 in
theorem pp483 : Cond.fieldLink RX13 471 "TongueHouseModel" "optText" "[B" ∈ pp_ws := List.mem_append_left _ (List.mem_of_getElem? (i := 483) rfl)
set_option maxRecDepth 100000 in
theorem pp484 : Cond.fieldLink RX13 474 "TongueHouseModel" "optSize" "[I" ∈ pp_ws := List.mem_append_left _ (List.mem_of_getElem? (i := 484) rfl)
set_option maxRecDepth 100000 in
theorem pp485 : Cond.fieldLink RX13 477 "TongueHouseModel" "optValues" "[I" ∈ pp_ws := List.mem_append_left _ (List.mem_of_getElem? (i := 485) rfl)
set_option maxRecDepth 100000 in
theorem pp486 : Cond.fieldLink RX13 480 "TongueHouseModel" "optPrice" "[I" ∈ pp_ws := List.mem_append_left _ (List.mem_of_getElem? (i := 486) rfl)
set_option maxRecDepth 100000 in
theorem pp487 : Cond.fieldLink RX13 483 "TongueHouseModel" "optOrder" "[I" ∈ pp_ws := List.mem_append_left _ (List.mem_of_getElem? (i := 487) rfl)
set_option maxRecDepth 100000 in
theorem pp488 : Cond.fieldLink RX13 486 "TongueHouseModel" "optN" "[I" ∈ pp_ws := List.mem_append_left _ (List.mem_of_getElem? (i := 488) rfl)
set_option maxRecDepth 100000 in
theorem pp489 : Cond.fieldLink RX13 489 "TongueHouseModel" "argTree" "[I" ∈ pp_ws := List.mem_append_left _ (List.mem_of_getElem? (i := 489) rfl)
set_option maxRecDepth 100000 in
theorem pp490 : Cond.fieldLink RX13 492 "TongueHouseModel" "picked" "[I" ∈ pp_ws := List.mem_append_left _ (List.mem_of_getElem? (i := 490) rfl)
set_option maxRecDepth 100000 in
theorem pp491 : Cond.fieldLink RX13 495 "TongueHouseModel" "candidate" "[B" ∈ pp_ws := List.mem_append_left _ (List.mem_of_getElem? (i := 491) rfl)
set_option maxRecDepth 100000 in
theorem pp492 : Cond.fieldLink RX13 498 "TongueHouseModel" "candidateN" "[I" ∈ pp_ws := List.mem_append_left _ (List.mem_of_getElem? (i := 492) rfl)
set_option maxRecDepth 100000 in
theorem pp493 : Cond.constant RX13 501 (57600) ∈ pp_ws := List.mem_append_left _ (List.mem_of_getElem? (i := 493) rfl)
set_option maxRecDepth 100000 in
theorem pp494 : Cond.fieldLink RX13 502 "TongueHouseModel" "kept" "[B" ∈ pp_ws := List.mem_append_left _ (List.mem_of_getElem? (i := 494) rfl)
set_option maxRecDepth 100000 in
theorem pp495 : Cond.fieldLink RX13 505 "TongueHouseModel" "keptN" "[I" ∈ pp_ws := List.mem_append_left _ (List.mem_of_getElem? (i := 495) rfl)
set_option maxRecDepth 100000 in
theorem pp496 : Cond.fieldLink RX13 508 "TongueHouseModel" "keptTongue" "[I" ∈ pp_ws := List.mem_append_left _ (List.mem_of_getElem? (i := 496) rfl)
set_option maxRecDepth 100000 in
theorem pp497 : Cond.fieldLink RX13 511 "TongueHouseModel" "keptSize" "[I" ∈ pp_ws := List.mem_append_left _ (List.mem_of_getElem? (i := 497) rfl)
set_option maxRecDepth 100000 in
theorem pp498 : Cond.fieldLink RX13 514 "TongueHouseModel" "asked" "[I" ∈ pp_ws := List.mem_append_left _ (List.mem_of_getElem? (i := 498) rfl)
set_option maxRecDepth 100000 in
theorem pp499 : Cond.fieldLink RX13 517 "TongueHouseModel" "askedN" "[I" ∈ pp_ws := List.mem_append_left _ (List.mem_of_getElem? (i := 499) rfl)
set_option maxRecDepth 100000 in
theorem pp500 : Cond.fieldLink RX13 520 "TongueHouseModel" "hitAt" "[I" ∈ pp_ws := List.mem_append_left _ (List.mem_of_getElem? (i := 500) rfl)
set_option maxRecDepth 100000 in
theorem pp501 : Cond.fieldLink RX13 523 "TongueHouseModel" "hitWord" "[I" ∈ pp_ws := List.mem_append_left _ (List.mem_of_getElem? (i := 501) rfl)
set_option maxRecDepth 100000 in
theorem pp502 : Cond.fieldLink RX13 526 "TongueHouseModel" "hKind" "[I" ∈ pp_ws := List.mem_append_left _ (List.mem_of_getElem? (i := 502) rfl)
set_option maxRecDepth 100000 in
theorem pp503 : Cond.fieldLink RX13 529 "TongueHouseModel" "hA" "[I" ∈ pp_ws := List.mem_append_left _ (List.mem_of_getElem? (i := 503) rfl)
set_option maxRecDepth 100000 in
theorem pp504 : Cond.fieldLink RX13 532 "TongueHouseModel" "hB" "[I" ∈ pp_ws := List.mem_append_left _ (List.mem_of_getElem? (i := 504) rfl)
set_option maxRecDepth 100000 in
theorem pp505 : Cond.fieldLink RX13 535 "TongueHouseModel" "hName" "[J" ∈ pp_ws := List.mem_append_left _ (List.mem_of_getElem? (i := 505) rfl)
set_option maxRecDepth 100000 in
theorem pp506 : Cond.fieldLink RX13 538 "TongueHouseModel" "bound" "[I" ∈ pp_ws := List.mem_append_left _ (List.mem_of_getElem? (i := 506) rfl)
set_option maxRecDepth 100000 in
theorem pp507 : Cond.fieldLink RX13 543 "TongueHouseModel" "W_AND" "J" ∈ pp_ws := List.mem_append_left _ (List.mem_of_getElem? (i := 507) rfl)
set_option maxRecDepth 100000 in
theorem pp508 : Cond.fieldLink RX13 548 "TongueHouseModel" "W_OR" "J" ∈ pp_ws := List.mem_append_left _ (List.mem_of_getElem? (i := 508) rfl)
set_option maxRecDepth 100000 in
theorem pp509 : Cond.fieldLink RX13 553 "TongueHouseModel" "W_IF" "J" ∈ pp_ws := List.mem_append_left _ (List.mem_of_getElem? (i := 509) rfl)
set_option maxRecDepth 100000 in
theorem pp510 : Cond.fieldLink RX13 558 "TongueHouseModel" "W_NOT" "J" ∈ pp_ws := List.mem_append_left _ (List.mem_of_getElem? (i := 510) rfl)
set_option maxRecDepth 100000 in
theorem pp511 : Cond.fieldLink RX13 563 "TongueHouseModel" "W_ALL" "J" ∈ pp_ws := List.mem_append_left _ (List.mem_of_getElem? (i := 511) rfl)
set_option maxRecDepth 100000 in
theorem pp512 : Cond.fieldLink RX13 568 "TongueHouseModel" "W_SOME" "J" ∈ pp_ws := List.mem_append_left _ (List.mem_of_getElem? (i := 512) rfl)
set_option maxRecDepth 100000 in
theorem pp513 : Cond.fieldLink RX13 573 "TongueHouseModel" "W_IS" "J" ∈ pp_ws := List.mem_append_left _ (List.mem_of_getElem? (i := 513) rfl)
set_option maxRecDepth 100000 in
theorem pp514 : Cond.classLink RL 8 RX12 ∈ pp_ws := List.mem_append_left _ (List.mem_of_getElem? (i := 514) rfl)
set_option maxRecDepth 100000 in
theorem pp515 : Cond.instantiable RX12 17 ∈ pp_ws := List.mem_append_left _ (List.mem_of_getElem? (i := 515) rfl)
set_option maxRecDepth 100000 in
theorem pp516 : Cond.classLink RL 92 RX13 ∈ pp_ws := List.mem_append_left _ (List.mem_of_getElem? (i := 516) rfl)
set_option maxRecDepth 100000 in
theorem pp517 : Cond.instantiable RX13 229 ∈ pp_ws := List.mem_append_left _ (List.mem_of_getElem? (i := 517) rfl)
set_option maxRecDepth 100000 in
theorem pp518 : Cond.methodLink RL 94 yX13_init ∈ pp_ws := List.mem_append_left _ (List.mem_of_getElem? (i := 518) rfl)
set_option maxRecDepth 100000 in
theorem pp519 : Cond.instanceMethod yX13_init ∈ pp_ws := List.mem_append_left _ (List.mem_of_getElem? (i := 519) rfl)
set_option maxRecDepth 100000 in
theorem pp520 : Cond.code yX13_init cX13_init 2 none ∈ pp_ws := List.mem_append_left _ (List.mem_of_getElem? (i := 520) rfl)
set_option maxRecDepth 100000 in
theorem pp521 : Cond.codeWith yL_feed cL_feed 8 (some .int) [(0, 16, 19, 13)] ∈ pp_ws := List.mem_append_left _ (List.mem_of_getElem? (i := 521) rfl)
set_option maxRecDepth 100000 in
theorem pp522 : Cond.methodLink RL 95 yL_feed ∈ pp_ws := List.mem_append_left _ (List.mem_of_getElem? (i := 522) rfl)
set_option maxRecDepth 100000 in
theorem pp523 : Cond.static yL_feed ∈ pp_ws := List.mem_append_left _ (List.mem_of_getElem? (i := 523) rfl)
set_option maxRecDepth 100000 in
theorem pp524 : Cond.initialized RL ∈ pp_ws := List.mem_append_left _ (List.mem_of_getElem? (i := 524) rfl)
set_option maxRecDepth 100000 in
theorem pp525 : Cond.code yX13_feed cX13_feed 6 (some .int) ∈ pp_ws := List.mem_append_left _ (List.mem_of_getElem? (i := 525) rfl)
set_option maxRecDepth 100000 in
theorem pp526 : Cond.methodLink RL 100 yX13_feed ∈ pp_ws := List.mem_append_left _ (List.mem_of_getElem? (i := 526) rfl)
set_option maxRecDepth 100000 in
theorem pp527 : Cond.instanceMethod yX13_feed ∈ pp_ws := List.mem_append_left _ (List.mem_of_getElem? (i := 527) rfl)
set_option maxRecDepth 100000 in
theorem pp528 : Cond.selects RX13 yX13_feed yX13_feed ∈ pp_ws := List.mem_append_left _ (List.mem_of_getElem? (i := 528) rfl)
set_option maxRecDepth 100000 in
theorem pp529 : Cond.code yX13_thrown cX13_thrown 1 (some .int) ∈ pp_ws := List.mem_append_left _ (List.mem_of_getElem? (i := 529) rfl)
set_option maxRecDepth 100000 in
theorem pp530 : Cond.methodLink RL 101 yX13_thrown ∈ pp_ws := List.mem_append_left _ (List.mem_of_getElem? (i := 530) rfl)
set_option maxRecDepth 100000 in
theorem pp531 : Cond.instanceMethod yX13_thrown ∈ pp_ws := List.mem_append_left _ (List.mem_of_getElem? (i := 531) rfl)
set_option maxRecDepth 100000 in
theorem pp532 : Cond.selects RX13 yX13_thrown yX13_thrown ∈ pp_ws := List.mem_append_left _ (List.mem_of_getElem? (i := 532) rfl)
set_option maxRecDepth 100000 in
theorem pp533 : Cond.codeWith yL_end cL_end 4 (some .int) [(0, 9, 12, 19)] ∈ pp_ws := List.mem_append_left _ (List.mem_of_getElem? (i := 533) rfl)
set_option maxRecDepth 100000 in
theorem pp534 : Cond.methodLink RL 105 yL_end ∈ pp_ws := List.mem_append_left _ (List.mem_of_getElem? (i := 534) rfl)
set_option maxRecDepth 100000 in
theorem pp535 : Cond.static yL_end ∈ pp_ws := List.mem_append_left _ (List.mem_of_getElem? (i := 535) rfl)
set_option maxRecDepth 100000 in
theorem pp536 : Cond.code yX13_end cX13_end 2 (some .int) ∈ pp_ws := List.mem_append_left _ (List.mem_of_getElem? (i := 536) rfl)
set_option maxRecDepth 100000 in
theorem pp537 : Cond.methodLink RL 108 yX13_end ∈ pp_ws := List.mem_append_left _ (List.mem_of_getElem? (i := 537) rfl)
set_option maxRecDepth 100000 in
theorem pp538 : Cond.instanceMethod yX13_end ∈ pp_ws := List.mem_append_left _ (List.mem_of_getElem? (i := 538) rfl)
set_option maxRecDepth 100000 in
theorem pp539 : Cond.selects RX13 yX13_end yX13_end ∈ pp_ws := List.mem_append_left _ (List.mem_of_getElem? (i := 539) rfl)
set_option maxRecDepth 100000 in
theorem pp540 : Cond.code yX12_module cX12_module 2 (some .int) ∈ pp_ws := List.mem_append_left _ (List.mem_of_getElem? (i := 540) rfl)
set_option maxRecDepth 100000 in
theorem pp541 : Cond.methodLink RL 109 yX12_module ∈ pp_ws := List.mem_append_left _ (List.mem_of_getElem? (i := 541) rfl)
set_option maxRecDepth 100000 in
theorem pp542 : Cond.instanceMethod yX12_module ∈ pp_ws := List.mem_append_left _ (List.mem_of_getElem? (i := 542) rfl)
set_option maxRecDepth 100000 in
theorem pp543 : Cond.selects RX12 yX12_module yX12_module ∈ pp_ws := List.mem_append_left _ (List.mem_of_getElem? (i := 543) rfl)
set_option maxRecDepth 100000 in
theorem pp544 : Cond.code yX13_module cX13_module 2 (some .int) ∈ pp_ws := List.mem_append_left _ (List.mem_of_getElem? (i := 544) rfl)
set_option maxRecDepth 100000 in
theorem pp545 : Cond.methodLink RL 112 yX13_module ∈ pp_ws := List.mem_append_left _ (List.mem_of_getElem? (i := 545) rfl)
set_option maxRecDepth 100000 in
theorem pp546 : Cond.instanceMethod yX13_module ∈ pp_ws := List.mem_append_left _ (List.mem_of_getElem? (i := 546) rfl)
set_option maxRecDepth 100000 in
theorem pp547 : Cond.selects RX13 yX13_module yX13_module ∈ pp_ws := List.mem_append_left _ (List.mem_of_getElem? (i := 547) rfl)
set_option maxRecDepth 100000 in
theorem pp548 : Cond.code yX12_rule cX12_rule 1 (some .int) ∈ pp_ws := List.mem_append_left _ (List.mem_of_getElem? (i := 548) rfl)
set_option maxRecDepth 100000 in
theorem pp549 : Cond.methodLink RL 113 yX12_rule ∈ pp_ws := List.mem_append_left _ (List.mem_of_getElem? (i := 549) rfl)
set_option maxRecDepth 100000 in
theorem pp550 : Cond.instanceMethod yX12_rule ∈ pp_ws := List.mem_append_left _ (List.mem_of_getElem? (i := 550) rfl)
set_option maxRecDepth 100000 in
theorem pp551 : Cond.selects RX12 yX12_rule yX12_rule ∈ pp_ws := List.mem_append_left _ (List.mem_of_getElem? (i := 551) rfl)
set_option maxRecDepth 100000 in
theorem pp552 : Cond.code yX13_rule cX13_rule 1 (some .int) ∈ pp_ws := List.mem_append_left _ (List.mem_of_getElem? (i := 552) rfl)
set_option maxRecDepth 100000 in
theorem pp553 : Cond.methodLink RL 116 yX13_rule ∈ pp_ws := List.mem_append_left _ (List.mem_of_getElem? (i := 553) rfl)
set_option maxRecDepth 100000 in
theorem pp554 : Cond.instanceMethod yX13_rule ∈ pp_ws := List.mem_append_left _ (List.mem_of_getElem? (i := 554) rfl)
set_option maxRecDepth 100000 in
theorem pp555 : Cond.selects RX13 yX13_rule yX13_rule ∈ pp_ws := List.mem_append_left _ (List.mem_of_getElem? (i := 555) rfl)
set_option maxRecDepth 100000 in
theorem pp556 : Cond.code yX12_out cX12_out 2 (some .int) ∈ pp_ws := List.mem_append_left _ (List.mem_of_getElem? (i := 556) rfl)
set_option maxRecDepth 100000 in
theorem pp557 : Cond.methodLink RL 117 yX12_out ∈ pp_ws := List.mem_append_left _ (List.mem_of_getElem? (i := 557) rfl)
set_option maxRecDepth 100000 in
theorem pp558 : Cond.instanceMethod yX12_out ∈ pp_ws := List.mem_append_left _ (List.mem_of_getElem? (i := 558) rfl)
set_option maxRecDepth 100000 in
theorem pp559 : Cond.selects RX12 yX12_out yX12_out ∈ pp_ws := List.mem_append_left _ (List.mem_of_getElem? (i := 559) rfl)
set_option maxRecDepth 100000 in
theorem pp560 : Cond.code yX13_out cX13_out 2 (some .int) ∈ pp_ws := List.mem_append_left _ (List.mem_of_getElem? (i := 560) rfl)
set_option maxRecDepth 100000 in
theorem pp561 : Cond.methodLink RL 120 yX13_out ∈ pp_ws := List.mem_append_left _ (List.mem_of_getElem? (i := 561) rfl)
set_option maxRecDepth 100000 in
theorem pp562 : Cond.instanceMethod yX13_out ∈ pp_ws := List.mem_append_left _ (List.mem_of_getElem? (i := 562) rfl)
set_option maxRecDepth 100000 in
theorem pp563 : Cond.selects RX13 yX13_out yX13_out ∈ pp_ws := List.mem_append_left _ (List.mem_of_getElem? (i := 563) rfl)
set_option maxRecDepth 100000 in
theorem pp564 : Cond.codeWith yL_number cL_number 5 (some .int) [(0, 10, 13, 19)] ∈ pp_ws := List.mem_append_left _ (List.mem_of_getElem? (i := 564) rfl)
set_option maxRecDepth 100000 in
theorem pp565 : Cond.methodLink RL 121 yL_number ∈ pp_ws := List.mem_append_left _ (List.mem_of_getElem? (i := 565) rfl)
set_option maxRecDepth 100000 in
theorem pp566 : Cond.static yL_number ∈ pp_ws := List.mem_append_left _ (List.mem_of_getElem? (i := 566) rfl)
set_option maxRecDepth 100000 in
theorem pp567 : Cond.code yX13_number cX13_number 5 (some .int) ∈ pp_ws := List.mem_append_left _ (List.mem_of_getElem? (i := 567) rfl)
set_option maxRecDepth 100000 in
theorem pp568 : Cond.methodLink RL 124 yX13_number ∈ pp_ws := List.mem_append_left _ (List.mem_of_getElem? (i := 568) rfl)
set_option maxRecDepth 100000 in
theorem pp569 : Cond.instanceMethod yX13_number ∈ pp_ws := List.mem_append_left _ (List.mem_of_getElem? (i := 569) rfl)
set_option maxRecDepth 100000 in
theorem pp570 : Cond.selects RX13 yX13_number yX13_number ∈ pp_ws := List.mem_append_left _ (List.mem_of_getElem? (i := 570) rfl)
set_option maxRecDepth 100000 in
theorem pp571 : Cond.codeWith yL_sounds cL_sounds 4 (some .int) [(0, 9, 12, 19)] ∈ pp_ws := List.mem_append_left _ (List.mem_of_getElem? (i := 571) rfl)
set_option maxRecDepth 100000 in
theorem pp572 : Cond.methodLink RL 125 yL_sounds ∈ pp_ws := List.mem_append_left _ (List.mem_of_getElem? (i := 572) rfl)
set_option maxRecDepth 100000 in
theorem pp573 : Cond.static yL_sounds ∈ pp_ws := List.mem_append_left _ (List.mem_of_getElem? (i := 573) rfl)
set_option maxRecDepth 100000 in
theorem pp574 : Cond.code yX13_sounds cX13_sounds 3 (some .int) ∈ pp_ws := List.mem_append_left _ (List.mem_of_getElem? (i := 574) rfl)
set_option maxRecDepth 100000 in
theorem pp575 : Cond.methodLink RL 127 yX13_sounds ∈ pp_ws := List.mem_append_left _ (List.mem_of_getElem? (i := 575) rfl)
set_option maxRecDepth 100000 in
theorem pp576 : Cond.instanceMethod yX13_sounds ∈ pp_ws := List.mem_append_left _ (List.mem_of_getElem? (i := 576) rfl)
set_option maxRecDepth 100000 in
theorem pp577 : Cond.selects RX13 yX13_sounds yX13_sounds ∈ pp_ws := List.mem_append_left _ (List.mem_of_getElem? (i := 577) rfl)
set_option maxRecDepth 100000 in
theorem pp578 : Cond.codeWith yL_analyse cL_analyse 4 (some .int) [(0, 9, 12, 19)] ∈ pp_ws := List.mem_append_left _ (List.mem_of_getElem? (i := 578) rfl)
set_option maxRecDepth 100000 in
theorem pp579 : Cond.methodLink RL 128 yL_analyse ∈ pp_ws := List.mem_append_left _ (List.mem_of_getElem? (i := 579) rfl)
set_option maxRecDepth 100000 in
theorem pp580 : Cond.static yL_analyse ∈ pp_ws := List.mem_append_left _ (List.mem_of_getElem? (i := 580) rfl)
set_option maxRecDepth 100000 in
theorem pp581 : Cond.code yX13_analyse cX13_analyse 5 (some .int) ∈ pp_ws := List.mem_append_left _ (List.mem_of_getElem? (i := 581) rfl)
set_option maxRecDepth 100000 in
theorem pp582 : Cond.methodLink RL 130 yX13_analyse ∈ pp_ws := List.mem_append_left _ (List.mem_of_getElem? (i := 582) rfl)
set_option maxRecDepth 100000 in
theorem pp583 : Cond.instanceMethod yX13_analyse ∈ pp_ws := List.mem_append_left _ (List.mem_of_getElem? (i := 583) rfl)
set_option maxRecDepth 100000 in
theorem pp584 : Cond.selects RX13 yX13_analyse yX13_analyse ∈ pp_ws := List.mem_append_left _ (List.mem_of_getElem? (i := 584) rfl)
set_option maxRecDepth 100000 in
theorem pp585 : Cond.codeWith yL_analysis cL_analysis 5 (some .int) [(0, 10, 13, 19)] ∈ pp_ws := List.mem_append_left _ (List.mem_of_getElem? (i := 585) rfl)
set_option maxRecDepth 100000 in
theorem pp586 : Cond.methodLink RL 131 yL_analysis ∈ pp_ws := List.mem_append_left _ (List.mem_of_getElem? (i := 586) rfl)
set_option maxRecDepth 100000 in
theorem pp587 : Cond.static yL_analysis ∈ pp_ws := List.mem_append_left _ (List.mem_of_getElem? (i := 587) rfl)
set_option maxRecDepth 100000 in
theorem pp588 : Cond.code yX13_analysis cX13_analysis 6 (some .int) ∈ pp_ws := List.mem_append_left _ (List.mem_of_getElem? (i := 588) rfl)
set_option maxRecDepth 100000 in
theorem pp589 : Cond.methodLink RL 133 yX13_analysis ∈ pp_ws := List.mem_append_left _ (List.mem_of_getElem? (i := 589) rfl)
set_option maxRecDepth 100000 in
theorem pp590 : Cond.instanceMethod yX13_analysis ∈ pp_ws := List.mem_append_left _ (List.mem_of_getElem? (i := 590) rfl)
set_option maxRecDepth 100000 in
theorem pp591 : Cond.selects RX13 yX13_analysis yX13_analysis ∈ pp_ws := List.mem_append_left _ (List.mem_of_getElem? (i := 591) rfl)
set_option maxRecDepth 100000 in
theorem pp592 : Cond.codeWith yL_cell cL_cell 6 (some .int) [(0, 12, 15, 19)] ∈ pp_ws := List.mem_append_left _ (List.mem_of_getElem? (i := 592) rfl)
set_option maxRecDepth 100000 in
theorem pp593 : Cond.methodLink RL 134 yL_cell ∈ pp_ws := List.mem_append_left _ (List.mem_of_getElem? (i := 593) rfl)
set_option maxRecDepth 100000 in
theorem pp594 : Cond.static yL_cell ∈ pp_ws := List.mem_append_left _ (List.mem_of_getElem? (i := 594) rfl)
set_option maxRecDepth 100000 in
theorem pp595 : Cond.code yX13_cell cX13_cell 5 (some .int) ∈ pp_ws := List.mem_append_left _ (List.mem_of_getElem? (i := 595) rfl)
set_option maxRecDepth 100000 in
theorem pp596 : Cond.methodLink RL 137 yX13_cell ∈ pp_ws := List.mem_append_left _ (List.mem_of_getElem? (i := 596) rfl)
set_option maxRecDepth 100000 in
theorem pp597 : Cond.instanceMethod yX13_cell ∈ pp_ws := List.mem_append_left _ (List.mem_of_getElem? (i := 597) rfl)
set_option maxRecDepth 100000 in
theorem pp598 : Cond.selects RX13 yX13_cell yX13_cell ∈ pp_ws := List.mem_append_left _ (List.mem_of_getElem? (i := 598) rfl)
set_option maxRecDepth 100000 in
theorem pp599 : Cond.codeWith yL_guess cL_guess 4 (some .int) [(0, 9, 12, 19)] ∈ pp_ws := List.mem_append_left _ (List.mem_of_getElem? (i := 599) rfl)
set_option maxRecDepth 100000 in
theorem pp600 : Cond.methodLink RL 138 yL_guess ∈ pp_ws := List.mem_append_left _ (List.mem_of_getElem? (i := 600) rfl)
set_option maxRecDepth 100000 in
theorem pp601 : Cond.static yL_guess ∈ pp_ws := List.mem_append_left _ (List.mem_of_getElem? (i := 601) rfl)
set_option maxRecDepth 100000 in
theorem pp602 : Cond.code yX13_guess cX13_guess 8 (some .int) ∈ pp_ws := List.mem_append_left _ (List.mem_of_getElem? (i := 602) rfl)
set_option maxRecDepth 100000 in
theorem pp603 : Cond.methodLink RL 140 yX13_guess ∈ pp_ws := List.mem_append_left _ (List.mem_of_getElem? (i := 603) rfl)
set_option maxRecDepth 100000 in
theorem pp604 : Cond.instanceMethod yX13_guess ∈ pp_ws := List.mem_append_left _ (List.mem_of_getElem? (i := 604) rfl)
set_option maxRecDepth 100000 in
theorem pp605 : Cond.selects RX13 yX13_guess yX13_guess ∈ pp_ws := List.mem_append_left _ (List.mem_of_getElem? (i := 605) rfl)
set_option maxRecDepth 100000 in
theorem pp606 : Cond.codeWith yL_guessed cL_guessed 5 (some .int) [(0, 10, 13, 19)] ∈ pp_ws := List.mem_append_left _ (List.mem_of_getElem? (i := 606) rfl)
set_option maxRecDepth 100000 in
theorem pp607 : Cond.methodLink RL 141 yL_guessed ∈ pp_ws := List.mem_append_left _ (List.mem_of_getElem? (i := 607) rfl)
set_option maxRecDepth 100000 in
theorem pp608 : Cond.static yL_guessed ∈ pp_ws := List.mem_append_left _ (List.mem_of_getElem? (i := 608) rfl)
set_option maxRecDepth 100000 in
theorem pp609 : Cond.code yX13_guessed cX13_guessed 3 (some .int) ∈ pp_ws := List.mem_append_left _ (List.mem_of_getElem? (i := 609) rfl)
set_option maxRecDepth 100000 in
theorem pp610 : Cond.methodLink RL 143 yX13_guessed ∈ pp_ws := List.mem_append_left _ (List.mem_of_getElem? (i := 610) rfl)
set_option maxRecDepth 100000 in
theorem pp611 : Cond.instanceMethod yX13_guessed ∈ pp_ws := List.mem_append_left _ (List.mem_of_getElem? (i := 611) rfl)
set_option maxRecDepth 100000 in
theorem pp612 : Cond.selects RX13 yX13_guessed yX13_guessed ∈ pp_ws := List.mem_append_left _ (List.mem_of_getElem? (i := 612) rfl)
set_option maxRecDepth 100000 in
theorem pp613 : Cond.codeWith yL_parse cL_parse 5 (some .int) [(0, 10, 13, 19)] ∈ pp_ws := List.mem_append_left _ (List.mem_of_getElem? (i := 613) rfl)
set_option maxRecDepth 100000 in
theorem pp614 : Cond.methodLink RL 144 yL_parse ∈ pp_ws := List.mem_append_left _ (List.mem_of_getElem? (i := 614) rfl)
set_option maxRecDepth 100000 in
theorem pp615 : Cond.static yL_parse ∈ pp_ws := List.mem_append_left _ (List.mem_of_getElem? (i := 615) rfl)
set_option maxRecDepth 100000 in
theorem pp616 : Cond.code yX13_parse cX13_parse 3 (some .int) ∈ pp_ws := List.mem_append_left _ (List.mem_of_getElem? (i := 616) rfl)
set_option maxRecDepth 100000 in
theorem pp617 : Cond.methodLink RL 146 yX13_parse ∈ pp_ws := List.mem_append_left _ (List.mem_of_getElem? (i := 617) rfl)
set_option maxRecDepth 100000 in
theorem pp618 : Cond.instanceMethod yX13_parse ∈ pp_ws := List.mem_append_left _ (List.mem_of_getElem? (i := 618) rfl)
set_option maxRecDepth 100000 in
theorem pp619 : Cond.selects RX13 yX13_parse yX13_parse ∈ pp_ws := List.mem_append_left _ (List.mem_of_getElem? (i := 619) rfl)
set_option maxRecDepth 100000 in
theorem pp620 : Cond.code yX12_trees cX12_trees 1 (some .long) ∈ pp_ws := List.mem_append_left _ (List.mem_of_getElem? (i := 620) rfl)
set_option maxRecDepth 100000 in
theorem pp621 : Cond.methodLink RL 147 yX12_trees ∈ pp_ws := List.mem_append_left _ (List.mem_of_getElem? (i := 621) rfl)
set_option maxRecDepth 100000 in
theorem pp622 : Cond.instanceMethod yX12_trees ∈ pp_ws := List.mem_append_left _ (List.mem_of_getElem? (i := 622) rfl)
set_option maxRecDepth 100000 in
theorem pp623 : Cond.selects RX12 yX12_trees yX12_trees ∈ pp_ws := List.mem_append_left _ (List.mem_of_getElem? (i := 623) rfl)
set_option maxRecDepth 100000 in
theorem pp624 : Cond.code yX13_trees cX13_trees 1 (some .long) ∈ pp_ws := List.mem_append_left _ (List.mem_of_getElem? (i := 624) rfl)
set_option maxRecDepth 100000 in
theorem pp625 : Cond.methodLink RL 151 yX13_trees ∈ pp_ws := List.mem_append_left _ (List.mem_of_getElem? (i := 625) rfl)
set_option maxRecDepth 100000 in
theorem pp626 : Cond.instanceMethod yX13_trees ∈ pp_ws := List.mem_append_left _ (List.mem_of_getElem? (i := 626) rfl)
set_option maxRecDepth 100000 in
theorem pp627 : Cond.selects RX13 yX13_trees yX13_trees ∈ pp_ws := List.mem_append_left _ (List.mem_of_getElem? (i := 627) rfl)
set_option maxRecDepth 100000 in
theorem pp628 : Cond.codeWith yL_bar cL_bar 5 (some .int) [(0, 9, 12, 19)] ∈ pp_ws := List.mem_append_left _ (List.mem_of_getElem? (i := 628) rfl)
set_option maxRecDepth 100000 in
theorem pp629 : Cond.methodLink RL 152 yL_bar ∈ pp_ws := List.mem_append_left _ (List.mem_of_getElem? (i := 629) rfl)
set_option maxRecDepth 100000 in
theorem pp630 : Cond.static yL_bar ∈ pp_ws := List.mem_append_left _ (List.mem_of_getElem? (i := 630) rfl)
set_option maxRecDepth 100000 in
theorem pp631 : Cond.code yX13_bar cX13_bar 3 (some .long) ∈ pp_ws := List.mem_append_left _ (List.mem_of_getElem? (i := 631) rfl)
set_option maxRecDepth 100000 in
theorem pp632 : Cond.methodLink RL 155 yX13_bar ∈ pp_ws := List.mem_append_left _ (List.mem_of_getElem? (i := 632) rfl)
set_option maxRecDepth 100000 in
theorem pp633 : Cond.instanceMethod yX13_bar ∈ pp_ws := List.mem_append_left _ (List.mem_of_getElem? (i := 633) rfl)
set_option maxRecDepth 100000 in
theorem pp634 : Cond.selects RX13 yX13_bar yX13_bar ∈ pp_ws := List.mem_append_left _ (List.mem_of_getElem? (i := 634) rfl)
set_option maxRecDepth 100000 in
theorem pp635 : Cond.code yX12_price cX12_price 2 (some .int) ∈ pp_ws := List.mem_append_left _ (List.mem_of_getElem? (i := 635) rfl)
set_option maxRecDepth 100000 in
theorem pp636 : Cond.methodLink RL 156 yX12_price ∈ pp_ws := List.mem_append_left _ (List.mem_of_getElem? (i := 636) rfl)
set_option maxRecDepth 100000 in
theorem pp637 : Cond.instanceMethod yX12_price ∈ pp_ws := List.mem_append_left _ (List.mem_of_getElem? (i := 637) rfl)
set_option maxRecDepth 100000 in
theorem pp638 : Cond.selects RX12 yX12_price yX12_price ∈ pp_ws := List.mem_append_left _ (List.mem_of_getElem? (i := 638) rfl)
set_option maxRecDepth 100000 in
theorem pp639 : Cond.code yX13_price cX13_price 2 (some .int) ∈ pp_ws := List.mem_append_left _ (List.mem_of_getElem? (i := 639) rfl)
set_option maxRecDepth 100000 in
theorem pp640 : Cond.methodLink RL 159 yX13_price ∈ pp_ws := List.mem_append_left _ (List.mem_of_getElem? (i := 640) rfl)
set_option maxRecDepth 100000 in
theorem pp641 : Cond.instanceMethod yX13_price ∈ pp_ws := List.mem_append_left _ (List.mem_of_getElem? (i := 641) rfl)
set_option maxRecDepth 100000 in
theorem pp642 : Cond.selects RX13 yX13_price yX13_price ∈ pp_ws := List.mem_append_left _ (List.mem_of_getElem? (i := 642) rfl)
set_option maxRecDepth 100000 in
theorem pp643 : Cond.codeWith yL_reading cL_reading 5 (some .int) [(0, 10, 13, 19)] ∈ pp_ws := List.mem_append_left _ (List.mem_of_getElem? (i := 643) rfl)
set_option maxRecDepth 100000 in
theorem pp644 : Cond.methodLink RL 160 yL_reading ∈ pp_ws := List.mem_append_left _ (List.mem_of_getElem? (i := 644) rfl)
set_option maxRecDepth 100000 in
theorem pp645 : Cond.static yL_reading ∈ pp_ws := List.mem_append_left _ (List.mem_of_getElem? (i := 645) rfl)
set_option maxRecDepth 100000 in
theorem pp646 : Cond.code yX13_reading cX13_reading 4 (some .int) ∈ pp_ws := List.mem_append_left _ (List.mem_of_getElem? (i := 646) rfl)
set_option maxRecDepth 100000 in
theorem pp647 : Cond.methodLink RL 162 yX13_reading ∈ pp_ws := List.mem_append_left _ (List.mem_of_getElem? (i := 647) rfl)
set_option maxRecDepth 100000 in
theorem pp648 : Cond.instanceMethod yX13_reading ∈ pp_ws := List.mem_append_left _ (List.mem_of_getElem? (i := 648) rfl)
set_option maxRecDepth 100000 in
theorem pp649 : Cond.selects RX13 yX13_reading yX13_reading ∈ pp_ws := List.mem_append_left _ (List.mem_of_getElem? (i := 649) rfl)
set_option maxRecDepth 100000 in
theorem pp650 : Cond.codeWith yL_tree cL_tree 4 (some .int) [(0, 9, 12, 19)] ∈ pp_ws := List.mem_append_left _ (List.mem_of_getElem? (i := 650) rfl)
set_option maxRecDepth 100000 in
theorem pp651 : Cond.methodLink RL 163 yL_tree ∈ pp_ws := List.mem_append_left _ (List.mem_of_getElem? (i := 651) rfl)
set_option maxRecDepth 100000 in
theorem pp652 : Cond.static yL_tree ∈ pp_ws := List.mem_append_left _ (List.mem_of_getElem? (i := 652) rfl)
set_option maxRecDepth 100000 in
theorem pp653 : Cond.code yX13_tree cX13_tree 3 (some .int) ∈ pp_ws := List.mem_append_left _ (List.mem_of_getElem? (i := 653) rfl)
set_option maxRecDepth 100000 in
theorem pp654 : Cond.methodLink RL 165 yX13_tree ∈ pp_ws := List.mem_append_left _ (List.mem_of_getElem? (i := 654) rfl)
set_option maxRecDepth 100000 in
theorem pp655 : Cond.instanceMethod yX13_tree ∈ pp_ws := List.mem_append_left _ (List.mem_of_getElem? (i := 655) rfl)
set_option maxRecDepth 100000 in
theorem pp656 : Cond.selects RX13 yX13_tree yX13_tree ∈ pp_ws := List.mem_append_left _ (List.mem_of_getElem? (i := 656) rfl)
set_option maxRecDepth 100000 in
theorem pp657 : Cond.codeWith yL_show cL_show 4 (some .int) [(0, 9, 12, 19)] ∈ pp_ws := List.mem_append_left _ (List.mem_of_getElem? (i := 657) rfl)
set_option maxRecDepth 100000 in
theorem pp658 : Cond.methodLink RL 166 yL_show ∈ pp_ws := List.mem_append_left _ (List.mem_of_getElem? (i := 658) rfl)
set_option maxRecDepth 100000 in
theorem pp659 : Cond.static yL_show ∈ pp_ws := List.mem_append_left _ (List.mem_of_getElem? (i := 659) rfl)
set_option maxRecDepth 100000 in
theorem pp660 : Cond.code yX13_show cX13_show 2 (some .int) ∈ pp_ws := List.mem_append_left _ (List.mem_of_getElem? (i := 660) rfl)
set_option maxRecDepth 100000 in
theorem pp661 : Cond.methodLink RL 168 yX13_show ∈ pp_ws := List.mem_append_left _ (List.mem_of_getElem? (i := 661) rfl)
set_option maxRecDepth 100000 in
theorem pp662 : Cond.instanceMethod yX13_show ∈ pp_ws := List.mem_append_left _ (List.mem_of_getElem? (i := 662) rfl)
set_option maxRecDepth 100000 in
theorem pp663 : Cond.selects RX13 yX13_show yX13_show ∈ pp_ws := List.mem_append_left _ (List.mem_of_getElem? (i := 663) rfl)
set_option maxRecDepth 100000 in
theorem pp664 : Cond.codeWith yL_same cL_same 5 (some .int) [(0, 17, 20, 19)] ∈ pp_ws := List.mem_append_left _ (List.mem_of_getElem? (i := 664) rfl)
set_option maxRecDepth 100000 in
theorem pp665 : Cond.methodLink RL 169 yL_same ∈ pp_ws := List.mem_append_left _ (List.mem_of_getElem? (i := 665) rfl)
set_option maxRecDepth 100000 in
theorem pp666 : Cond.static yL_same ∈ pp_ws := List.mem_append_left _ (List.mem_of_getElem? (i := 666) rfl)
set_option maxRecDepth 100000 in
theorem pp667 : Cond.code yX13_same cX13_same 4 (some .boolean) ∈ pp_ws := List.mem_append_left _ (List.mem_of_getElem? (i := 667) rfl)
set_option maxRecDepth 100000 in
theorem pp668 : Cond.methodLink RL 171 yX13_same ∈ pp_ws := List.mem_append_left _ (List.mem_of_getElem? (i := 668) rfl)
set_option maxRecDepth 100000 in
theorem pp669 : Cond.instanceMethod yX13_same ∈ pp_ws := List.mem_append_left _ (List.mem_of_getElem? (i := 669) rfl)
set_option maxRecDepth 100000 in
theorem pp670 : Cond.selects RX13 yX13_same yX13_same ∈ pp_ws := List.mem_append_left _ (List.mem_of_getElem? (i := 670) rfl)
set_option maxRecDepth 100000 in
theorem pp671 : Cond.codeWith yL_say cL_say 6 (some .int) [(0, 12, 15, 19)] ∈ pp_ws := List.mem_append_left _ (List.mem_of_getElem? (i := 671) rfl)
set_option maxRecDepth 100000 in
theorem pp672 : Cond.methodLink RL 172 yL_say ∈ pp_ws := List.mem_append_left _ (List.mem_of_getElem? (i := 672) rfl)
set_option maxRecDepth 100000 in
theorem pp673 : Cond.static yL_say ∈ pp_ws := List.mem_append_left _ (List.mem_of_getElem? (i := 673) rfl)
set_option maxRecDepth 100000 in
theorem pp674 : Cond.code yX13_say cX13_say 6 (some .int) ∈ pp_ws := List.mem_append_left _ (List.mem_of_getElem? (i := 674) rfl)
set_option maxRecDepth 100000 in
theorem pp675 : Cond.methodLink RL 174 yX13_say ∈ pp_ws := List.mem_append_left _ (List.mem_of_getElem? (i := 675) rfl)
set_option maxRecDepth 100000 in
theorem pp676 : Cond.instanceMethod yX13_say ∈ pp_ws := List.mem_append_left _ (List.mem_of_getElem? (i := 676) rfl)
set_option maxRecDepth 100000 in
theorem pp677 : Cond.selects RX13 yX13_say yX13_say ∈ pp_ws := List.mem_append_left _ (List.mem_of_getElem? (i := 677) rfl)
set_option maxRecDepth 100000 in
theorem pp678 : Cond.codeWith yL_mean cL_mean 4 (some .int) [(0, 9, 12, 19)] ∈ pp_ws := List.mem_append_left _ (List.mem_of_getElem? (i := 678) rfl)
set_option maxRecDepth 100000 in
theorem pp679 : Cond.methodLink RL 175 yL_mean ∈ pp_ws := List.mem_append_left _ (List.mem_of_getElem? (i := 679) rfl)
set_option maxRecDepth 100000 in
theorem pp680 : Cond.static yL_mean ∈ pp_ws := List.mem_append_left _ (List.mem_of_getElem? (i := 680) rfl)
set_option maxRecDepth 100000 in
theorem pp681 : Cond.code yX13_mean_ cX13_mean_ 3 (some .int) ∈ pp_ws := List.mem_append_left _ (List.mem_of_getElem? (i := 681) rfl)
set_option maxRecDepth 100000 in
theorem pp682 : Cond.methodLink RL 177 yX13_mean_ ∈ pp_ws := List.mem_append_left _ (List.mem_of_getElem? (i := 682) rfl)
set_option maxRecDepth 100000 in
theorem pp683 : Cond.instanceMethod yX13_mean_ ∈ pp_ws := List.mem_append_left _ (List.mem_of_getElem? (i := 683) rfl)
set_option maxRecDepth 100000 in
theorem pp684 : Cond.selects RX13 yX13_mean_ yX13_mean_ ∈ pp_ws := List.mem_append_left _ (List.mem_of_getElem? (i := 684) rfl)
set_option maxRecDepth 100000 in
theorem pp685 : Cond.codeWith yL_truth cL_truth 4 (some .int) [(0, 9, 12, 19)] ∈ pp_ws := List.mem_append_left _ (List.mem_of_getElem? (i := 685) rfl)
set_option maxRecDepth 100000 in
theorem pp686 : Cond.methodLink RL 178 yL_truth ∈ pp_ws := List.mem_append_left _ (List.mem_of_getElem? (i := 686) rfl)
set_option maxRecDepth 100000 in
theorem pp687 : Cond.static yL_truth ∈ pp_ws := List.mem_append_left _ (List.mem_of_getElem? (i := 687) rfl)
set_option maxRecDepth 100000 in
theorem pp688 : Cond.code yX13_truth cX13_truth 3 (some .int) ∈ pp_ws := List.mem_append_left _ (List.mem_of_getElem? (i := 688) rfl)
set_option maxRecDepth 100000 in
theorem pp689 : Cond.methodLink RL 180 yX13_truth ∈ pp_ws := List.mem_append_left _ (List.mem_of_getElem? (i := 689) rfl)
set_option maxRecDepth 100000 in
theorem pp690 : Cond.instanceMethod yX13_truth ∈ pp_ws := List.mem_append_left _ (List.mem_of_getElem? (i := 690) rfl)
set_option maxRecDepth 100000 in
theorem pp691 : Cond.selects RX13 yX13_truth yX13_truth ∈ pp_ws := List.mem_append_left _ (List.mem_of_getElem? (i := 691) rfl)
set_option maxRecDepth 100000 in
theorem pp692 : Cond.codeWith yL_swap cL_swap 6 (some .int) [(0, 12, 15, 19)] ∈ pp_ws := List.mem_append_left _ (List.mem_of_getElem? (i := 692) rfl)
set_option maxRecDepth 100000 in
theorem pp693 : Cond.methodLink RL 181 yL_swap ∈ pp_ws := List.mem_append_left _ (List.mem_of_getElem? (i := 693) rfl)
set_option maxRecDepth 100000 in
theorem pp694 : Cond.static yL_swap ∈ pp_ws := List.mem_append_left _ (List.mem_of_getElem? (i := 694) rfl)
set_option maxRecDepth 100000 in
theorem pp695 : Cond.code yX13_swap cX13_swap 9 (some .int) ∈ pp_ws := List.mem_append_left _ (List.mem_of_getElem? (i := 695) rfl)
set_option maxRecDepth 100000 in
theorem pp696 : Cond.methodLink RL 183 yX13_swap ∈ pp_ws := List.mem_append_left _ (List.mem_of_getElem? (i := 696) rfl)
set_option maxRecDepth 100000 in
theorem pp697 : Cond.instanceMethod yX13_swap ∈ pp_ws := List.mem_append_left _ (List.mem_of_getElem? (i := 697) rfl)
set_option maxRecDepth 100000 in
theorem pp698 : Cond.selects RX13 yX13_swap yX13_swap ∈ pp_ws := List.mem_append_left _ (List.mem_of_getElem? (i := 698) rfl)
set_option maxRecDepth 100000 in
theorem pp699 : Cond.code yX12_candidate cX12_candidate 2 (some .int) ∈ pp_ws := List.mem_append_left _ (List.mem_of_getElem? (i := 699) rfl)
set_option maxRecDepth 100000 in
theorem pp700 : Cond.methodLink RL 184 yX12_candidate ∈ pp_ws := List.mem_append_left _ (List.mem_of_getElem? (i := 700) rfl)
set_option maxRecDepth 100000 in
theorem pp701 : Cond.instanceMethod yX12_candidate ∈ pp_ws := List.mem_append_left _ (List.mem_of_getElem? (i := 701) rfl)
set_option maxRecDepth 100000 in
theorem pp702 : Cond.selects RX12 yX12_candidate yX12_candidate ∈ pp_ws := List.mem_append_left _ (List.mem_of_getElem? (i := 702) rfl)
set_option maxRecDepth 100000 in
theorem pp703 : Cond.code yX13_candidate cX13_candidate 3 (some .int) ∈ pp_ws := List.mem_append_left _ (List.mem_of_getElem? (i := 703) rfl)
set_option maxRecDepth 100000 in
theorem pp704 : Cond.methodLink RL 187 yX13_candidate ∈ pp_ws := List.mem_append_left _ (List.mem_of_getElem? (i := 704) rfl)
set_option maxRecDepth 100000 in
theorem pp705 : Cond.instanceMethod yX13_candidate ∈ pp_ws := List.mem_append_left _ (List.mem_of_getElem? (i := 705) rfl)
set_option maxRecDepth 100000 in
theorem pp706 : Cond.selects RX13 yX13_candidate yX13_candidate ∈ pp_ws := List.mem_append_left _ (List.mem_of_getElem? (i := 706) rfl)
set_option maxRecDepth 100000 in
theorem pp707 : Cond.codeWith yL_add cL_add 4 (some .int) [(0, 9, 12, 19), (0, 9, 15, 13)] ∈ pp_ws := List.mem_append_left _ (List.mem_of_getElem? (i := 707) rfl)
set_option maxRecDepth 100000 in
theorem pp708 : Cond.methodLink RL 188 yL_add ∈ pp_ws := List.mem_append_left _ (List.mem_of_getElem? (i := 708) rfl)
set_option maxRecDepth 100000 in
theorem pp709 : Cond.static yL_add ∈ pp_ws := List.mem_append_left _ (List.mem_of_getElem? (i := 709) rfl)
set_option maxRecDepth 100000 in
theorem pp710 : Cond.code yX13_add cX13_add 4 (some .int) ∈ pp_ws := List.mem_append_left _ (List.mem_of_getElem? (i := 710) rfl)
set_option maxRecDepth 100000 in
theorem pp711 : Cond.methodLink RL 190 yX13_add ∈ pp_ws := List.mem_append_left _ (List.mem_of_getElem? (i := 711) rfl)
set_option maxRecDepth 100000 in
theorem pp712 : Cond.instanceMethod yX13_add ∈ pp_ws := List.mem_append_left _ (List.mem_of_getElem? (i := 712) rfl)
set_option maxRecDepth 100000 in
theorem pp713 : Cond.selects RX13 yX13_add yX13_add ∈ pp_ws := List.mem_append_left _ (List.mem_of_getElem? (i := 713) rfl)
set_option maxRecDepth 100000 in
theorem pp714 : Cond.codeWith yL_ask cL_ask 4 (some .int) [(0, 9, 12, 19)] ∈ pp_ws := List.mem_append_left _ (List.mem_of_getElem? (i := 714) rfl)
set_option maxRecDepth 100000 in
theorem pp715 : Cond.methodLink RL 191 yL_ask ∈ pp_ws := List.mem_append_left _ (List.mem_of_getElem? (i := 715) rfl)
set_option maxRecDepth 100000 in
theorem pp716 : Cond.static yL_ask ∈ pp_ws := List.mem_append_left _ (List.mem_of_getElem? (i := 716) rfl)
set_option maxRecDepth 100000 in
theorem pp717 : Cond.code yX13_ask cX13_ask 7 (some .int) ∈ pp_ws := List.mem_append_left _ (List.mem_of_getElem? (i := 717) rfl)
set_option maxRecDepth 100000 in
theorem pp718 : Cond.methodLink RL 193 yX13_ask ∈ pp_ws := List.mem_append_left _ (List.mem_of_getElem? (i := 718) rfl)
set_option maxRecDepth 100000 in
theorem pp719 : Cond.instanceMethod yX13_ask ∈ pp_ws := List.mem_append_left _ (List.mem_of_getElem? (i := 719) rfl)
set_option maxRecDepth 100000 in
theorem pp720 : Cond.selects RX13 yX13_ask yX13_ask ∈ pp_ws := List.mem_append_left _ (List.mem_of_getElem? (i := 720) rfl)
set_option maxRecDepth 100000 in
theorem pp721 : Cond.codeWith yL_hit cL_hit 5 (some .int) [(0, 10, 13, 19)] ∈ pp_ws := List.mem_append_left _ (List.mem_of_getElem? (i := 721) rfl)
set_option maxRecDepth 100000 in
theorem pp722 : Cond.methodLink RL 194 yL_hit ∈ pp_ws := List.mem_append_left _ (List.mem_of_getElem? (i := 722) rfl)
set_option maxRecDepth 100000 in
theorem pp723 : Cond.static yL_hit ∈ pp_ws := List.mem_append_left _ (List.mem_of_getElem? (i := 723) rfl)
set_option maxRecDepth 100000 in
theorem pp724 : Cond.code yX13_hit cX13_hit 3 (some .int) ∈ pp_ws := List.mem_append_left _ (List.mem_of_getElem? (i := 724) rfl)
set_option maxRecDepth 100000 in
theorem pp725 : Cond.methodLink RL 196 yX13_hit ∈ pp_ws := List.mem_append_left _ (List.mem_of_getElem? (i := 725) rfl)
set_option maxRecDepth 100000 in
theorem pp726 : Cond.instanceMethod yX13_hit ∈ pp_ws := List.mem_append_left _ (List.mem_of_getElem? (i := 726) rfl)
set_option maxRecDepth 100000 in
theorem pp727 : Cond.selects RX13 yX13_hit yX13_hit ∈ pp_ws := List.mem_append_left _ (List.mem_of_getElem? (i := 727) rfl)
set_option maxRecDepth 100000 in
theorem pp728 : Cond.codeWith yL_mend cL_mend 5 (some .int) [(0, 10, 13, 19)] ∈ pp_ws := List.mem_append_left _ (List.mem_of_getElem? (i := 728) rfl)
set_option maxRecDepth 100000 in
theorem pp729 : Cond.methodLink RL 197 yL_mend ∈ pp_ws := List.mem_append_left _ (List.mem_of_getElem? (i := 729) rfl)
set_option maxRecDepth 100000 in
theorem pp730 : Cond.static yL_mend ∈ pp_ws := List.mem_append_left _ (List.mem_of_getElem? (i := 730) rfl)
set_option maxRecDepth 100000 in
theorem pp731 : Cond.code yX13_mend cX13_mend 4 (some .int) ∈ pp_ws := List.mem_append_left _ (List.mem_of_getElem? (i := 731) rfl)
set_option maxRecDepth 100000 in
theorem pp732 : Cond.methodLink RL 199 yX13_mend ∈ pp_ws := List.mem_append_left _ (List.mem_of_getElem? (i := 732) rfl)
set_option maxRecDepth 100000 in
theorem pp733 : Cond.instanceMethod yX13_mend ∈ pp_ws := List.mem_append_left _ (List.mem_of_getElem? (i := 733) rfl)
set_option maxRecDepth 100000 in
theorem pp734 : Cond.selects RX13 yX13_mend yX13_mend ∈ pp_ws := List.mem_append_left _ (List.mem_of_getElem? (i := 734) rfl)
set_option maxRecDepth 100000 in
theorem pp735 : Cond.codeWith yL_count cL_count 5 (some .int) [(0, 10, 13, 19)] ∈ pp_ws := List.mem_append_left _ (List.mem_of_getElem? (i := 735) rfl)
set_option maxRecDepth 100000 in
theorem pp736 : Cond.methodLink RL 200 yL_count ∈ pp_ws := List.mem_append_left _ (List.mem_of_getElem? (i := 736) rfl)
set_option maxRecDepth 100000 in
theorem pp737 : Cond.static yL_count ∈ pp_ws := List.mem_append_left _ (List.mem_of_getElem? (i := 737) rfl)
set_option maxRecDepth 100000 in
theorem pp738 : Cond.code yX13_count cX13_count 3 (some .int) ∈ pp_ws := List.mem_append_left _ (List.mem_of_getElem? (i := 738) rfl)
set_option maxRecDepth 100000 in
theorem pp739 : Cond.methodLink RL 202 yX13_count ∈ pp_ws := List.mem_append_left _ (List.mem_of_getElem? (i := 739) rfl)
set_option maxRecDepth 100000 in
theorem pp740 : Cond.instanceMethod yX13_count ∈ pp_ws := List.mem_append_left _ (List.mem_of_getElem? (i := 740) rfl)
set_option maxRecDepth 100000 in
theorem pp741 : Cond.selects RX13 yX13_count yX13_count ∈ pp_ws := List.mem_append_left _ (List.mem_of_getElem? (i := 741) rfl)
theorem pi_at : ∀ w ∈ px_atI.filter goodWord, w ∈ pp_ws := fun _ h => List.mem_append_right _ (List.mem_append_left _ h)
theorem pi0 : ∀ w ∈ u_ws RX0 TX0 22, w ∈ pp_ws := fun _ h => List.mem_append_right _ (List.mem_append_right _ (List.mem_append_left _ h))
theorem pu0 : (u_ws RX0 TX0 22).all goodWord = true := by decide +kernel
theorem pi1 : ∀ w ∈ u_ws RX1 TX1 19, w ∈ pp_ws := fun _ h => List.mem_append_right _ (List.mem_append_right _ (List.mem_append_right _ (List.mem_append_left _ h)))
theorem pu1 : (u_ws RX1 TX1 19).all goodWord = true := by decide +kernel
theorem pi4 : ∀ w ∈ u_ws RX4 TX4 2, w ∈ pp_ws := fun _ h => List.mem_append_right _ (List.mem_append_right _ (List.mem_append_right _ (List.mem_append_right _ (List.mem_append_left _ h))))
theorem pu4 : (u_ws RX4 TX4 2).all goodWord = true := by decide +kernel
theorem pi5 : ∀ w ∈ u_ws RX5 TX5 19, w ∈ pp_ws := fun _ h => List.mem_append_right _ (List.mem_append_right _ (List.mem_append_right _ (List.mem_append_right _ (List.mem_append_right _ (List.mem_append_left _ h)))))
theorem pu5 : (u_ws RX5 TX5 19).all goodWord = true := by decide +kernel
theorem pi6 : ∀ w ∈ u_ws RX6 TX6 19, w ∈ pp_ws := fun _ h => List.mem_append_right _ (List.mem_append_right _ (List.mem_append_right _ (List.mem_append_right _ (List.mem_append_right _ (List.mem_append_right _ (List.mem_append_left _ h))))))
theorem pu6 : (u_ws RX6 TX6 19).all goodWord = true := by decide +kernel
theorem pi8 : ∀ w ∈ u_ws RX8 TX8 21, w ∈ pp_ws := fun _ h => List.mem_append_right _ (List.mem_append_right _ (List.mem_append_right _ (List.mem_append_right _ (List.mem_append_right _ (List.mem_append_right _ (List.mem_append_right _ (List.mem_append_left _ h)))))))
theorem pu8 : (u_ws RX8 TX8 21).all goodWord = true := by decide +kernel
theorem pi9 : ∀ w ∈ u_ws RX9 TX9 10, w ∈ pp_ws := fun _ h => List.mem_append_right _ (List.mem_append_right _ (List.mem_append_right _ (List.mem_append_right _ (List.mem_append_right _ (List.mem_append_right _ (List.mem_append_right _ (List.mem_append_right _ (List.mem_append_left _ h))))))))
theorem pu9 : (u_ws RX9 TX9 10).all goodWord = true := by decide +kernel
theorem pi12 : ∀ w ∈ u_ws RX12 TX12 17, w ∈ pp_ws := fun _ h => List.mem_append_right _ (List.mem_append_right _ (List.mem_append_right _ (List.mem_append_right _ (List.mem_append_right _ (List.mem_append_right _ (List.mem_append_right _ (List.mem_append_right _ (List.mem_append_right _ (List.mem_append_left _ h)))))))))
theorem pu12 : (u_ws RX12 TX12 17).all goodWord = true := by decide +kernel
theorem pi13 : ∀ w ∈ u_ws RX13 TX13 229, w ∈ pp_ws := fun _ h => List.mem_append_right _ (List.mem_append_right _ (List.mem_append_right _ (List.mem_append_right _ (List.mem_append_right _ (List.mem_append_right _ (List.mem_append_right _ (List.mem_append_right _ (List.mem_append_right _ (List.mem_append_right _ (h))))))))))
theorem pu13 : (u_ws RX13 TX13 229).all goodWord = true := by decide +kernel
theorem pp_good : ∀ w ∈ pp_ws, goodWord w = true := fun w h => by
  rcases List.mem_append.mp h with h | h
  · exact List.all_eq_true.mp pp_w0_good w h
  rcases List.mem_append.mp h with h | h
  · exact (List.mem_filter.mp h).2
  rcases List.mem_append.mp h with h | h
  · exact List.all_eq_true.mp pu0 w h
  rcases List.mem_append.mp h with h | h
  · exact List.all_eq_true.mp pu1 w h
  rcases List.mem_append.mp h with h | h
  · exact List.all_eq_true.mp pu4 w h
  rcases List.mem_append.mp h with h | h
  · exact List.all_eq_true.mp pu5 w h
  rcases List.mem_append.mp h with h | h
  · exact List.all_eq_true.mp pu6 w h
  rcases List.mem_append.mp h with h | h
  · exact List.all_eq_true.mp pu8 w h
  rcases List.mem_append.mp h with h | h
  · exact List.all_eq_true.mp pu9 w h
  rcases List.mem_append.mp h with h | h
  · exact List.all_eq_true.mp pu12 w h
  exact List.all_eq_true.mp pu13 w h
theorem pp_gV {c0 c1 : Cond} {own C : String} {index : Nat} {y : MethodName} (h0 : c1 ∈ pp_ws) (h1 : Cond.methodLink own index y ∈ pp_ws) (h2 : Cond.instanceMethod y ∈ pp_ws) (h3 : Cond.selects C y y ∈ pp_ws) (h4 : Cond.initialized C ∈ pp_ws) : GoodIn (c0 :: pp_ws) (wsV own index C y (c1 :: pp_ws)) := fun w hw => by
  have h9 : w ∈ pp_ws := by
    rcases List.mem_append.mp hw with hw | hw
    · rcases List.mem_cons.mp hw with rfl | hw
      · exact h1
      rcases List.mem_cons.mp hw with rfl | hw
      · exact h2
      rcases List.mem_cons.mp hw with rfl | hw
      · exact h3
      rcases List.mem_cons.mp hw with rfl | hw
      · exact h4
      exact absurd hw List.not_mem_nil
    · rcases List.mem_cons.mp hw with rfl | hw
      · exact h0
      · exact hw
  exact ⟨List.mem_cons_of_mem _ h9, good_of_word (pp_good w h9)⟩
theorem pp_gS {c0 c1 : Cond} {own : String} {index : Nat} {y : MethodName} (h0 : c1 ∈ pp_ws) (h1 : Cond.methodLink own index y ∈ pp_ws) (h2 : Cond.static y ∈ pp_ws) (h3 : Cond.initialized y.cls ∈ pp_ws) : GoodIn (c0 :: pp_ws) (va_wsS own index y (c1 :: pp_ws)) := fun w hw => by
  have h9 : w ∈ pp_ws := by
    rcases List.mem_append.mp hw with hw | hw
    · rcases List.mem_cons.mp hw with rfl | hw
      · exact h1
      rcases List.mem_cons.mp hw with rfl | hw
      · exact h2
      rcases List.mem_cons.mp hw with rfl | hw
      · exact h3
      exact absurd hw List.not_mem_nil
    · rcases List.mem_cons.mp hw with rfl | hw
      · exact h0
      · exact hw
  exact ⟨List.mem_cons_of_mem _ h9, good_of_word (pp_good w h9)⟩
theorem pd_J0_charAt_5068e : yJ0_charAt_5068e.cls = RJ0 ∧ yJ0_charAt_5068e.cls ≠ "java/lang/invoke/MethodHandle" ∧ yJ0_charAt_5068e.cls ≠ "java/lang/invoke/VarHandle" ∧ (parseMethodDescriptor yJ0_charAt_5068e.desc).map (fun d => d.parameters.length) = some 1 := by decide +kernel
theorem pd_J0_checkIndex_df160 : yJ0_checkIndex_df160.cls ≠ "java/lang/invoke/MethodHandle" ∧ yJ0_checkIndex_df160.cls ≠ "java/lang/invoke/VarHandle" ∧ (parseMethodDescriptor yJ0_checkIndex_df160.desc).map (fun d => d.parameters.length) = some 2 := by decide +kernel
theorem pd_J0_coder_7d493 : yJ0_coder_7d493.cls = RJ0 ∧ yJ0_coder_7d493.cls ≠ "java/lang/invoke/MethodHandle" ∧ yJ0_coder_7d493.cls ≠ "java/lang/invoke/VarHandle" ∧ (parseMethodDescriptor yJ0_coder_7d493.desc).map (fun d => d.parameters.length) = some 0 := by decide +kernel
theorem pd_J0_isLatin1_aae02 : yJ0_isLatin1_aae02.cls = RJ0 ∧ yJ0_isLatin1_aae02.cls ≠ "java/lang/invoke/MethodHandle" ∧ yJ0_isLatin1_aae02.cls ≠ "java/lang/invoke/VarHandle" ∧ (parseMethodDescriptor yJ0_isLatin1_aae02.desc).map (fun d => d.parameters.length) = some 0 := by decide +kernel
theorem pd_J0_length_8abf5 : yJ0_length_8abf5.cls = RJ0 ∧ yJ0_length_8abf5.cls ≠ "java/lang/invoke/MethodHandle" ∧ yJ0_length_8abf5.cls ≠ "java/lang/invoke/VarHandle" ∧ (parseMethodDescriptor yJ0_length_8abf5.desc).map (fun d => d.parameters.length) = some 0 := by decide +kernel
theorem pd_J1_charAt_3b067 : yJ1_charAt_3b067.cls ≠ "java/lang/invoke/MethodHandle" ∧ yJ1_charAt_3b067.cls ≠ "java/lang/invoke/VarHandle" ∧ (parseMethodDescriptor yJ1_charAt_3b067.desc).map (fun d => d.parameters.length) = some 2 := by decide +kernel
theorem pd_J3_checkIndex_8e157 : yJ3_checkIndex_8e157.cls ≠ "java/lang/invoke/MethodHandle" ∧ yJ3_checkIndex_8e157.cls ≠ "java/lang/invoke/VarHandle" ∧ (parseMethodDescriptor yJ3_checkIndex_8e157.desc).map (fun d => d.parameters.length) = some 3 := by decide +kernel
theorem pd_L_add : yL_add.cls ≠ "java/lang/invoke/MethodHandle" ∧ yL_add.cls ≠ "java/lang/invoke/VarHandle" ∧ (parseMethodDescriptor yL_add.desc).map (fun d => d.parameters.length) = some 3 := by decide +kernel
theorem pd_L_analyse : yL_analyse.cls ≠ "java/lang/invoke/MethodHandle" ∧ yL_analyse.cls ≠ "java/lang/invoke/VarHandle" ∧ (parseMethodDescriptor yL_analyse.desc).map (fun d => d.parameters.length) = some 3 := by decide +kernel
theorem pd_L_analysis : yL_analysis.cls ≠ "java/lang/invoke/MethodHandle" ∧ yL_analysis.cls ≠ "java/lang/invoke/VarHandle" ∧ (parseMethodDescriptor yL_analysis.desc).map (fun d => d.parameters.length) = some 4 := by decide +kernel
theorem pd_L_ask : yL_ask.cls ≠ "java/lang/invoke/MethodHandle" ∧ yL_ask.cls ≠ "java/lang/invoke/VarHandle" ∧ (parseMethodDescriptor yL_ask.desc).map (fun d => d.parameters.length) = some 3 := by decide +kernel
theorem pd_L_bar : yL_bar.cls ≠ "java/lang/invoke/MethodHandle" ∧ yL_bar.cls ≠ "java/lang/invoke/VarHandle" ∧ (parseMethodDescriptor yL_bar.desc).map (fun d => d.parameters.length) = some 4 := by decide +kernel
theorem pd_L_cell : yL_cell.cls ≠ "java/lang/invoke/MethodHandle" ∧ yL_cell.cls ≠ "java/lang/invoke/VarHandle" ∧ (parseMethodDescriptor yL_cell.desc).map (fun d => d.parameters.length) = some 5 := by decide +kernel
theorem pd_L_count : yL_count.cls ≠ "java/lang/invoke/MethodHandle" ∧ yL_count.cls ≠ "java/lang/invoke/VarHandle" ∧ (parseMethodDescriptor yL_count.desc).map (fun d => d.parameters.length) = some 4 := by decide +kernel
theorem pd_L_end : yL_end.cls ≠ "java/lang/invoke/MethodHandle" ∧ yL_end.cls ≠ "java/lang/invoke/VarHandle" ∧ (parseMethodDescriptor yL_end.desc).map (fun d => d.parameters.length) = some 3 := by decide +kernel
theorem pd_L_feed : yL_feed.cls ≠ "java/lang/invoke/MethodHandle" ∧ yL_feed.cls ≠ "java/lang/invoke/VarHandle" ∧ (parseMethodDescriptor yL_feed.desc).map (fun d => d.parameters.length) = some 7 := by decide +kernel
theorem pd_L_guess : yL_guess.cls ≠ "java/lang/invoke/MethodHandle" ∧ yL_guess.cls ≠ "java/lang/invoke/VarHandle" ∧ (parseMethodDescriptor yL_guess.desc).map (fun d => d.parameters.length) = some 3 := by decide +kernel
theorem pd_L_guessed : yL_guessed.cls ≠ "java/lang/invoke/MethodHandle" ∧ yL_guessed.cls ≠ "java/lang/invoke/VarHandle" ∧ (parseMethodDescriptor yL_guessed.desc).map (fun d => d.parameters.length) = some 4 := by decide +kernel
theorem pd_L_hit : yL_hit.cls ≠ "java/lang/invoke/MethodHandle" ∧ yL_hit.cls ≠ "java/lang/invoke/VarHandle" ∧ (parseMethodDescriptor yL_hit.desc).map (fun d => d.parameters.length) = some 4 := by decide +kernel
theorem pd_L_mean : yL_mean.cls ≠ "java/lang/invoke/MethodHandle" ∧ yL_mean.cls ≠ "java/lang/invoke/VarHandle" ∧ (parseMethodDescriptor yL_mean.desc).map (fun d => d.parameters.length) = some 3 := by decide +kernel
theorem pd_L_mend : yL_mend.cls ≠ "java/lang/invoke/MethodHandle" ∧ yL_mend.cls ≠ "java/lang/invoke/VarHandle" ∧ (parseMethodDescriptor yL_mend.desc).map (fun d => d.parameters.length) = some 4 := by decide +kernel
theorem pd_L_number : yL_number.cls ≠ "java/lang/invoke/MethodHandle" ∧ yL_number.cls ≠ "java/lang/invoke/VarHandle" ∧ (parseMethodDescriptor yL_number.desc).map (fun d => d.parameters.length) = some 4 := by decide +kernel
theorem pd_L_parse : yL_parse.cls ≠ "java/lang/invoke/MethodHandle" ∧ yL_parse.cls ≠ "java/lang/invoke/VarHandle" ∧ (parseMethodDescriptor yL_parse.desc).map (fun d => d.parameters.length) = some 4 := by decide +kernel
theorem pd_L_reading : yL_reading.cls ≠ "java/lang/invoke/MethodHandle" ∧ yL_reading.cls ≠ "java/lang/invoke/VarHandle" ∧ (parseMethodDescriptor yL_reading.desc).map (fun d => d.parameters.length) = some 4 := by decide +kernel
theorem pd_L_same : yL_same.cls ≠ "java/lang/invoke/MethodHandle" ∧ yL_same.cls ≠ "java/lang/invoke/VarHandle" ∧ (parseMethodDescriptor yL_same.desc).map (fun d => d.parameters.length) = some 4 := by decide +kernel
theorem pd_L_say : yL_say.cls ≠ "java/lang/invoke/MethodHandle" ∧ yL_say.cls ≠ "java/lang/invoke/VarHandle" ∧ (parseMethodDescriptor yL_say.desc).map (fun d => d.parameters.length) = some 5 := by decide +kernel
theorem pd_L_show : yL_show.cls ≠ "java/lang/invoke/MethodHandle" ∧ yL_show.cls ≠ "java/lang/invoke/VarHandle" ∧ (parseMethodDescriptor yL_show.desc).map (fun d => d.parameters.length) = some 3 := by decide +kernel
theorem pd_L_sounds : yL_sounds.cls ≠ "java/lang/invoke/MethodHandle" ∧ yL_sounds.cls ≠ "java/lang/invoke/VarHandle" ∧ (parseMethodDescriptor yL_sounds.desc).map (fun d => d.parameters.length) = some 3 := by decide +kernel
theorem pd_L_swap : yL_swap.cls ≠ "java/lang/invoke/MethodHandle" ∧ yL_swap.cls ≠ "java/lang/invoke/VarHandle" ∧ (parseMethodDescriptor yL_swap.desc).map (fun d => d.parameters.length) = some 5 := by decide +kernel
theorem pd_L_tree : yL_tree.cls ≠ "java/lang/invoke/MethodHandle" ∧ yL_tree.cls ≠ "java/lang/invoke/VarHandle" ∧ (parseMethodDescriptor yL_tree.desc).map (fun d => d.parameters.length) = some 3 := by decide +kernel
theorem pd_L_truth : yL_truth.cls ≠ "java/lang/invoke/MethodHandle" ∧ yL_truth.cls ≠ "java/lang/invoke/VarHandle" ∧ (parseMethodDescriptor yL_truth.desc).map (fun d => d.parameters.length) = some 3 := by decide +kernel
theorem pd_X12_add : yX12_add.cls = RX12 ∧ yX12_add.cls ≠ "java/lang/invoke/MethodHandle" ∧ yX12_add.cls ≠ "java/lang/invoke/VarHandle" ∧ (parseMethodDescriptor yX12_add.desc).map (fun d => d.parameters.length) = some 1 := by decide +kernel
theorem pd_X12_analyse : yX12_analyse.cls = RX12 ∧ yX12_analyse.cls ≠ "java/lang/invoke/MethodHandle" ∧ yX12_analyse.cls ≠ "java/lang/invoke/VarHandle" ∧ (parseMethodDescriptor yX12_analyse.desc).map (fun d => d.parameters.length) = some 1 := by decide +kernel
theorem pd_X12_analysis : yX12_analysis.cls = RX12 ∧ yX12_analysis.cls ≠ "java/lang/invoke/MethodHandle" ∧ yX12_analysis.cls ≠ "java/lang/invoke/VarHandle" ∧ (parseMethodDescriptor yX12_analysis.desc).map (fun d => d.parameters.length) = some 2 := by decide +kernel
theorem pd_X12_ask : yX12_ask.cls = RX12 ∧ yX12_ask.cls ≠ "java/lang/invoke/MethodHandle" ∧ yX12_ask.cls ≠ "java/lang/invoke/VarHandle" ∧ (parseMethodDescriptor yX12_ask.desc).map (fun d => d.parameters.length) = some 1 := by decide +kernel
theorem pd_X12_bar : yX12_bar.cls = RX12 ∧ yX12_bar.cls ≠ "java/lang/invoke/MethodHandle" ∧ yX12_bar.cls ≠ "java/lang/invoke/VarHandle" ∧ (parseMethodDescriptor yX12_bar.desc).map (fun d => d.parameters.length) = some 2 := by decide +kernel
theorem pd_X12_candidate : yX12_candidate.cls = RX12 ∧ yX12_candidate.cls ≠ "java/lang/invoke/MethodHandle" ∧ yX12_candidate.cls ≠ "java/lang/invoke/VarHandle" ∧ (parseMethodDescriptor yX12_candidate.desc).map (fun d => d.parameters.length) = some 1 := by decide +kernel
theorem pd_X12_cell : yX12_cell.cls = RX12 ∧ yX12_cell.cls ≠ "java/lang/invoke/MethodHandle" ∧ yX12_cell.cls ≠ "java/lang/invoke/VarHandle" ∧ (parseMethodDescriptor yX12_cell.desc).map (fun d => d.parameters.length) = some 3 := by decide +kernel
theorem pd_X12_checkPlace : yX12_checkPlace.cls ≠ "java/lang/invoke/MethodHandle" ∧ yX12_checkPlace.cls ≠ "java/lang/invoke/VarHandle" ∧ (parseMethodDescriptor yX12_checkPlace.desc).map (fun d => d.parameters.length) = some 1 := by decide +kernel
theorem pd_X12_count : yX12_count.cls = RX12 ∧ yX12_count.cls ≠ "java/lang/invoke/MethodHandle" ∧ yX12_count.cls ≠ "java/lang/invoke/VarHandle" ∧ (parseMethodDescriptor yX12_count.desc).map (fun d => d.parameters.length) = some 2 := by decide +kernel
theorem pd_X12_end : yX12_end.cls = RX12 ∧ yX12_end.cls ≠ "java/lang/invoke/MethodHandle" ∧ yX12_end.cls ≠ "java/lang/invoke/VarHandle" ∧ (parseMethodDescriptor yX12_end.desc).map (fun d => d.parameters.length) = some 1 := by decide +kernel
theorem pd_X12_feed : yX12_feed.cls = RX12 ∧ yX12_feed.cls ≠ "java/lang/invoke/MethodHandle" ∧ yX12_feed.cls ≠ "java/lang/invoke/VarHandle" ∧ (parseMethodDescriptor yX12_feed.desc).map (fun d => d.parameters.length) = some 5 := by decide +kernel
theorem pd_X12_guess : yX12_guess.cls = RX12 ∧ yX12_guess.cls ≠ "java/lang/invoke/MethodHandle" ∧ yX12_guess.cls ≠ "java/lang/invoke/VarHandle" ∧ (parseMethodDescriptor yX12_guess.desc).map (fun d => d.parameters.length) = some 1 := by decide +kernel
theorem pd_X12_guessed : yX12_guessed.cls = RX12 ∧ yX12_guessed.cls ≠ "java/lang/invoke/MethodHandle" ∧ yX12_guessed.cls ≠ "java/lang/invoke/VarHandle" ∧ (parseMethodDescriptor yX12_guessed.desc).map (fun d => d.parameters.length) = some 2 := by decide +kernel
theorem pd_X12_hit : yX12_hit.cls = RX12 ∧ yX12_hit.cls ≠ "java/lang/invoke/MethodHandle" ∧ yX12_hit.cls ≠ "java/lang/invoke/VarHandle" ∧ (parseMethodDescriptor yX12_hit.desc).map (fun d => d.parameters.length) = some 2 := by decide +kernel
theorem pd_X12_mean : yX12_mean.cls = RX12 ∧ yX12_mean.cls ≠ "java/lang/invoke/MethodHandle" ∧ yX12_mean.cls ≠ "java/lang/invoke/VarHandle" ∧ (parseMethodDescriptor yX12_mean.desc).map (fun d => d.parameters.length) = some 1 := by decide +kernel
theorem pd_X12_meaningOf : yX12_meaningOf.cls = RX12 ∧ yX12_meaningOf.cls ≠ "java/lang/invoke/MethodHandle" ∧ yX12_meaningOf.cls ≠ "java/lang/invoke/VarHandle" ∧ (parseMethodDescriptor yX12_meaningOf.desc).map (fun d => d.parameters.length) = some 1 := by decide +kernel
theorem pd_X12_mend : yX12_mend.cls = RX12 ∧ yX12_mend.cls ≠ "java/lang/invoke/MethodHandle" ∧ yX12_mend.cls ≠ "java/lang/invoke/VarHandle" ∧ (parseMethodDescriptor yX12_mend.desc).map (fun d => d.parameters.length) = some 2 := by decide +kernel
theorem pd_X12_module : yX12_module.cls = RX12 ∧ yX12_module.cls ≠ "java/lang/invoke/MethodHandle" ∧ yX12_module.cls ≠ "java/lang/invoke/VarHandle" ∧ (parseMethodDescriptor yX12_module.desc).map (fun d => d.parameters.length) = some 0 := by decide +kernel
theorem pd_X12_number : yX12_number.cls = RX12 ∧ yX12_number.cls ≠ "java/lang/invoke/MethodHandle" ∧ yX12_number.cls ≠ "java/lang/invoke/VarHandle" ∧ (parseMethodDescriptor yX12_number.desc).map (fun d => d.parameters.length) = some 2 := by decide +kernel
theorem pd_X12_out : yX12_out.cls = RX12 ∧ yX12_out.cls ≠ "java/lang/invoke/MethodHandle" ∧ yX12_out.cls ≠ "java/lang/invoke/VarHandle" ∧ (parseMethodDescriptor yX12_out.desc).map (fun d => d.parameters.length) = some 1 := by decide +kernel
theorem pd_X12_parse : yX12_parse.cls = RX12 ∧ yX12_parse.cls ≠ "java/lang/invoke/MethodHandle" ∧ yX12_parse.cls ≠ "java/lang/invoke/VarHandle" ∧ (parseMethodDescriptor yX12_parse.desc).map (fun d => d.parameters.length) = some 2 := by decide +kernel
theorem pd_X12_price : yX12_price.cls = RX12 ∧ yX12_price.cls ≠ "java/lang/invoke/MethodHandle" ∧ yX12_price.cls ≠ "java/lang/invoke/VarHandle" ∧ (parseMethodDescriptor yX12_price.desc).map (fun d => d.parameters.length) = some 1 := by decide +kernel
theorem pd_X12_reading : yX12_reading.cls = RX12 ∧ yX12_reading.cls ≠ "java/lang/invoke/MethodHandle" ∧ yX12_reading.cls ≠ "java/lang/invoke/VarHandle" ∧ (parseMethodDescriptor yX12_reading.desc).map (fun d => d.parameters.length) = some 2 := by decide +kernel
theorem pd_X12_rule : yX12_rule.cls = RX12 ∧ yX12_rule.cls ≠ "java/lang/invoke/MethodHandle" ∧ yX12_rule.cls ≠ "java/lang/invoke/VarHandle" ∧ (parseMethodDescriptor yX12_rule.desc).map (fun d => d.parameters.length) = some 0 := by decide +kernel
theorem pd_X12_same : yX12_same.cls = RX12 ∧ yX12_same.cls ≠ "java/lang/invoke/MethodHandle" ∧ yX12_same.cls ≠ "java/lang/invoke/VarHandle" ∧ (parseMethodDescriptor yX12_same.desc).map (fun d => d.parameters.length) = some 2 := by decide +kernel
theorem pd_X12_say : yX12_say.cls = RX12 ∧ yX12_say.cls ≠ "java/lang/invoke/MethodHandle" ∧ yX12_say.cls ≠ "java/lang/invoke/VarHandle" ∧ (parseMethodDescriptor yX12_say.desc).map (fun d => d.parameters.length) = some 3 := by decide +kernel
theorem pd_X12_show : yX12_show.cls = RX12 ∧ yX12_show.cls ≠ "java/lang/invoke/MethodHandle" ∧ yX12_show.cls ≠ "java/lang/invoke/VarHandle" ∧ (parseMethodDescriptor yX12_show.desc).map (fun d => d.parameters.length) = some 1 := by decide +kernel
theorem pd_X12_sounds : yX12_sounds.cls = RX12 ∧ yX12_sounds.cls ≠ "java/lang/invoke/MethodHandle" ∧ yX12_sounds.cls ≠ "java/lang/invoke/VarHandle" ∧ (parseMethodDescriptor yX12_sounds.desc).map (fun d => d.parameters.length) = some 1 := by decide +kernel
theorem pd_X12_swap : yX12_swap.cls = RX12 ∧ yX12_swap.cls ≠ "java/lang/invoke/MethodHandle" ∧ yX12_swap.cls ≠ "java/lang/invoke/VarHandle" ∧ (parseMethodDescriptor yX12_swap.desc).map (fun d => d.parameters.length) = some 3 := by decide +kernel
theorem pd_X12_tongueAt : yX12_tongueAt.cls = RX12 ∧ yX12_tongueAt.cls ≠ "java/lang/invoke/MethodHandle" ∧ yX12_tongueAt.cls ≠ "java/lang/invoke/VarHandle" ∧ (parseMethodDescriptor yX12_tongueAt.desc).map (fun d => d.parameters.length) = some 1 := by decide +kernel
theorem pd_X12_tree : yX12_tree.cls = RX12 ∧ yX12_tree.cls ≠ "java/lang/invoke/MethodHandle" ∧ yX12_tree.cls ≠ "java/lang/invoke/VarHandle" ∧ (parseMethodDescriptor yX12_tree.desc).map (fun d => d.parameters.length) = some 1 := by decide +kernel
theorem pd_X12_trees : yX12_trees.cls = RX12 ∧ yX12_trees.cls ≠ "java/lang/invoke/MethodHandle" ∧ yX12_trees.cls ≠ "java/lang/invoke/VarHandle" ∧ (parseMethodDescriptor yX12_trees.desc).map (fun d => d.parameters.length) = some 0 := by decide +kernel
theorem pd_X12_truth : yX12_truth.cls = RX12 ∧ yX12_truth.cls ≠ "java/lang/invoke/MethodHandle" ∧ yX12_truth.cls ≠ "java/lang/invoke/VarHandle" ∧ (parseMethodDescriptor yX12_truth.desc).map (fun d => d.parameters.length) = some 1 := by decide +kernel
theorem pd_X13_add : yX13_add.cls = RX13 ∧ yX13_add.cls ≠ "java/lang/invoke/MethodHandle" ∧ yX13_add.cls ≠ "java/lang/invoke/VarHandle" ∧ (parseMethodDescriptor yX13_add.desc).map (fun d => d.parameters.length) = some 1 := by decide +kernel
theorem pd_X13_analyse : yX13_analyse.cls = RX13 ∧ yX13_analyse.cls ≠ "java/lang/invoke/MethodHandle" ∧ yX13_analyse.cls ≠ "java/lang/invoke/VarHandle" ∧ (parseMethodDescriptor yX13_analyse.desc).map (fun d => d.parameters.length) = some 1 := by decide +kernel
theorem pd_X13_analysis : yX13_analysis.cls = RX13 ∧ yX13_analysis.cls ≠ "java/lang/invoke/MethodHandle" ∧ yX13_analysis.cls ≠ "java/lang/invoke/VarHandle" ∧ (parseMethodDescriptor yX13_analysis.desc).map (fun d => d.parameters.length) = some 2 := by decide +kernel
theorem pd_X13_ask : yX13_ask.cls = RX13 ∧ yX13_ask.cls ≠ "java/lang/invoke/MethodHandle" ∧ yX13_ask.cls ≠ "java/lang/invoke/VarHandle" ∧ (parseMethodDescriptor yX13_ask.desc).map (fun d => d.parameters.length) = some 1 := by decide +kernel
theorem pd_X13_bad : yX13_bad.cls = RX13 ∧ yX13_bad.cls ≠ "java/lang/invoke/MethodHandle" ∧ yX13_bad.cls ≠ "java/lang/invoke/VarHandle" ∧ (parseMethodDescriptor yX13_bad.desc).map (fun d => d.parameters.length) = some 0 := by decide +kernel
theorem pd_X13_bar : yX13_bar.cls = RX13 ∧ yX13_bar.cls ≠ "java/lang/invoke/MethodHandle" ∧ yX13_bar.cls ≠ "java/lang/invoke/VarHandle" ∧ (parseMethodDescriptor yX13_bar.desc).map (fun d => d.parameters.length) = some 2 := by decide +kernel
theorem pd_X13_candidate : yX13_candidate.cls = RX13 ∧ yX13_candidate.cls ≠ "java/lang/invoke/MethodHandle" ∧ yX13_candidate.cls ≠ "java/lang/invoke/VarHandle" ∧ (parseMethodDescriptor yX13_candidate.desc).map (fun d => d.parameters.length) = some 1 := by decide +kernel
theorem pd_X13_cell : yX13_cell.cls = RX13 ∧ yX13_cell.cls ≠ "java/lang/invoke/MethodHandle" ∧ yX13_cell.cls ≠ "java/lang/invoke/VarHandle" ∧ (parseMethodDescriptor yX13_cell.desc).map (fun d => d.parameters.length) = some 3 := by decide +kernel
theorem pd_X13_count : yX13_count.cls = RX13 ∧ yX13_count.cls ≠ "java/lang/invoke/MethodHandle" ∧ yX13_count.cls ≠ "java/lang/invoke/VarHandle" ∧ (parseMethodDescriptor yX13_count.desc).map (fun d => d.parameters.length) = some 2 := by decide +kernel
theorem pd_X13_end : yX13_end.cls = RX13 ∧ yX13_end.cls ≠ "java/lang/invoke/MethodHandle" ∧ yX13_end.cls ≠ "java/lang/invoke/VarHandle" ∧ (parseMethodDescriptor yX13_end.desc).map (fun d => d.parameters.length) = some 1 := by decide +kernel
theorem pd_X13_feed : yX13_feed.cls = RX13 ∧ yX13_feed.cls ≠ "java/lang/invoke/MethodHandle" ∧ yX13_feed.cls ≠ "java/lang/invoke/VarHandle" ∧ (parseMethodDescriptor yX13_feed.desc).map (fun d => d.parameters.length) = some 5 := by decide +kernel
theorem pd_X13_four : yX13_four.cls = RX13 ∧ yX13_four.cls ≠ "java/lang/invoke/MethodHandle" ∧ yX13_four.cls ≠ "java/lang/invoke/VarHandle" ∧ (parseMethodDescriptor yX13_four.desc).map (fun d => d.parameters.length) = some 1 := by decide +kernel
theorem pd_X13_guess : yX13_guess.cls = RX13 ∧ yX13_guess.cls ≠ "java/lang/invoke/MethodHandle" ∧ yX13_guess.cls ≠ "java/lang/invoke/VarHandle" ∧ (parseMethodDescriptor yX13_guess.desc).map (fun d => d.parameters.length) = some 1 := by decide +kernel
theorem pd_X13_guessed : yX13_guessed.cls = RX13 ∧ yX13_guessed.cls ≠ "java/lang/invoke/MethodHandle" ∧ yX13_guessed.cls ≠ "java/lang/invoke/VarHandle" ∧ (parseMethodDescriptor yX13_guessed.desc).map (fun d => d.parameters.length) = some 2 := by decide +kernel
theorem pd_X13_hit : yX13_hit.cls = RX13 ∧ yX13_hit.cls ≠ "java/lang/invoke/MethodHandle" ∧ yX13_hit.cls ≠ "java/lang/invoke/VarHandle" ∧ (parseMethodDescriptor yX13_hit.desc).map (fun d => d.parameters.length) = some 2 := by decide +kernel
theorem pd_X13_mean_ : yX13_mean_.cls = RX13 ∧ yX13_mean_.cls ≠ "java/lang/invoke/MethodHandle" ∧ yX13_mean_.cls ≠ "java/lang/invoke/VarHandle" ∧ (parseMethodDescriptor yX13_mean_.desc).map (fun d => d.parameters.length) = some 1 := by decide +kernel
theorem pd_X13_mend : yX13_mend.cls = RX13 ∧ yX13_mend.cls ≠ "java/lang/invoke/MethodHandle" ∧ yX13_mend.cls ≠ "java/lang/invoke/VarHandle" ∧ (parseMethodDescriptor yX13_mend.desc).map (fun d => d.parameters.length) = some 2 := by decide +kernel
theorem pd_X13_module : yX13_module.cls = RX13 ∧ yX13_module.cls ≠ "java/lang/invoke/MethodHandle" ∧ yX13_module.cls ≠ "java/lang/invoke/VarHandle" ∧ (parseMethodDescriptor yX13_module.desc).map (fun d => d.parameters.length) = some 0 := by decide +kernel
theorem pd_X13_next : yX13_next.cls = RX13 ∧ yX13_next.cls ≠ "java/lang/invoke/MethodHandle" ∧ yX13_next.cls ≠ "java/lang/invoke/VarHandle" ∧ (parseMethodDescriptor yX13_next.desc).map (fun d => d.parameters.length) = some 0 := by decide +kernel
theorem pd_X13_noPlace : yX13_noPlace.cls = RX13 ∧ yX13_noPlace.cls ≠ "java/lang/invoke/MethodHandle" ∧ yX13_noPlace.cls ≠ "java/lang/invoke/VarHandle" ∧ (parseMethodDescriptor yX13_noPlace.desc).map (fun d => d.parameters.length) = some 1 := by decide +kernel
theorem pd_X13_noTongue : yX13_noTongue.cls = RX13 ∧ yX13_noTongue.cls ≠ "java/lang/invoke/MethodHandle" ∧ yX13_noTongue.cls ≠ "java/lang/invoke/VarHandle" ∧ (parseMethodDescriptor yX13_noTongue.desc).map (fun d => d.parameters.length) = some 1 := by decide +kernel
theorem pd_X13_noTree : yX13_noTree.cls = RX13 ∧ yX13_noTree.cls ≠ "java/lang/invoke/MethodHandle" ∧ yX13_noTree.cls ≠ "java/lang/invoke/VarHandle" ∧ (parseMethodDescriptor yX13_noTree.desc).map (fun d => d.parameters.length) = some 1 := by decide +kernel
theorem pd_X13_number : yX13_number.cls = RX13 ∧ yX13_number.cls ≠ "java/lang/invoke/MethodHandle" ∧ yX13_number.cls ≠ "java/lang/invoke/VarHandle" ∧ (parseMethodDescriptor yX13_number.desc).map (fun d => d.parameters.length) = some 2 := by decide +kernel
theorem pd_X13_out : yX13_out.cls = RX13 ∧ yX13_out.cls ≠ "java/lang/invoke/MethodHandle" ∧ yX13_out.cls ≠ "java/lang/invoke/VarHandle" ∧ (parseMethodDescriptor yX13_out.desc).map (fun d => d.parameters.length) = some 1 := by decide +kernel
theorem pd_X13_parse : yX13_parse.cls = RX13 ∧ yX13_parse.cls ≠ "java/lang/invoke/MethodHandle" ∧ yX13_parse.cls ≠ "java/lang/invoke/VarHandle" ∧ (parseMethodDescriptor yX13_parse.desc).map (fun d => d.parameters.length) = some 2 := by decide +kernel
theorem pd_X13_price : yX13_price.cls = RX13 ∧ yX13_price.cls ≠ "java/lang/invoke/MethodHandle" ∧ yX13_price.cls ≠ "java/lang/invoke/VarHandle" ∧ (parseMethodDescriptor yX13_price.desc).map (fun d => d.parameters.length) = some 1 := by decide +kernel
theorem pd_X13_reading : yX13_reading.cls = RX13 ∧ yX13_reading.cls ≠ "java/lang/invoke/MethodHandle" ∧ yX13_reading.cls ≠ "java/lang/invoke/VarHandle" ∧ (parseMethodDescriptor yX13_reading.desc).map (fun d => d.parameters.length) = some 2 := by decide +kernel
theorem pd_X13_reads : yX13_reads.cls = RX13 ∧ yX13_reads.cls ≠ "java/lang/invoke/MethodHandle" ∧ yX13_reads.cls ≠ "java/lang/invoke/VarHandle" ∧ (parseMethodDescriptor yX13_reads.desc).map (fun d => d.parameters.length) = some 0 := by decide +kernel
theorem pd_X13_remember : yX13_remember.cls = RX13 ∧ yX13_remember.cls ≠ "java/lang/invoke/MethodHandle" ∧ yX13_remember.cls ≠ "java/lang/invoke/VarHandle" ∧ (parseMethodDescriptor yX13_remember.desc).map (fun d => d.parameters.length) = some 0 := by decide +kernel
theorem pd_X13_rule : yX13_rule.cls = RX13 ∧ yX13_rule.cls ≠ "java/lang/invoke/MethodHandle" ∧ yX13_rule.cls ≠ "java/lang/invoke/VarHandle" ∧ (parseMethodDescriptor yX13_rule.desc).map (fun d => d.parameters.length) = some 0 := by decide +kernel
theorem pd_X13_same : yX13_same.cls = RX13 ∧ yX13_same.cls ≠ "java/lang/invoke/MethodHandle" ∧ yX13_same.cls ≠ "java/lang/invoke/VarHandle" ∧ (parseMethodDescriptor yX13_same.desc).map (fun d => d.parameters.length) = some 2 := by decide +kernel
theorem pd_X13_say : yX13_say.cls = RX13 ∧ yX13_say.cls ≠ "java/lang/invoke/MethodHandle" ∧ yX13_say.cls ≠ "java/lang/invoke/VarHandle" ∧ (parseMethodDescriptor yX13_say.desc).map (fun d => d.parameters.length) = some 3 := by decide +kernel
theorem pd_X13_show : yX13_show.cls = RX13 ∧ yX13_show.cls ≠ "java/lang/invoke/MethodHandle" ∧ yX13_show.cls ≠ "java/lang/invoke/VarHandle" ∧ (parseMethodDescriptor yX13_show.desc).map (fun d => d.parameters.length) = some 1 := by decide +kernel
theorem pd_X13_sounds : yX13_sounds.cls = RX13 ∧ yX13_sounds.cls ≠ "java/lang/invoke/MethodHandle" ∧ yX13_sounds.cls ≠ "java/lang/invoke/VarHandle" ∧ (parseMethodDescriptor yX13_sounds.desc).map (fun d => d.parameters.length) = some 1 := by decide +kernel
theorem pd_X13_swap : yX13_swap.cls = RX13 ∧ yX13_swap.cls ≠ "java/lang/invoke/MethodHandle" ∧ yX13_swap.cls ≠ "java/lang/invoke/VarHandle" ∧ (parseMethodDescriptor yX13_swap.desc).map (fun d => d.parameters.length) = some 3 := by decide +kernel
theorem pd_X13_takes : yX13_takes.cls = RX13 ∧ yX13_takes.cls ≠ "java/lang/invoke/MethodHandle" ∧ yX13_takes.cls ≠ "java/lang/invoke/VarHandle" ∧ (parseMethodDescriptor yX13_takes.desc).map (fun d => d.parameters.length) = some 1 := by decide +kernel
theorem pd_X13_thrown : yX13_thrown.cls = RX13 ∧ yX13_thrown.cls ≠ "java/lang/invoke/MethodHandle" ∧ yX13_thrown.cls ≠ "java/lang/invoke/VarHandle" ∧ (parseMethodDescriptor yX13_thrown.desc).map (fun d => d.parameters.length) = some 0 := by decide +kernel
theorem pd_X13_tree : yX13_tree.cls = RX13 ∧ yX13_tree.cls ≠ "java/lang/invoke/MethodHandle" ∧ yX13_tree.cls ≠ "java/lang/invoke/VarHandle" ∧ (parseMethodDescriptor yX13_tree.desc).map (fun d => d.parameters.length) = some 1 := by decide +kernel
theorem pd_X13_trees : yX13_trees.cls = RX13 ∧ yX13_trees.cls ≠ "java/lang/invoke/MethodHandle" ∧ yX13_trees.cls ≠ "java/lang/invoke/VarHandle" ∧ (parseMethodDescriptor yX13_trees.desc).map (fun d => d.parameters.length) = some 0 := by decide +kernel
theorem pd_X13_truth : yX13_truth.cls = RX13 ∧ yX13_truth.cls ≠ "java/lang/invoke/MethodHandle" ∧ yX13_truth.cls ≠ "java/lang/invoke/VarHandle" ∧ (parseMethodDescriptor yX13_truth.desc).map (fun d => d.parameters.length) = some 1 := by decide +kernel
theorem pd_X13_word : yX13_word.cls ≠ "java/lang/invoke/MethodHandle" ∧ yX13_word.cls ≠ "java/lang/invoke/VarHandle" ∧ (parseMethodDescriptor yX13_word.desc).map (fun d => d.parameters.length) = some 1 := by decide +kernel
theorem pd_X1_tellAnalysis : yX1_tellAnalysis.cls = RX1 ∧ yX1_tellAnalysis.cls ≠ "java/lang/invoke/MethodHandle" ∧ yX1_tellAnalysis.cls ≠ "java/lang/invoke/VarHandle" ∧ (parseMethodDescriptor yX1_tellAnalysis.desc).map (fun d => d.parameters.length) = some 2 := by decide +kernel
theorem pd_X1_tellGuess : yX1_tellGuess.cls = RX1 ∧ yX1_tellGuess.cls ≠ "java/lang/invoke/MethodHandle" ∧ yX1_tellGuess.cls ≠ "java/lang/invoke/VarHandle" ∧ (parseMethodDescriptor yX1_tellGuess.desc).map (fun d => d.parameters.length) = some 2 := by decide +kernel
theorem pd_X1_tellHit : yX1_tellHit.cls = RX1 ∧ yX1_tellHit.cls ≠ "java/lang/invoke/MethodHandle" ∧ yX1_tellHit.cls ≠ "java/lang/invoke/VarHandle" ∧ (parseMethodDescriptor yX1_tellHit.desc).map (fun d => d.parameters.length) = some 2 := by decide +kernel
theorem pd_X5_priceOf : yX5_priceOf.cls = RX5 ∧ yX5_priceOf.cls ≠ "java/lang/invoke/MethodHandle" ∧ yX5_priceOf.cls ≠ "java/lang/invoke/VarHandle" ∧ (parseMethodDescriptor yX5_priceOf.desc).map (fun d => d.parameters.length) = some 1 := by decide +kernel
theorem pd_X5_rank : yX5_rank.cls = RX5 ∧ yX5_rank.cls ≠ "java/lang/invoke/MethodHandle" ∧ yX5_rank.cls ≠ "java/lang/invoke/VarHandle" ∧ (parseMethodDescriptor yX5_rank.desc).map (fun d => d.parameters.length) = some 0 := by decide +kernel
theorem pd_X5_spell : yX5_spell.cls = RX5 ∧ yX5_spell.cls ≠ "java/lang/invoke/MethodHandle" ∧ yX5_spell.cls ≠ "java/lang/invoke/VarHandle" ∧ (parseMethodDescriptor yX5_spell.desc).map (fun d => d.parameters.length) = some 2 := by decide +kernel
theorem pd_X5_total : yX5_total.cls = RX5 ∧ yX5_total.cls ≠ "java/lang/invoke/MethodHandle" ∧ yX5_total.cls ≠ "java/lang/invoke/VarHandle" ∧ (parseMethodDescriptor yX5_total.desc).map (fun d => d.parameters.length) = some 0 := by decide +kernel
theorem pd_X6_begin : yX6_begin.cls = RX6 ∧ yX6_begin.cls ≠ "java/lang/invoke/MethodHandle" ∧ yX6_begin.cls ≠ "java/lang/invoke/VarHandle" ∧ (parseMethodDescriptor yX6_begin.desc).map (fun d => d.parameters.length) = some 0 := by decide +kernel
theorem pd_X6_readTree : yX6_readTree.cls = RX6 ∧ yX6_readTree.cls ≠ "java/lang/invoke/MethodHandle" ∧ yX6_readTree.cls ≠ "java/lang/invoke/VarHandle" ∧ (parseMethodDescriptor yX6_readTree.desc).map (fun d => d.parameters.length) = some 1 := by decide +kernel
theorem pd_X8_mark : yX8_mark.cls = RX8 ∧ yX8_mark.cls ≠ "java/lang/invoke/MethodHandle" ∧ yX8_mark.cls ≠ "java/lang/invoke/VarHandle" ∧ (parseMethodDescriptor yX8_mark.desc).map (fun d => d.parameters.length) = some 0 := by decide +kernel
theorem pd_X8_sizeOf : yX8_sizeOf.cls = RX8 ∧ yX8_sizeOf.cls ≠ "java/lang/invoke/MethodHandle" ∧ yX8_sizeOf.cls ≠ "java/lang/invoke/VarHandle" ∧ (parseMethodDescriptor yX8_sizeOf.desc).map (fun d => d.parameters.length) = some 1 := by decide +kernel
theorem pd_X9_advance : yX9_advance.cls = RX9 ∧ yX9_advance.cls ≠ "java/lang/invoke/MethodHandle" ∧ yX9_advance.cls ≠ "java/lang/invoke/VarHandle" ∧ (parseMethodDescriptor yX9_advance.desc).map (fun d => d.parameters.length) = some 0 := by decide +kernel
theorem pd_X9_onlyName : yX9_onlyName.cls = RX9 ∧ yX9_onlyName.cls ≠ "java/lang/invoke/MethodHandle" ∧ yX9_onlyName.cls ≠ "java/lang/invoke/VarHandle" ∧ (parseMethodDescriptor yX9_onlyName.desc).map (fun d => d.parameters.length) = some 0 := by decide +kernel
theorem pd_X9_put : yX9_put.cls = RX9 ∧ yX9_put.cls ≠ "java/lang/invoke/MethodHandle" ∧ yX9_put.cls ≠ "java/lang/invoke/VarHandle" ∧ (parseMethodDescriptor yX9_put.desc).map (fun d => d.parameters.length) = some 1 := by decide +kernel
theorem pd_X9_putFour : yX9_putFour.cls = RX9 ∧ yX9_putFour.cls ≠ "java/lang/invoke/MethodHandle" ∧ yX9_putFour.cls ≠ "java/lang/invoke/VarHandle" ∧ (parseMethodDescriptor yX9_putFour.desc).map (fun d => d.parameters.length) = some 1 := by decide +kernel
theorem pd_X9_rewind : yX9_rewind.cls = RX9 ∧ yX9_rewind.cls ≠ "java/lang/invoke/MethodHandle" ∧ yX9_rewind.cls ≠ "java/lang/invoke/VarHandle" ∧ (parseMethodDescriptor yX9_rewind.desc).map (fun d => d.parameters.length) = some 0 := by decide +kernel
