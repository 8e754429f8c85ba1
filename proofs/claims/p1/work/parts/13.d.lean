theorem dJ0_charAt_5068e_0 : decode cJ0_charAt_5068e 0 = .ok (.aload_n 0, 1) := by decide +kernel
theorem dJ0_charAt_5068e_1 : decode cJ0_charAt_5068e 1 = .ok (.invokevirtual 492, 3) := by decide +kernel
theorem dJ0_charAt_5068e_11 : decode cJ0_charAt_5068e 11 = .ok (.iload_n 1, 1) := by decide +kernel
theorem dJ0_charAt_5068e_12 : decode cJ0_charAt_5068e 12 = .ok (.invokestatic 495, 3) := by decide +kernel
theorem dJ0_charAt_5068e_15 : decode cJ0_charAt_5068e 15 = .ok (.ireturn, 1) := by decide +kernel
theorem dJ0_charAt_5068e_4 : decode cJ0_charAt_5068e 4 = .ok (.ifCond .eq 12, 3) := by decide +kernel
theorem dJ0_charAt_5068e_7 : decode cJ0_charAt_5068e 7 = .ok (.aload_n 0, 1) := by decide +kernel
theorem dJ0_charAt_5068e_8 : decode cJ0_charAt_5068e 8 = .ok (.getfield 9, 3) := by decide +kernel
theorem dJ0_checkIndex_df160_0 : decode cJ0_checkIndex_df160 0 = .ok (.iload_n 0, 1) := by decide +kernel
theorem dJ0_checkIndex_df160_1 : decode cJ0_checkIndex_df160 1 = .ok (.iload_n 1, 1) := by decide +kernel
theorem dJ0_checkIndex_df160_2 : decode cJ0_checkIndex_df160 2 = .ok (.getstatic 1053, 3) := by decide +kernel
theorem dJ0_checkIndex_df160_5 : decode cJ0_checkIndex_df160 5 = .ok (.invokestatic 1059, 3) := by decide +kernel
theorem dJ0_checkIndex_df160_8 : decode cJ0_checkIndex_df160 8 = .ok (.pop, 1) := by decide +kernel
theorem dJ0_checkIndex_df160_9 : decode cJ0_checkIndex_df160 9 = .ok (.return_, 1) := by decide +kernel
theorem dJ0_coder_7d493_0 : decode cJ0_coder_7d493 0 = .ok (.getstatic 38, 3) := by decide +kernel
theorem dJ0_coder_7d493_10 : decode cJ0_coder_7d493 10 = .ok (.goto 4, 3) := by decide +kernel
theorem dJ0_coder_7d493_14 : decode cJ0_coder_7d493 14 = .ok (.ireturn, 1) := by decide +kernel
theorem dJ0_coder_7d493_3 : decode cJ0_coder_7d493 3 = .ok (.ifCond .eq 10, 3) := by decide +kernel
theorem dJ0_coder_7d493_6 : decode cJ0_coder_7d493 6 = .ok (.aload_n 0, 1) := by decide +kernel
theorem dJ0_coder_7d493_7 : decode cJ0_coder_7d493 7 = .ok (.getfield 15, 3) := by decide +kernel
theorem dJ0_isLatin1_aae02_0 : decode cJ0_isLatin1_aae02 0 = .ok (.getstatic 38, 3) := by decide +kernel
theorem dJ0_isLatin1_aae02_10 : decode cJ0_isLatin1_aae02 10 = .ok (.ifCond .ne 7, 3) := by decide +kernel
theorem dJ0_isLatin1_aae02_13 : decode cJ0_isLatin1_aae02 13 = .ok (.iconst 1, 1) := by decide +kernel
theorem dJ0_isLatin1_aae02_14 : decode cJ0_isLatin1_aae02 14 = .ok (.goto 4, 3) := by decide +kernel
theorem dJ0_isLatin1_aae02_18 : decode cJ0_isLatin1_aae02 18 = .ok (.ireturn, 1) := by decide +kernel
theorem dJ0_isLatin1_aae02_3 : decode cJ0_isLatin1_aae02 3 = .ok (.ifCond .eq 14, 3) := by decide +kernel
theorem dJ0_isLatin1_aae02_6 : decode cJ0_isLatin1_aae02 6 = .ok (.aload_n 0, 1) := by decide +kernel
theorem dJ0_isLatin1_aae02_7 : decode cJ0_isLatin1_aae02 7 = .ok (.getfield 15, 3) := by decide +kernel
theorem dJ0_length_8abf5_0 : decode cJ0_length_8abf5 0 = .ok (.aload_n 0, 1) := by decide +kernel
theorem dJ0_length_8abf5_1 : decode cJ0_length_8abf5 1 = .ok (.getfield 9, 3) := by decide +kernel
theorem dJ0_length_8abf5_10 : decode cJ0_length_8abf5 10 = .ok (.ireturn, 1) := by decide +kernel
theorem dJ0_length_8abf5_4 : decode cJ0_length_8abf5 4 = .ok (.arraylength, 1) := by decide +kernel
theorem dJ0_length_8abf5_5 : decode cJ0_length_8abf5 5 = .ok (.aload_n 0, 1) := by decide +kernel
theorem dJ0_length_8abf5_6 : decode cJ0_length_8abf5 6 = .ok (.invokevirtual 335, 3) := by decide +kernel
theorem dJ0_length_8abf5_9 : decode cJ0_length_8abf5 9 = .ok (.ishr, 1) := by decide +kernel
theorem dJ1_charAt_3b067_0 : decode cJ1_charAt_3b067 0 = .ok (.iload_n 1, 1) := by decide +kernel
theorem dJ1_charAt_3b067_1 : decode cJ1_charAt_3b067 1 = .ok (.aload_n 0, 1) := by decide +kernel
theorem dJ1_charAt_3b067_12 : decode cJ1_charAt_3b067 12 = .ok (.iand, 1) := by decide +kernel
theorem dJ1_charAt_3b067_13 : decode cJ1_charAt_3b067 13 = .ok (.i2c, 1) := by decide +kernel
theorem dJ1_charAt_3b067_14 : decode cJ1_charAt_3b067 14 = .ok (.ireturn, 1) := by decide +kernel
theorem dJ1_charAt_3b067_2 : decode cJ1_charAt_3b067 2 = .ok (.arraylength, 1) := by decide +kernel
theorem dJ1_charAt_3b067_3 : decode cJ1_charAt_3b067 3 = .ok (.invokestatic 9, 3) := by decide +kernel
theorem dJ1_charAt_3b067_6 : decode cJ1_charAt_3b067 6 = .ok (.aload_n 0, 1) := by decide +kernel
theorem dJ1_charAt_3b067_7 : decode cJ1_charAt_3b067 7 = .ok (.iload_n 1, 1) := by decide +kernel
theorem dJ1_charAt_3b067_8 : decode cJ1_charAt_3b067 8 = .ok (.baload, 1) := by decide +kernel
theorem dJ1_charAt_3b067_9 : decode cJ1_charAt_3b067 9 = .ok (.sipush 255, 3) := by decide +kernel
theorem dJ3_checkIndex_8e157_0 : decode cJ3_checkIndex_8e157 0 = .ok (.iload_n 0, 1) := by decide +kernel
theorem dJ3_checkIndex_8e157_1 : decode cJ3_checkIndex_8e157 1 = .ok (.ifCond .lt 8, 3) := by decide +kernel
theorem dJ3_checkIndex_8e157_16 : decode cJ3_checkIndex_8e157 16 = .ok (.iload_n 0, 1) := by decide +kernel
theorem dJ3_checkIndex_8e157_17 : decode cJ3_checkIndex_8e157 17 = .ok (.ireturn, 1) := by decide +kernel
theorem dJ3_checkIndex_8e157_4 : decode cJ3_checkIndex_8e157 4 = .ok (.iload_n 0, 1) := by decide +kernel
theorem dJ3_checkIndex_8e157_5 : decode cJ3_checkIndex_8e157 5 = .ok (.iload_n 1, 1) := by decide +kernel
theorem dJ3_checkIndex_8e157_6 : decode cJ3_checkIndex_8e157 6 = .ok (.if_icmp .lt 10, 3) := by decide +kernel
theorem dL_add_0 : decode cL_add 0 = .ok (.aload_n 2, 1) := by decide +kernel
theorem dL_add_1 : decode cL_add 1 = .ok (.iconst 0, 1) := by decide +kernel
theorem dL_add_12 : decode cL_add 12 = .ok (.astore_n 3, 1) := by decide +kernel
theorem dL_add_13 : decode cL_add 13 = .ok (.iconst 1, 1) := by decide +kernel
theorem dL_add_14 : decode cL_add 14 = .ok (.ireturn, 1) := by decide +kernel
theorem dL_add_2 : decode cL_add 2 = .ok (.aload_n 0, 1) := by decide +kernel
theorem dL_add_3 : decode cL_add 3 = .ok (.iload_n 1, 1) := by decide +kernel
theorem dL_add_4 : decode cL_add 4 = .ok (.invokevirtual 76, 3) := by decide +kernel
theorem dL_analyse_0 : decode cL_analyse 0 = .ok (.aload_n 2, 1) := by decide +kernel
theorem dL_analyse_1 : decode cL_analyse 1 = .ok (.iconst 0, 1) := by decide +kernel
theorem dL_analyse_12 : decode cL_analyse 12 = .ok (.astore_n 3, 1) := by decide +kernel
theorem dL_analyse_13 : decode cL_analyse 13 = .ok (.iconst 1, 1) := by decide +kernel
theorem dL_analyse_14 : decode cL_analyse 14 = .ok (.ireturn, 1) := by decide +kernel
theorem dL_analyse_2 : decode cL_analyse 2 = .ok (.aload_n 0, 1) := by decide +kernel
theorem dL_analyse_3 : decode cL_analyse 3 = .ok (.iload_n 1, 1) := by decide +kernel
theorem dL_analyse_4 : decode cL_analyse 4 = .ok (.invokevirtual 28, 3) := by decide +kernel
theorem dL_analysis_0 : decode cL_analysis 0 = .ok (.aload_n 3, 1) := by decide +kernel
theorem dL_analysis_1 : decode cL_analysis 1 = .ok (.iconst 0, 1) := by decide +kernel
theorem dL_analysis_10 : decode cL_analysis 10 = .ok (.goto 7, 3) := by decide +kernel
theorem dL_analysis_13 : decode cL_analysis 13 = .ok (.astore 4, 2) := by decide +kernel
theorem dL_analysis_15 : decode cL_analysis 15 = .ok (.iconst 1, 1) := by decide +kernel
theorem dL_analysis_16 : decode cL_analysis 16 = .ok (.ireturn, 1) := by decide +kernel
theorem dL_analysis_17 : decode cL_analysis 17 = .ok (.iconst 0, 1) := by decide +kernel
theorem dL_analysis_18 : decode cL_analysis 18 = .ok (.ireturn, 1) := by decide +kernel
theorem dL_analysis_2 : decode cL_analysis 2 = .ok (.aload_n 0, 1) := by decide +kernel
theorem dL_analysis_3 : decode cL_analysis 3 = .ok (.iload_n 1, 1) := by decide +kernel
theorem dL_analysis_4 : decode cL_analysis 4 = .ok (.iload_n 2, 1) := by decide +kernel
theorem dL_analysis_5 : decode cL_analysis 5 = .ok (.invokevirtual 31, 3) := by decide +kernel
theorem dL_analysis_8 : decode cL_analysis 8 = .ok (.i2l, 1) := by decide +kernel
theorem dL_analysis_9 : decode cL_analysis 9 = .ok (.lastore, 1) := by decide +kernel
theorem dL_ask_0 : decode cL_ask 0 = .ok (.aload_n 2, 1) := by decide +kernel
theorem dL_ask_1 : decode cL_ask 1 = .ok (.iconst 0, 1) := by decide +kernel
theorem dL_ask_12 : decode cL_ask 12 = .ok (.astore_n 3, 1) := by decide +kernel
theorem dL_ask_13 : decode cL_ask 13 = .ok (.iconst 1, 1) := by decide +kernel
theorem dL_ask_14 : decode cL_ask 14 = .ok (.ireturn, 1) := by decide +kernel
theorem dL_ask_2 : decode cL_ask 2 = .ok (.aload_n 0, 1) := by decide +kernel
theorem dL_ask_3 : decode cL_ask 3 = .ok (.iload_n 1, 1) := by decide +kernel
theorem dL_ask_4 : decode cL_ask 4 = .ok (.invokevirtual 79, 3) := by decide +kernel
theorem dL_bar_0 : decode cL_bar 0 = .ok (.aload_n 3, 1) := by decide +kernel
theorem dL_bar_1 : decode cL_bar 1 = .ok (.iconst 0, 1) := by decide +kernel
theorem dL_bar_12 : decode cL_bar 12 = .ok (.astore 4, 2) := by decide +kernel
theorem dL_bar_14 : decode cL_bar 14 = .ok (.iconst 1, 1) := by decide +kernel
theorem dL_bar_15 : decode cL_bar 15 = .ok (.ireturn, 1) := by decide +kernel
theorem dL_bar_2 : decode cL_bar 2 = .ok (.aload_n 0, 1) := by decide +kernel
theorem dL_bar_3 : decode cL_bar 3 = .ok (.iload_n 1, 1) := by decide +kernel
theorem dL_bar_4 : decode cL_bar 4 = .ok (.iload_n 2, 1) := by decide +kernel
theorem dL_bar_5 : decode cL_bar 5 = .ok (.invokevirtual 47, 3) := by decide +kernel
theorem dL_cell_0 : decode cL_cell 0 = .ok (.aload 4, 2) := by decide +kernel
theorem dL_cell_15 : decode cL_cell 15 = .ok (.astore 5, 2) := by decide +kernel
theorem dL_cell_17 : decode cL_cell 17 = .ok (.iconst 1, 1) := by decide +kernel
theorem dL_cell_18 : decode cL_cell 18 = .ok (.ireturn, 1) := by decide +kernel
theorem dL_cell_2 : decode cL_cell 2 = .ok (.iconst 0, 1) := by decide +kernel
theorem dL_cell_3 : decode cL_cell 3 = .ok (.aload_n 0, 1) := by decide +kernel
theorem dL_cell_4 : decode cL_cell 4 = .ok (.iload_n 1, 1) := by decide +kernel
theorem dL_cell_5 : decode cL_cell 5 = .ok (.iload_n 2, 1) := by decide +kernel
theorem dL_cell_6 : decode cL_cell 6 = .ok (.iload_n 3, 1) := by decide +kernel
theorem dL_cell_7 : decode cL_cell 7 = .ok (.invokevirtual 34, 3) := by decide +kernel
theorem dL_count_0 : decode cL_count 0 = .ok (.aload_n 3, 1) := by decide +kernel
theorem dL_count_1 : decode cL_count 1 = .ok (.iconst 0, 1) := by decide +kernel
theorem dL_count_10 : decode cL_count 10 = .ok (.goto 7, 3) := by decide +kernel
theorem dL_count_13 : decode cL_count 13 = .ok (.astore 4, 2) := by decide +kernel
theorem dL_count_15 : decode cL_count 15 = .ok (.iconst 1, 1) := by decide +kernel
theorem dL_count_16 : decode cL_count 16 = .ok (.ireturn, 1) := by decide +kernel
theorem dL_count_17 : decode cL_count 17 = .ok (.iconst 0, 1) := by decide +kernel
theorem dL_count_18 : decode cL_count 18 = .ok (.ireturn, 1) := by decide +kernel
theorem dL_count_2 : decode cL_count 2 = .ok (.aload_n 0, 1) := by decide +kernel
theorem dL_count_3 : decode cL_count 3 = .ok (.iload_n 1, 1) := by decide +kernel
theorem dL_count_4 : decode cL_count 4 = .ok (.iload_n 2, 1) := by decide +kernel
theorem dL_count_5 : decode cL_count 5 = .ok (.invokevirtual 88, 3) := by decide +kernel
theorem dL_count_8 : decode cL_count 8 = .ok (.i2l, 1) := by decide +kernel
theorem dL_count_9 : decode cL_count 9 = .ok (.lastore, 1) := by decide +kernel
theorem dL_end_0 : decode cL_end 0 = .ok (.aload_n 2, 1) := by decide +kernel
theorem dL_end_1 : decode cL_end 1 = .ok (.iconst 0, 1) := by decide +kernel
theorem dL_end_12 : decode cL_end 12 = .ok (.astore_n 3, 1) := by decide +kernel
theorem dL_end_13 : decode cL_end 13 = .ok (.iconst 1, 1) := by decide +kernel
theorem dL_end_14 : decode cL_end 14 = .ok (.ireturn, 1) := by decide +kernel
theorem dL_end_15 : decode cL_end 15 = .ok (.iconst 0, 1) := by decide +kernel
theorem dL_end_16 : decode cL_end 16 = .ok (.ireturn, 1) := by decide +kernel
theorem dL_end_2 : decode cL_end 2 = .ok (.aload_n 0, 1) := by decide +kernel
theorem dL_end_3 : decode cL_end 3 = .ok (.iload_n 1, 1) := by decide +kernel
theorem dL_end_4 : decode cL_end 4 = .ok (.invokevirtual 15, 3) := by decide +kernel
theorem dL_end_7 : decode cL_end 7 = .ok (.i2l, 1) := by decide +kernel
theorem dL_end_8 : decode cL_end 8 = .ok (.lastore, 1) := by decide +kernel
theorem dL_end_9 : decode cL_end 9 = .ok (.goto 6, 3) := by decide +kernel
theorem dL_feed_0 : decode cL_feed 0 = .ok (.aload 6, 2) := by decide +kernel
theorem dL_feed_11 : decode cL_feed 11 = .ok (.invokevirtual 7, 3) := by decide +kernel
theorem dL_feed_14 : decode cL_feed 14 = .ok (.i2l, 1) := by decide +kernel
theorem dL_feed_15 : decode cL_feed 15 = .ok (.lastore, 1) := by decide +kernel
theorem dL_feed_16 : decode cL_feed 16 = .ok (.goto 7, 3) := by decide +kernel
theorem dL_feed_2 : decode cL_feed 2 = .ok (.iconst 0, 1) := by decide +kernel
theorem dL_feed_23 : decode cL_feed 23 = .ok (.iconst 0, 1) := by decide +kernel
theorem dL_feed_24 : decode cL_feed 24 = .ok (.ireturn, 1) := by decide +kernel
theorem dL_feed_3 : decode cL_feed 3 = .ok (.aload_n 0, 1) := by decide +kernel
theorem dL_feed_4 : decode cL_feed 4 = .ok (.iload_n 1, 1) := by decide +kernel
theorem dL_feed_5 : decode cL_feed 5 = .ok (.iload_n 2, 1) := by decide +kernel
theorem dL_feed_6 : decode cL_feed 6 = .ok (.iload_n 3, 1) := by decide +kernel
theorem dL_feed_7 : decode cL_feed 7 = .ok (.iload 4, 2) := by decide +kernel
theorem dL_feed_9 : decode cL_feed 9 = .ok (.iload 5, 2) := by decide +kernel
theorem dL_guess_0 : decode cL_guess 0 = .ok (.aload_n 2, 1) := by decide +kernel
theorem dL_guess_1 : decode cL_guess 1 = .ok (.iconst 0, 1) := by decide +kernel
theorem dL_guess_12 : decode cL_guess 12 = .ok (.astore_n 3, 1) := by decide +kernel
theorem dL_guess_13 : decode cL_guess 13 = .ok (.iconst 1, 1) := by decide +kernel
theorem dL_guess_14 : decode cL_guess 14 = .ok (.ireturn, 1) := by decide +kernel
theorem dL_guess_2 : decode cL_guess 2 = .ok (.aload_n 0, 1) := by decide +kernel
theorem dL_guess_3 : decode cL_guess 3 = .ok (.iload_n 1, 1) := by decide +kernel
theorem dL_guess_4 : decode cL_guess 4 = .ok (.invokevirtual 38, 3) := by decide +kernel
theorem dL_guessed_0 : decode cL_guessed 0 = .ok (.aload_n 3, 1) := by decide +kernel
theorem dL_guessed_1 : decode cL_guessed 1 = .ok (.iconst 0, 1) := by decide +kernel
theorem dL_guessed_10 : decode cL_guessed 10 = .ok (.goto 7, 3) := by decide +kernel
theorem dL_guessed_13 : decode cL_guessed 13 = .ok (.astore 4, 2) := by decide +kernel
theorem dL_guessed_15 : decode cL_guessed 15 = .ok (.iconst 1, 1) := by decide +kernel
theorem dL_guessed_16 : decode cL_guessed 16 = .ok (.ireturn, 1) := by decide +kernel
theorem dL_guessed_17 : decode cL_guessed 17 = .ok (.iconst 0, 1) := by decide +kernel
theorem dL_guessed_18 : decode cL_guessed 18 = .ok (.ireturn, 1) := by decide +kernel
theorem dL_guessed_2 : decode cL_guessed 2 = .ok (.aload_n 0, 1) := by decide +kernel
theorem dL_guessed_3 : decode cL_guessed 3 = .ok (.iload_n 1, 1) := by decide +kernel
theorem dL_guessed_4 : decode cL_guessed 4 = .ok (.iload_n 2, 1) := by decide +kernel
theorem dL_guessed_5 : decode cL_guessed 5 = .ok (.invokevirtual 41, 3) := by decide +kernel
theorem dL_guessed_8 : decode cL_guessed 8 = .ok (.i2l, 1) := by decide +kernel
theorem dL_guessed_9 : decode cL_guessed 9 = .ok (.lastore, 1) := by decide +kernel
theorem dL_hit_0 : decode cL_hit 0 = .ok (.aload_n 3, 1) := by decide +kernel
theorem dL_hit_1 : decode cL_hit 1 = .ok (.iconst 0, 1) := by decide +kernel
theorem dL_hit_10 : decode cL_hit 10 = .ok (.goto 7, 3) := by decide +kernel
theorem dL_hit_13 : decode cL_hit 13 = .ok (.astore 4, 2) := by decide +kernel
theorem dL_hit_15 : decode cL_hit 15 = .ok (.iconst 1, 1) := by decide +kernel
theorem dL_hit_16 : decode cL_hit 16 = .ok (.ireturn, 1) := by decide +kernel
theorem dL_hit_17 : decode cL_hit 17 = .ok (.iconst 0, 1) := by decide +kernel
theorem dL_hit_18 : decode cL_hit 18 = .ok (.ireturn, 1) := by decide +kernel
theorem dL_hit_2 : decode cL_hit 2 = .ok (.aload_n 0, 1) := by decide +kernel
theorem dL_hit_3 : decode cL_hit 3 = .ok (.iload_n 1, 1) := by decide +kernel
theorem dL_hit_4 : decode cL_hit 4 = .ok (.iload_n 2, 1) := by decide +kernel
theorem dL_hit_5 : decode cL_hit 5 = .ok (.invokevirtual 82, 3) := by decide +kernel
theorem dL_hit_8 : decode cL_hit 8 = .ok (.i2l, 1) := by decide +kernel
theorem dL_hit_9 : decode cL_hit 9 = .ok (.lastore, 1) := by decide +kernel
theorem dL_law_1001 : decode cL_law 1001 = .ok (.goto 896, 3) := by decide +kernel
theorem dL_law_1004 : decode cL_law 1004 = .ok (.aload_n 1, 1) := by decide +kernel
theorem dL_law_1005 : decode cL_law 1005 = .ok (.aload_n 0, 1) := by decide +kernel
theorem dL_law_1006 : decode cL_law 1006 = .ok (.iload 4, 2) := by decide +kernel
theorem dL_law_1008 : decode cL_law 1008 = .ok (.iconst 1, 1) := by decide +kernel
theorem dL_law_1009 : decode cL_law 1009 = .ok (.iadd, 1) := by decide +kernel
theorem dL_law_1010 : decode cL_law 1010 = .ok (.iaload, 1) := by decide +kernel
theorem dL_law_1011 : decode cL_law 1011 = .ok (.invokevirtual 156, 3) := by decide +kernel
theorem dL_law_1014 : decode cL_law 1014 = .ok (.aload_n 2, 1) := by decide +kernel
theorem dL_law_1015 : decode cL_law 1015 = .ok (.aload_n 0, 1) := by decide +kernel
theorem dL_law_1016 : decode cL_law 1016 = .ok (.iload 4, 2) := by decide +kernel
theorem dL_law_1018 : decode cL_law 1018 = .ok (.iconst 1, 1) := by decide +kernel
theorem dL_law_1019 : decode cL_law 1019 = .ok (.iadd, 1) := by decide +kernel
theorem dL_law_1020 : decode cL_law 1020 = .ok (.iaload, 1) := by decide +kernel
theorem dL_law_1021 : decode cL_law 1021 = .ok (.invokevirtual 159, 3) := by decide +kernel
theorem dL_law_1024 : decode cL_law 1024 = .ok (.if_icmp .eq 873, 3) := by decide +kernel
theorem dL_law_1029 : decode cL_law 1029 = .ok (.aload_n 1, 1) := by decide +kernel
theorem dL_law_1030 : decode cL_law 1030 = .ok (.aload_n 0, 1) := by decide +kernel
theorem dL_law_1031 : decode cL_law 1031 = .ok (.iload 4, 2) := by decide +kernel
theorem dL_law_1033 : decode cL_law 1033 = .ok (.iconst 1, 1) := by decide +kernel
theorem dL_law_1034 : decode cL_law 1034 = .ok (.iadd, 1) := by decide +kernel
theorem dL_law_1035 : decode cL_law 1035 = .ok (.iaload, 1) := by decide +kernel
theorem dL_law_1036 : decode cL_law 1036 = .ok (.aload_n 0, 1) := by decide +kernel
theorem dL_law_1037 : decode cL_law 1037 = .ok (.iload 4, 2) := by decide +kernel
theorem dL_law_1039 : decode cL_law 1039 = .ok (.iconst 2, 1) := by decide +kernel
theorem dL_law_1040 : decode cL_law 1040 = .ok (.iadd, 1) := by decide +kernel
theorem dL_law_1041 : decode cL_law 1041 = .ok (.iaload, 1) := by decide +kernel
theorem dL_law_1042 : decode cL_law 1042 = .ok (.aload_n 3, 1) := by decide +kernel
theorem dL_law_1043 : decode cL_law 1043 = .ok (.invokestatic 160, 3) := by decide +kernel
theorem dL_law_1046 : decode cL_law 1046 = .ok (.istore 5, 2) := by decide +kernel
theorem dL_law_1048 : decode cL_law 1048 = .ok (.aload_n 2, 1) := by decide +kernel
theorem dL_law_1049 : decode cL_law 1049 = .ok (.aload_n 0, 1) := by decide +kernel
theorem dL_law_1050 : decode cL_law 1050 = .ok (.iload 4, 2) := by decide +kernel
theorem dL_law_1052 : decode cL_law 1052 = .ok (.iconst 1, 1) := by decide +kernel
theorem dL_law_1053 : decode cL_law 1053 = .ok (.iadd, 1) := by decide +kernel
theorem dL_law_1054 : decode cL_law 1054 = .ok (.iaload, 1) := by decide +kernel
theorem dL_law_1055 : decode cL_law 1055 = .ok (.aload_n 0, 1) := by decide +kernel
theorem dL_law_1056 : decode cL_law 1056 = .ok (.iload 4, 2) := by decide +kernel
theorem dL_law_1058 : decode cL_law 1058 = .ok (.iconst 2, 1) := by decide +kernel
theorem dL_law_1059 : decode cL_law 1059 = .ok (.iadd, 1) := by decide +kernel
theorem dL_law_1060 : decode cL_law 1060 = .ok (.iaload, 1) := by decide +kernel
theorem dL_law_1061 : decode cL_law 1061 = .ok (.invokevirtual 162, 3) := by decide +kernel
theorem dL_law_1064 : decode cL_law 1064 = .ok (.istore 6, 2) := by decide +kernel
theorem dL_law_1066 : decode cL_law 1066 = .ok (.aload_n 2, 1) := by decide +kernel
theorem dL_law_1067 : decode cL_law 1067 = .ok (.invokevirtual 101, 3) := by decide +kernel
theorem dL_law_1070 : decode cL_law 1070 = .ok (.iload 5, 2) := by decide +kernel
theorem dL_law_1072 : decode cL_law 1072 = .ok (.if_icmp .eq 5, 3) := by decide +kernel
theorem dL_law_1077 : decode cL_law 1077 = .ok (.iload 5, 2) := by decide +kernel
theorem dL_law_1079 : decode cL_law 1079 = .ok (.ifCond .ne 15, 3) := by decide +kernel
theorem dL_law_1082 : decode cL_law 1082 = .ok (.aload_n 3, 1) := by decide +kernel
theorem dL_law_1083 : decode cL_law 1083 = .ok (.iconst 0, 1) := by decide +kernel
theorem dL_law_1084 : decode cL_law 1084 = .ok (.laload, 1) := by decide +kernel
theorem dL_law_1085 : decode cL_law 1085 = .ok (.iload 6, 2) := by decide +kernel
theorem dL_law_1087 : decode cL_law 1087 = .ok (.i2l, 1) := by decide +kernel
theorem dL_law_1088 : decode cL_law 1088 = .ok (.lcmp, 1) := by decide +kernel
theorem dL_law_1089 : decode cL_law 1089 = .ok (.ifCond .eq 5, 3) := by decide +kernel
theorem dL_law_1094 : decode cL_law 1094 = .ok (.goto 803, 3) := by decide +kernel
theorem dL_law_1097 : decode cL_law 1097 = .ok (.aload_n 1, 1) := by decide +kernel
theorem dL_law_1098 : decode cL_law 1098 = .ok (.aload_n 0, 1) := by decide +kernel
theorem dL_law_1099 : decode cL_law 1099 = .ok (.iload 4, 2) := by decide +kernel
theorem dL_law_1101 : decode cL_law 1101 = .ok (.iconst 1, 1) := by decide +kernel
theorem dL_law_1102 : decode cL_law 1102 = .ok (.iadd, 1) := by decide +kernel
theorem dL_law_1103 : decode cL_law 1103 = .ok (.iaload, 1) := by decide +kernel
theorem dL_law_1104 : decode cL_law 1104 = .ok (.aload_n 3, 1) := by decide +kernel
theorem dL_law_1105 : decode cL_law 1105 = .ok (.invokestatic 163, 3) := by decide +kernel
theorem dL_law_1108 : decode cL_law 1108 = .ok (.istore 5, 2) := by decide +kernel
theorem dL_law_1110 : decode cL_law 1110 = .ok (.aload_n 2, 1) := by decide +kernel
theorem dL_law_1111 : decode cL_law 1111 = .ok (.aload_n 0, 1) := by decide +kernel
theorem dL_law_1112 : decode cL_law 1112 = .ok (.iload 4, 2) := by decide +kernel
theorem dL_law_1114 : decode cL_law 1114 = .ok (.iconst 1, 1) := by decide +kernel
theorem dL_law_1115 : decode cL_law 1115 = .ok (.iadd, 1) := by decide +kernel
theorem dL_law_1116 : decode cL_law 1116 = .ok (.iaload, 1) := by decide +kernel
theorem dL_law_1117 : decode cL_law 1117 = .ok (.invokevirtual 165, 3) := by decide +kernel
theorem dL_law_1120 : decode cL_law 1120 = .ok (.istore 6, 2) := by decide +kernel
theorem dL_law_1122 : decode cL_law 1122 = .ok (.aload_n 2, 1) := by decide +kernel
theorem dL_law_1123 : decode cL_law 1123 = .ok (.invokevirtual 101, 3) := by decide +kernel
theorem dL_law_1126 : decode cL_law 1126 = .ok (.iload 5, 2) := by decide +kernel
theorem dL_law_1128 : decode cL_law 1128 = .ok (.if_icmp .eq 5, 3) := by decide +kernel
theorem dL_law_1133 : decode cL_law 1133 = .ok (.iload 5, 2) := by decide +kernel
theorem dL_law_1135 : decode cL_law 1135 = .ok (.ifCond .ne 15, 3) := by decide +kernel
theorem dL_law_1138 : decode cL_law 1138 = .ok (.aload_n 3, 1) := by decide +kernel
theorem dL_law_1139 : decode cL_law 1139 = .ok (.iconst 0, 1) := by decide +kernel
theorem dL_law_1140 : decode cL_law 1140 = .ok (.laload, 1) := by decide +kernel
theorem dL_law_1141 : decode cL_law 1141 = .ok (.iload 6, 2) := by decide +kernel
theorem dL_law_1143 : decode cL_law 1143 = .ok (.i2l, 1) := by decide +kernel
theorem dL_law_1144 : decode cL_law 1144 = .ok (.lcmp, 1) := by decide +kernel
theorem dL_law_1145 : decode cL_law 1145 = .ok (.ifCond .eq 5, 3) := by decide +kernel
theorem dL_law_1150 : decode cL_law 1150 = .ok (.goto 747, 3) := by decide +kernel
theorem dL_law_1153 : decode cL_law 1153 = .ok (.aload_n 1, 1) := by decide +kernel
theorem dL_law_1154 : decode cL_law 1154 = .ok (.aload_n 0, 1) := by decide +kernel
theorem dL_law_1155 : decode cL_law 1155 = .ok (.iload 4, 2) := by decide +kernel
theorem dL_law_1157 : decode cL_law 1157 = .ok (.iconst 1, 1) := by decide +kernel
theorem dL_law_1158 : decode cL_law 1158 = .ok (.iadd, 1) := by decide +kernel
theorem dL_law_1159 : decode cL_law 1159 = .ok (.iaload, 1) := by decide +kernel
theorem dL_law_1160 : decode cL_law 1160 = .ok (.aload_n 3, 1) := by decide +kernel
theorem dL_law_1161 : decode cL_law 1161 = .ok (.invokestatic 166, 3) := by decide +kernel
theorem dL_law_1164 : decode cL_law 1164 = .ok (.istore 5, 2) := by decide +kernel
theorem dL_law_1166 : decode cL_law 1166 = .ok (.aload_n 2, 1) := by decide +kernel
theorem dL_law_1167 : decode cL_law 1167 = .ok (.aload_n 0, 1) := by decide +kernel
theorem dL_law_1168 : decode cL_law 1168 = .ok (.iload 4, 2) := by decide +kernel
theorem dL_law_1170 : decode cL_law 1170 = .ok (.iconst 1, 1) := by decide +kernel
theorem dL_law_1171 : decode cL_law 1171 = .ok (.iadd, 1) := by decide +kernel
theorem dL_law_1172 : decode cL_law 1172 = .ok (.iaload, 1) := by decide +kernel
theorem dL_law_1173 : decode cL_law 1173 = .ok (.invokevirtual 168, 3) := by decide +kernel
theorem dL_law_1176 : decode cL_law 1176 = .ok (.istore 6, 2) := by decide +kernel
theorem dL_law_1178 : decode cL_law 1178 = .ok (.aload_n 2, 1) := by decide +kernel
theorem dL_law_1179 : decode cL_law 1179 = .ok (.invokevirtual 101, 3) := by decide +kernel
theorem dL_law_1182 : decode cL_law 1182 = .ok (.iload 5, 2) := by decide +kernel
theorem dL_law_1184 : decode cL_law 1184 = .ok (.if_icmp .eq 5, 3) := by decide +kernel
theorem dL_law_1189 : decode cL_law 1189 = .ok (.iload 5, 2) := by decide +kernel
theorem dL_law_1191 : decode cL_law 1191 = .ok (.ifCond .ne 15, 3) := by decide +kernel
theorem dL_law_1194 : decode cL_law 1194 = .ok (.aload_n 3, 1) := by decide +kernel
theorem dL_law_1195 : decode cL_law 1195 = .ok (.iconst 0, 1) := by decide +kernel
theorem dL_law_1196 : decode cL_law 1196 = .ok (.laload, 1) := by decide +kernel
theorem dL_law_1197 : decode cL_law 1197 = .ok (.iload 6, 2) := by decide +kernel
theorem dL_law_1199 : decode cL_law 1199 = .ok (.i2l, 1) := by decide +kernel
theorem dL_law_1200 : decode cL_law 1200 = .ok (.lcmp, 1) := by decide +kernel
theorem dL_law_1201 : decode cL_law 1201 = .ok (.ifCond .eq 5, 3) := by decide +kernel
theorem dL_law_1206 : decode cL_law 1206 = .ok (.goto 691, 3) := by decide +kernel
theorem dL_law_1209 : decode cL_law 1209 = .ok (.aload_n 1, 1) := by decide +kernel
theorem dL_law_1210 : decode cL_law 1210 = .ok (.aload_n 0, 1) := by decide +kernel
theorem dL_law_1211 : decode cL_law 1211 = .ok (.iload 4, 2) := by decide +kernel
theorem dL_law_1213 : decode cL_law 1213 = .ok (.iconst 1, 1) := by decide +kernel
theorem dL_law_1214 : decode cL_law 1214 = .ok (.iadd, 1) := by decide +kernel
theorem dL_law_1215 : decode cL_law 1215 = .ok (.iaload, 1) := by decide +kernel
theorem dL_law_1216 : decode cL_law 1216 = .ok (.aload_n 0, 1) := by decide +kernel
theorem dL_law_1217 : decode cL_law 1217 = .ok (.iload 4, 2) := by decide +kernel
theorem dL_law_1219 : decode cL_law 1219 = .ok (.iconst 2, 1) := by decide +kernel
theorem dL_law_1220 : decode cL_law 1220 = .ok (.iadd, 1) := by decide +kernel
theorem dL_law_1221 : decode cL_law 1221 = .ok (.iaload, 1) := by decide +kernel
theorem dL_law_1222 : decode cL_law 1222 = .ok (.aload_n 3, 1) := by decide +kernel
theorem dL_law_1223 : decode cL_law 1223 = .ok (.invokestatic 169, 3) := by decide +kernel
theorem dL_law_1226 : decode cL_law 1226 = .ok (.istore 5, 2) := by decide +kernel
theorem dL_law_1228 : decode cL_law 1228 = .ok (.aload_n 2, 1) := by decide +kernel
theorem dL_law_1229 : decode cL_law 1229 = .ok (.aload_n 0, 1) := by decide +kernel
theorem dL_law_1230 : decode cL_law 1230 = .ok (.iload 4, 2) := by decide +kernel
theorem dL_law_1232 : decode cL_law 1232 = .ok (.iconst 1, 1) := by decide +kernel
theorem dL_law_1233 : decode cL_law 1233 = .ok (.iadd, 1) := by decide +kernel
theorem dL_law_1234 : decode cL_law 1234 = .ok (.iaload, 1) := by decide +kernel
theorem dL_law_1235 : decode cL_law 1235 = .ok (.aload_n 0, 1) := by decide +kernel
theorem dL_law_1236 : decode cL_law 1236 = .ok (.iload 4, 2) := by decide +kernel
theorem dL_law_1238 : decode cL_law 1238 = .ok (.iconst 2, 1) := by decide +kernel
theorem dL_law_1239 : decode cL_law 1239 = .ok (.iadd, 1) := by decide +kernel
theorem dL_law_1240 : decode cL_law 1240 = .ok (.iaload, 1) := by decide +kernel
theorem dL_law_1241 : decode cL_law 1241 = .ok (.invokevirtual 171, 3) := by decide +kernel
theorem dL_law_1244 : decode cL_law 1244 = .ok (.istore 6, 2) := by decide +kernel
theorem dL_law_1246 : decode cL_law 1246 = .ok (.aload_n 2, 1) := by decide +kernel
theorem dL_law_1247 : decode cL_law 1247 = .ok (.invokevirtual 101, 3) := by decide +kernel
theorem dL_law_1250 : decode cL_law 1250 = .ok (.iload 5, 2) := by decide +kernel
theorem dL_law_1252 : decode cL_law 1252 = .ok (.if_icmp .eq 5, 3) := by decide +kernel
theorem dL_law_1257 : decode cL_law 1257 = .ok (.iload 5, 2) := by decide +kernel
theorem dL_law_1259 : decode cL_law 1259 = .ok (.ifCond .ne 22, 3) := by decide +kernel
theorem dL_law_1262 : decode cL_law 1262 = .ok (.aload_n 3, 1) := by decide +kernel
theorem dL_law_1263 : decode cL_law 1263 = .ok (.iconst 0, 1) := by decide +kernel
theorem dL_law_1264 : decode cL_law 1264 = .ok (.laload, 1) := by decide +kernel
theorem dL_law_1265 : decode cL_law 1265 = .ok (.iload 6, 2) := by decide +kernel
theorem dL_law_1267 : decode cL_law 1267 = .ok (.ifCond .eq 7, 3) := by decide +kernel
theorem dL_law_1270 : decode cL_law 1270 = .ok (.lconst 1, 1) := by decide +kernel
theorem dL_law_1271 : decode cL_law 1271 = .ok (.goto 4, 3) := by decide +kernel
theorem dL_law_1275 : decode cL_law 1275 = .ok (.lcmp, 1) := by decide +kernel
theorem dL_law_1276 : decode cL_law 1276 = .ok (.ifCond .eq 5, 3) := by decide +kernel
theorem dL_law_1281 : decode cL_law 1281 = .ok (.goto 616, 3) := by decide +kernel
theorem dL_law_1284 : decode cL_law 1284 = .ok (.aload_n 1, 1) := by decide +kernel
theorem dL_law_1285 : decode cL_law 1285 = .ok (.aload_n 0, 1) := by decide +kernel
theorem dL_law_1286 : decode cL_law 1286 = .ok (.iload 4, 2) := by decide +kernel
theorem dL_law_1288 : decode cL_law 1288 = .ok (.iconst 1, 1) := by decide +kernel
theorem dL_law_1289 : decode cL_law 1289 = .ok (.iadd, 1) := by decide +kernel
theorem dL_law_1290 : decode cL_law 1290 = .ok (.iaload, 1) := by decide +kernel
theorem dL_law_1291 : decode cL_law 1291 = .ok (.aload_n 0, 1) := by decide +kernel
theorem dL_law_1292 : decode cL_law 1292 = .ok (.iload 4, 2) := by decide +kernel
theorem dL_law_1294 : decode cL_law 1294 = .ok (.iconst 2, 1) := by decide +kernel
theorem dL_law_1295 : decode cL_law 1295 = .ok (.iadd, 1) := by decide +kernel
theorem dL_law_1296 : decode cL_law 1296 = .ok (.iaload, 1) := by decide +kernel
theorem dL_law_1297 : decode cL_law 1297 = .ok (.aload_n 0, 1) := by decide +kernel
theorem dL_law_1298 : decode cL_law 1298 = .ok (.iload 4, 2) := by decide +kernel
theorem dL_law_1300 : decode cL_law 1300 = .ok (.iconst 3, 1) := by decide +kernel
theorem dL_law_1301 : decode cL_law 1301 = .ok (.iadd, 1) := by decide +kernel
theorem dL_law_1302 : decode cL_law 1302 = .ok (.iaload, 1) := by decide +kernel
theorem dL_law_1303 : decode cL_law 1303 = .ok (.aload_n 3, 1) := by decide +kernel
theorem dL_law_1304 : decode cL_law 1304 = .ok (.invokestatic 172, 3) := by decide +kernel
theorem dL_law_1307 : decode cL_law 1307 = .ok (.istore 5, 2) := by decide +kernel
theorem dL_law_1309 : decode cL_law 1309 = .ok (.aload_n 2, 1) := by decide +kernel
theorem dL_law_1310 : decode cL_law 1310 = .ok (.aload_n 0, 1) := by decide +kernel
theorem dL_law_1311 : decode cL_law 1311 = .ok (.iload 4, 2) := by decide +kernel
theorem dL_law_1313 : decode cL_law 1313 = .ok (.iconst 1, 1) := by decide +kernel
theorem dL_law_1314 : decode cL_law 1314 = .ok (.iadd, 1) := by decide +kernel
theorem dL_law_1315 : decode cL_law 1315 = .ok (.iaload, 1) := by decide +kernel
theorem dL_law_1316 : decode cL_law 1316 = .ok (.aload_n 0, 1) := by decide +kernel
theorem dL_law_1317 : decode cL_law 1317 = .ok (.iload 4, 2) := by decide +kernel
theorem dL_law_1319 : decode cL_law 1319 = .ok (.iconst 2, 1) := by decide +kernel
theorem dL_law_1320 : decode cL_law 1320 = .ok (.iadd, 1) := by decide +kernel
theorem dL_law_1321 : decode cL_law 1321 = .ok (.iaload, 1) := by decide +kernel
theorem dL_law_1322 : decode cL_law 1322 = .ok (.aload_n 0, 1) := by decide +kernel
theorem dL_law_1323 : decode cL_law 1323 = .ok (.iload 4, 2) := by decide +kernel
theorem dL_law_1325 : decode cL_law 1325 = .ok (.iconst 3, 1) := by decide +kernel
theorem dL_law_1326 : decode cL_law 1326 = .ok (.iadd, 1) := by decide +kernel
theorem dL_law_1327 : decode cL_law 1327 = .ok (.iaload, 1) := by decide +kernel
theorem dL_law_1328 : decode cL_law 1328 = .ok (.invokevirtual 174, 3) := by decide +kernel
theorem dL_law_1331 : decode cL_law 1331 = .ok (.istore 6, 2) := by decide +kernel
theorem dL_law_1333 : decode cL_law 1333 = .ok (.aload_n 2, 1) := by decide +kernel
theorem dL_law_1334 : decode cL_law 1334 = .ok (.invokevirtual 101, 3) := by decide +kernel
theorem dL_law_1337 : decode cL_law 1337 = .ok (.iload 5, 2) := by decide +kernel
theorem dL_law_1339 : decode cL_law 1339 = .ok (.if_icmp .eq 5, 3) := by decide +kernel
theorem dL_law_1344 : decode cL_law 1344 = .ok (.iload 5, 2) := by decide +kernel
theorem dL_law_1346 : decode cL_law 1346 = .ok (.ifCond .ne 15, 3) := by decide +kernel
theorem dL_law_1361 : decode cL_law 1361 = .ok (.goto 536, 3) := by decide +kernel
theorem dL_law_1364 : decode cL_law 1364 = .ok (.aload_n 1, 1) := by decide +kernel
theorem dL_law_1365 : decode cL_law 1365 = .ok (.aload_n 0, 1) := by decide +kernel
theorem dL_law_1366 : decode cL_law 1366 = .ok (.iload 4, 2) := by decide +kernel
theorem dL_law_1368 : decode cL_law 1368 = .ok (.iconst 1, 1) := by decide +kernel
theorem dL_law_1369 : decode cL_law 1369 = .ok (.iadd, 1) := by decide +kernel
theorem dL_law_1370 : decode cL_law 1370 = .ok (.iaload, 1) := by decide +kernel
theorem dL_law_1371 : decode cL_law 1371 = .ok (.aload_n 3, 1) := by decide +kernel
theorem dL_law_1372 : decode cL_law 1372 = .ok (.invokestatic 175, 3) := by decide +kernel
theorem dL_law_1375 : decode cL_law 1375 = .ok (.istore 5, 2) := by decide +kernel
theorem dL_law_1377 : decode cL_law 1377 = .ok (.aload_n 2, 1) := by decide +kernel
theorem dL_law_1378 : decode cL_law 1378 = .ok (.aload_n 0, 1) := by decide +kernel
theorem dL_law_1379 : decode cL_law 1379 = .ok (.iload 4, 2) := by decide +kernel
theorem dL_law_1381 : decode cL_law 1381 = .ok (.iconst 1, 1) := by decide +kernel
theorem dL_law_1382 : decode cL_law 1382 = .ok (.iadd, 1) := by decide +kernel
theorem dL_law_1383 : decode cL_law 1383 = .ok (.iaload, 1) := by decide +kernel
theorem dL_law_1384 : decode cL_law 1384 = .ok (.invokevirtual 177, 3) := by decide +kernel
theorem dL_law_1387 : decode cL_law 1387 = .ok (.istore 6, 2) := by decide +kernel
theorem dL_law_1389 : decode cL_law 1389 = .ok (.aload_n 2, 1) := by decide +kernel
theorem dL_law_1390 : decode cL_law 1390 = .ok (.invokevirtual 101, 3) := by decide +kernel
theorem dL_law_1393 : decode cL_law 1393 = .ok (.iload 5, 2) := by decide +kernel
theorem dL_law_1395 : decode cL_law 1395 = .ok (.if_icmp .eq 5, 3) := by decide +kernel
theorem dL_law_1400 : decode cL_law 1400 = .ok (.iload 5, 2) := by decide +kernel
theorem dL_law_1402 : decode cL_law 1402 = .ok (.ifCond .ne 15, 3) := by decide +kernel
theorem dL_law_1405 : decode cL_law 1405 = .ok (.aload_n 3, 1) := by decide +kernel
theorem dL_law_1406 : decode cL_law 1406 = .ok (.iconst 0, 1) := by decide +kernel
theorem dL_law_1407 : decode cL_law 1407 = .ok (.laload, 1) := by decide +kernel
theorem dL_law_1408 : decode cL_law 1408 = .ok (.iload 6, 2) := by decide +kernel
theorem dL_law_1410 : decode cL_law 1410 = .ok (.i2l, 1) := by decide +kernel
theorem dL_law_1411 : decode cL_law 1411 = .ok (.lcmp, 1) := by decide +kernel
theorem dL_law_1412 : decode cL_law 1412 = .ok (.ifCond .eq 5, 3) := by decide +kernel
theorem dL_law_1417 : decode cL_law 1417 = .ok (.goto 480, 3) := by decide +kernel
theorem dL_law_1420 : decode cL_law 1420 = .ok (.aload_n 1, 1) := by decide +kernel
theorem dL_law_1421 : decode cL_law 1421 = .ok (.aload_n 0, 1) := by decide +kernel
theorem dL_law_1422 : decode cL_law 1422 = .ok (.iload 4, 2) := by decide +kernel
theorem dL_law_1424 : decode cL_law 1424 = .ok (.iconst 1, 1) := by decide +kernel
theorem dL_law_1425 : decode cL_law 1425 = .ok (.iadd, 1) := by decide +kernel
theorem dL_law_1426 : decode cL_law 1426 = .ok (.iaload, 1) := by decide +kernel
theorem dL_law_1427 : decode cL_law 1427 = .ok (.aload_n 3, 1) := by decide +kernel
theorem dL_law_1428 : decode cL_law 1428 = .ok (.invokestatic 178, 3) := by decide +kernel
theorem dL_law_1431 : decode cL_law 1431 = .ok (.istore 5, 2) := by decide +kernel
theorem dL_law_1433 : decode cL_law 1433 = .ok (.aload_n 2, 1) := by decide +kernel
theorem dL_law_1434 : decode cL_law 1434 = .ok (.aload_n 0, 1) := by decide +kernel
theorem dL_law_1435 : decode cL_law 1435 = .ok (.iload 4, 2) := by decide +kernel
theorem dL_law_1437 : decode cL_law 1437 = .ok (.iconst 1, 1) := by decide +kernel
theorem dL_law_1438 : decode cL_law 1438 = .ok (.iadd, 1) := by decide +kernel
theorem dL_law_1439 : decode cL_law 1439 = .ok (.iaload, 1) := by decide +kernel
theorem dL_law_1440 : decode cL_law 1440 = .ok (.invokevirtual 180, 3) := by decide +kernel
theorem dL_law_1443 : decode cL_law 1443 = .ok (.istore 6, 2) := by decide +kernel
theorem dL_law_1445 : decode cL_law 1445 = .ok (.aload_n 2, 1) := by decide +kernel
theorem dL_law_1446 : decode cL_law 1446 = .ok (.invokevirtual 101, 3) := by decide +kernel
theorem dL_law_1449 : decode cL_law 1449 = .ok (.iload 5, 2) := by decide +kernel
theorem dL_law_1451 : decode cL_law 1451 = .ok (.if_icmp .eq 5, 3) := by decide +kernel
theorem dL_law_1456 : decode cL_law 1456 = .ok (.iload 5, 2) := by decide +kernel
theorem dL_law_1458 : decode cL_law 1458 = .ok (.ifCond .ne 15, 3) := by decide +kernel
theorem dL_law_1461 : decode cL_law 1461 = .ok (.aload_n 3, 1) := by decide +kernel
theorem dL_law_1462 : decode cL_law 1462 = .ok (.iconst 0, 1) := by decide +kernel
theorem dL_law_1463 : decode cL_law 1463 = .ok (.laload, 1) := by decide +kernel
theorem dL_law_1464 : decode cL_law 1464 = .ok (.iload 6, 2) := by decide +kernel
theorem dL_law_1466 : decode cL_law 1466 = .ok (.i2l, 1) := by decide +kernel
theorem dL_law_1467 : decode cL_law 1467 = .ok (.lcmp, 1) := by decide +kernel
theorem dL_law_1468 : decode cL_law 1468 = .ok (.ifCond .eq 5, 3) := by decide +kernel
theorem dL_law_1473 : decode cL_law 1473 = .ok (.goto 424, 3) := by decide +kernel
theorem dL_law_1476 : decode cL_law 1476 = .ok (.aload_n 1, 1) := by decide +kernel
theorem dL_law_1477 : decode cL_law 1477 = .ok (.aload_n 0, 1) := by decide +kernel
theorem dL_law_1478 : decode cL_law 1478 = .ok (.iload 4, 2) := by decide +kernel
theorem dL_law_1480 : decode cL_law 1480 = .ok (.iconst 1, 1) := by decide +kernel
theorem dL_law_1481 : decode cL_law 1481 = .ok (.iadd, 1) := by decide +kernel
theorem dL_law_1482 : decode cL_law 1482 = .ok (.iaload, 1) := by decide +kernel
theorem dL_law_1483 : decode cL_law 1483 = .ok (.aload_n 0, 1) := by decide +kernel
theorem dL_law_1484 : decode cL_law 1484 = .ok (.iload 4, 2) := by decide +kernel
theorem dL_law_1486 : decode cL_law 1486 = .ok (.iconst 2, 1) := by decide +kernel
theorem dL_law_1487 : decode cL_law 1487 = .ok (.iadd, 1) := by decide +kernel
theorem dL_law_1488 : decode cL_law 1488 = .ok (.iaload, 1) := by decide +kernel
theorem dL_law_1489 : decode cL_law 1489 = .ok (.aload_n 0, 1) := by decide +kernel
theorem dL_law_1490 : decode cL_law 1490 = .ok (.iload 4, 2) := by decide +kernel
theorem dL_law_1492 : decode cL_law 1492 = .ok (.iconst 3, 1) := by decide +kernel
theorem dL_law_1493 : decode cL_law 1493 = .ok (.iadd, 1) := by decide +kernel
theorem dL_law_1494 : decode cL_law 1494 = .ok (.iaload, 1) := by decide +kernel
theorem dL_law_1495 : decode cL_law 1495 = .ok (.aload_n 3, 1) := by decide +kernel
theorem dL_law_1496 : decode cL_law 1496 = .ok (.invokestatic 181, 3) := by decide +kernel
theorem dL_law_1499 : decode cL_law 1499 = .ok (.istore 5, 2) := by decide +kernel
theorem dL_law_1501 : decode cL_law 1501 = .ok (.aload_n 2, 1) := by decide +kernel
theorem dL_law_1502 : decode cL_law 1502 = .ok (.aload_n 0, 1) := by decide +kernel
theorem dL_law_1503 : decode cL_law 1503 = .ok (.iload 4, 2) := by decide +kernel
theorem dL_law_1505 : decode cL_law 1505 = .ok (.iconst 1, 1) := by decide +kernel
theorem dL_law_1506 : decode cL_law 1506 = .ok (.iadd, 1) := by decide +kernel
theorem dL_law_1507 : decode cL_law 1507 = .ok (.iaload, 1) := by decide +kernel
theorem dL_law_1508 : decode cL_law 1508 = .ok (.aload_n 0, 1) := by decide +kernel
theorem dL_law_1509 : decode cL_law 1509 = .ok (.iload 4, 2) := by decide +kernel
theorem dL_law_1511 : decode cL_law 1511 = .ok (.iconst 2, 1) := by decide +kernel
theorem dL_law_1512 : decode cL_law 1512 = .ok (.iadd, 1) := by decide +kernel
theorem dL_law_1513 : decode cL_law 1513 = .ok (.iaload, 1) := by decide +kernel
theorem dL_law_1514 : decode cL_law 1514 = .ok (.aload_n 0, 1) := by decide +kernel
theorem dL_law_1515 : decode cL_law 1515 = .ok (.iload 4, 2) := by decide +kernel
theorem dL_law_1517 : decode cL_law 1517 = .ok (.iconst 3, 1) := by decide +kernel
theorem dL_law_1518 : decode cL_law 1518 = .ok (.iadd, 1) := by decide +kernel
theorem dL_law_1519 : decode cL_law 1519 = .ok (.iaload, 1) := by decide +kernel
theorem dL_law_1520 : decode cL_law 1520 = .ok (.invokevirtual 183, 3) := by decide +kernel
theorem dL_law_1523 : decode cL_law 1523 = .ok (.istore 6, 2) := by decide +kernel
theorem dL_law_1525 : decode cL_law 1525 = .ok (.aload_n 2, 1) := by decide +kernel
theorem dL_law_1526 : decode cL_law 1526 = .ok (.invokevirtual 101, 3) := by decide +kernel
theorem dL_law_1529 : decode cL_law 1529 = .ok (.iload 5, 2) := by decide +kernel
theorem dL_law_1531 : decode cL_law 1531 = .ok (.if_icmp .eq 5, 3) := by decide +kernel
theorem dL_law_1536 : decode cL_law 1536 = .ok (.iload 5, 2) := by decide +kernel
theorem dL_law_1538 : decode cL_law 1538 = .ok (.ifCond .ne 15, 3) := by decide +kernel
theorem dL_law_1553 : decode cL_law 1553 = .ok (.goto 344, 3) := by decide +kernel
theorem dL_law_1556 : decode cL_law 1556 = .ok (.aload_n 1, 1) := by decide +kernel
theorem dL_law_1557 : decode cL_law 1557 = .ok (.aload_n 0, 1) := by decide +kernel
theorem dL_law_1558 : decode cL_law 1558 = .ok (.iload 4, 2) := by decide +kernel
theorem dL_law_1560 : decode cL_law 1560 = .ok (.iconst 1, 1) := by decide +kernel
theorem dL_law_1561 : decode cL_law 1561 = .ok (.iadd, 1) := by decide +kernel
theorem dL_law_1562 : decode cL_law 1562 = .ok (.iaload, 1) := by decide +kernel
theorem dL_law_1563 : decode cL_law 1563 = .ok (.invokevirtual 184, 3) := by decide +kernel
theorem dL_law_1566 : decode cL_law 1566 = .ok (.aload_n 2, 1) := by decide +kernel
theorem dL_law_1567 : decode cL_law 1567 = .ok (.aload_n 0, 1) := by decide +kernel
theorem dL_law_1568 : decode cL_law 1568 = .ok (.iload 4, 2) := by decide +kernel
theorem dL_law_1570 : decode cL_law 1570 = .ok (.iconst 1, 1) := by decide +kernel
theorem dL_law_1571 : decode cL_law 1571 = .ok (.iadd, 1) := by decide +kernel
theorem dL_law_1572 : decode cL_law 1572 = .ok (.iaload, 1) := by decide +kernel
theorem dL_law_1573 : decode cL_law 1573 = .ok (.invokevirtual 187, 3) := by decide +kernel
theorem dL_law_1576 : decode cL_law 1576 = .ok (.if_icmp .eq 321, 3) := by decide +kernel
theorem dL_law_1581 : decode cL_law 1581 = .ok (.aload_n 1, 1) := by decide +kernel
theorem dL_law_1582 : decode cL_law 1582 = .ok (.aload_n 0, 1) := by decide +kernel
theorem dL_law_1583 : decode cL_law 1583 = .ok (.iload 4, 2) := by decide +kernel
theorem dL_law_1585 : decode cL_law 1585 = .ok (.iconst 1, 1) := by decide +kernel
theorem dL_law_1586 : decode cL_law 1586 = .ok (.iadd, 1) := by decide +kernel
theorem dL_law_1587 : decode cL_law 1587 = .ok (.iaload, 1) := by decide +kernel
theorem dL_law_1588 : decode cL_law 1588 = .ok (.aload_n 3, 1) := by decide +kernel
theorem dL_law_1589 : decode cL_law 1589 = .ok (.invokestatic 188, 3) := by decide +kernel
theorem dL_law_1592 : decode cL_law 1592 = .ok (.istore 5, 2) := by decide +kernel
theorem dL_law_1594 : decode cL_law 1594 = .ok (.aload_n 2, 1) := by decide +kernel
theorem dL_law_1595 : decode cL_law 1595 = .ok (.aload_n 0, 1) := by decide +kernel
theorem dL_law_1596 : decode cL_law 1596 = .ok (.iload 4, 2) := by decide +kernel
theorem dL_law_1598 : decode cL_law 1598 = .ok (.iconst 1, 1) := by decide +kernel
theorem dL_law_1599 : decode cL_law 1599 = .ok (.iadd, 1) := by decide +kernel
theorem dL_law_1600 : decode cL_law 1600 = .ok (.iaload, 1) := by decide +kernel
theorem dL_law_1601 : decode cL_law 1601 = .ok (.invokevirtual 190, 3) := by decide +kernel
theorem dL_law_1604 : decode cL_law 1604 = .ok (.istore 6, 2) := by decide +kernel
theorem dL_law_1606 : decode cL_law 1606 = .ok (.aload_n 2, 1) := by decide +kernel
theorem dL_law_1607 : decode cL_law 1607 = .ok (.invokevirtual 101, 3) := by decide +kernel
theorem dL_law_1610 : decode cL_law 1610 = .ok (.iload 5, 2) := by decide +kernel
theorem dL_law_1612 : decode cL_law 1612 = .ok (.if_icmp .eq 5, 3) := by decide +kernel
theorem dL_law_1617 : decode cL_law 1617 = .ok (.iload 5, 2) := by decide +kernel
theorem dL_law_1619 : decode cL_law 1619 = .ok (.ifCond .ne 15, 3) := by decide +kernel
theorem dL_law_1634 : decode cL_law 1634 = .ok (.goto 263, 3) := by decide +kernel
theorem dL_law_1637 : decode cL_law 1637 = .ok (.aload_n 1, 1) := by decide +kernel
theorem dL_law_1638 : decode cL_law 1638 = .ok (.aload_n 0, 1) := by decide +kernel
theorem dL_law_1639 : decode cL_law 1639 = .ok (.iload 4, 2) := by decide +kernel
theorem dL_law_1641 : decode cL_law 1641 = .ok (.iconst 1, 1) := by decide +kernel
theorem dL_law_1642 : decode cL_law 1642 = .ok (.iadd, 1) := by decide +kernel
theorem dL_law_1643 : decode cL_law 1643 = .ok (.iaload, 1) := by decide +kernel
theorem dL_law_1644 : decode cL_law 1644 = .ok (.aload_n 3, 1) := by decide +kernel
theorem dL_law_1645 : decode cL_law 1645 = .ok (.invokestatic 191, 3) := by decide +kernel
theorem dL_law_1648 : decode cL_law 1648 = .ok (.istore 5, 2) := by decide +kernel
theorem dL_law_1650 : decode cL_law 1650 = .ok (.aload_n 2, 1) := by decide +kernel
theorem dL_law_1651 : decode cL_law 1651 = .ok (.aload_n 0, 1) := by decide +kernel
theorem dL_law_1652 : decode cL_law 1652 = .ok (.iload 4, 2) := by decide +kernel
theorem dL_law_1654 : decode cL_law 1654 = .ok (.iconst 1, 1) := by decide +kernel
theorem dL_law_1655 : decode cL_law 1655 = .ok (.iadd, 1) := by decide +kernel
theorem dL_law_1656 : decode cL_law 1656 = .ok (.iaload, 1) := by decide +kernel
theorem dL_law_1657 : decode cL_law 1657 = .ok (.invokevirtual 193, 3) := by decide +kernel
theorem dL_law_1660 : decode cL_law 1660 = .ok (.istore 6, 2) := by decide +kernel
theorem dL_law_1662 : decode cL_law 1662 = .ok (.aload_n 2, 1) := by decide +kernel
theorem dL_law_1663 : decode cL_law 1663 = .ok (.invokevirtual 101, 3) := by decide +kernel
theorem dL_law_1666 : decode cL_law 1666 = .ok (.iload 5, 2) := by decide +kernel
theorem dL_law_1668 : decode cL_law 1668 = .ok (.if_icmp .eq 5, 3) := by decide +kernel
theorem dL_law_1673 : decode cL_law 1673 = .ok (.iload 5, 2) := by decide +kernel
theorem dL_law_1675 : decode cL_law 1675 = .ok (.ifCond .ne 15, 3) := by decide +kernel
theorem dL_law_1690 : decode cL_law 1690 = .ok (.goto 207, 3) := by decide +kernel
theorem dL_law_1693 : decode cL_law 1693 = .ok (.aload_n 1, 1) := by decide +kernel
theorem dL_law_1694 : decode cL_law 1694 = .ok (.aload_n 0, 1) := by decide +kernel
theorem dL_law_1695 : decode cL_law 1695 = .ok (.iload 4, 2) := by decide +kernel
theorem dL_law_1697 : decode cL_law 1697 = .ok (.iconst 1, 1) := by decide +kernel
theorem dL_law_1698 : decode cL_law 1698 = .ok (.iadd, 1) := by decide +kernel
theorem dL_law_1699 : decode cL_law 1699 = .ok (.iaload, 1) := by decide +kernel
theorem dL_law_1700 : decode cL_law 1700 = .ok (.aload_n 0, 1) := by decide +kernel
theorem dL_law_1701 : decode cL_law 1701 = .ok (.iload 4, 2) := by decide +kernel
theorem dL_law_1703 : decode cL_law 1703 = .ok (.iconst 2, 1) := by decide +kernel
theorem dL_law_1704 : decode cL_law 1704 = .ok (.iadd, 1) := by decide +kernel
theorem dL_law_1705 : decode cL_law 1705 = .ok (.iaload, 1) := by decide +kernel
theorem dL_law_1706 : decode cL_law 1706 = .ok (.aload_n 3, 1) := by decide +kernel
theorem dL_law_1707 : decode cL_law 1707 = .ok (.invokestatic 194, 3) := by decide +kernel
theorem dL_law_1710 : decode cL_law 1710 = .ok (.istore 5, 2) := by decide +kernel
theorem dL_law_1712 : decode cL_law 1712 = .ok (.aload_n 2, 1) := by decide +kernel
theorem dL_law_1713 : decode cL_law 1713 = .ok (.aload_n 0, 1) := by decide +kernel
theorem dL_law_1714 : decode cL_law 1714 = .ok (.iload 4, 2) := by decide +kernel
theorem dL_law_1716 : decode cL_law 1716 = .ok (.iconst 1, 1) := by decide +kernel
theorem dL_law_1717 : decode cL_law 1717 = .ok (.iadd, 1) := by decide +kernel
theorem dL_law_1718 : decode cL_law 1718 = .ok (.iaload, 1) := by decide +kernel
theorem dL_law_1719 : decode cL_law 1719 = .ok (.aload_n 0, 1) := by decide +kernel
theorem dL_law_1720 : decode cL_law 1720 = .ok (.iload 4, 2) := by decide +kernel
theorem dL_law_1722 : decode cL_law 1722 = .ok (.iconst 2, 1) := by decide +kernel
theorem dL_law_1723 : decode cL_law 1723 = .ok (.iadd, 1) := by decide +kernel
theorem dL_law_1724 : decode cL_law 1724 = .ok (.iaload, 1) := by decide +kernel
theorem dL_law_1725 : decode cL_law 1725 = .ok (.invokevirtual 196, 3) := by decide +kernel
theorem dL_law_1728 : decode cL_law 1728 = .ok (.istore 6, 2) := by decide +kernel
theorem dL_law_1730 : decode cL_law 1730 = .ok (.aload_n 2, 1) := by decide +kernel
theorem dL_law_1731 : decode cL_law 1731 = .ok (.invokevirtual 101, 3) := by decide +kernel
theorem dL_law_1734 : decode cL_law 1734 = .ok (.iload 5, 2) := by decide +kernel
theorem dL_law_1736 : decode cL_law 1736 = .ok (.if_icmp .eq 5, 3) := by decide +kernel
theorem dL_law_1741 : decode cL_law 1741 = .ok (.iload 5, 2) := by decide +kernel
theorem dL_law_1743 : decode cL_law 1743 = .ok (.ifCond .ne 15, 3) := by decide +kernel
theorem dL_law_1746 : decode cL_law 1746 = .ok (.aload_n 3, 1) := by decide +kernel
theorem dL_law_1747 : decode cL_law 1747 = .ok (.iconst 0, 1) := by decide +kernel
theorem dL_law_1748 : decode cL_law 1748 = .ok (.laload, 1) := by decide +kernel
theorem dL_law_1749 : decode cL_law 1749 = .ok (.iload 6, 2) := by decide +kernel
theorem dL_law_1751 : decode cL_law 1751 = .ok (.i2l, 1) := by decide +kernel
theorem dL_law_1752 : decode cL_law 1752 = .ok (.lcmp, 1) := by decide +kernel
theorem dL_law_1753 : decode cL_law 1753 = .ok (.ifCond .eq 5, 3) := by decide +kernel
theorem dL_law_1758 : decode cL_law 1758 = .ok (.goto 139, 3) := by decide +kernel
theorem dL_law_176 : decode cL_law 176 = .ok (.aload_n 1, 1) := by decide +kernel
theorem dL_law_1761 : decode cL_law 1761 = .ok (.aload_n 1, 1) := by decide +kernel
theorem dL_law_1762 : decode cL_law 1762 = .ok (.aload_n 0, 1) := by decide +kernel
theorem dL_law_1763 : decode cL_law 1763 = .ok (.iload 4, 2) := by decide +kernel
theorem dL_law_1765 : decode cL_law 1765 = .ok (.iconst 1, 1) := by decide +kernel
theorem dL_law_1766 : decode cL_law 1766 = .ok (.iadd, 1) := by decide +kernel
theorem dL_law_1767 : decode cL_law 1767 = .ok (.iaload, 1) := by decide +kernel
theorem dL_law_1768 : decode cL_law 1768 = .ok (.aload_n 0, 1) := by decide +kernel
theorem dL_law_1769 : decode cL_law 1769 = .ok (.iload 4, 2) := by decide +kernel
theorem dL_law_177 : decode cL_law 177 = .ok (.aload_n 0, 1) := by decide +kernel
theorem dL_law_1771 : decode cL_law 1771 = .ok (.iconst 2, 1) := by decide +kernel
theorem dL_law_1772 : decode cL_law 1772 = .ok (.iadd, 1) := by decide +kernel
theorem dL_law_1773 : decode cL_law 1773 = .ok (.iaload, 1) := by decide +kernel
theorem dL_law_1774 : decode cL_law 1774 = .ok (.aload_n 3, 1) := by decide +kernel
theorem dL_law_1775 : decode cL_law 1775 = .ok (.invokestatic 197, 3) := by decide +kernel
theorem dL_law_1778 : decode cL_law 1778 = .ok (.istore 5, 2) := by decide +kernel
theorem dL_law_178 : decode cL_law 178 = .ok (.iload 4, 2) := by decide +kernel
theorem dL_law_1780 : decode cL_law 1780 = .ok (.aload_n 2, 1) := by decide +kernel
theorem dL_law_1781 : decode cL_law 1781 = .ok (.aload_n 0, 1) := by decide +kernel
theorem dL_law_1782 : decode cL_law 1782 = .ok (.iload 4, 2) := by decide +kernel
theorem dL_law_1784 : decode cL_law 1784 = .ok (.iconst 1, 1) := by decide +kernel
theorem dL_law_1785 : decode cL_law 1785 = .ok (.iadd, 1) := by decide +kernel
theorem dL_law_1786 : decode cL_law 1786 = .ok (.iaload, 1) := by decide +kernel
theorem dL_law_1787 : decode cL_law 1787 = .ok (.aload_n 0, 1) := by decide +kernel
theorem dL_law_1788 : decode cL_law 1788 = .ok (.iload 4, 2) := by decide +kernel
theorem dL_law_1790 : decode cL_law 1790 = .ok (.iconst 2, 1) := by decide +kernel
theorem dL_law_1791 : decode cL_law 1791 = .ok (.iadd, 1) := by decide +kernel
theorem dL_law_1792 : decode cL_law 1792 = .ok (.iaload, 1) := by decide +kernel
theorem dL_law_1793 : decode cL_law 1793 = .ok (.invokevirtual 199, 3) := by decide +kernel
theorem dL_law_1796 : decode cL_law 1796 = .ok (.istore 6, 2) := by decide +kernel
theorem dL_law_1798 : decode cL_law 1798 = .ok (.aload_n 2, 1) := by decide +kernel
theorem dL_law_1799 : decode cL_law 1799 = .ok (.invokevirtual 101, 3) := by decide +kernel
theorem dL_law_180 : decode cL_law 180 = .ok (.iconst 1, 1) := by decide +kernel
theorem dL_law_1802 : decode cL_law 1802 = .ok (.iload 5, 2) := by decide +kernel
theorem dL_law_1804 : decode cL_law 1804 = .ok (.if_icmp .eq 5, 3) := by decide +kernel
theorem dL_law_1809 : decode cL_law 1809 = .ok (.iload 5, 2) := by decide +kernel
theorem dL_law_181 : decode cL_law 181 = .ok (.iadd, 1) := by decide +kernel
theorem dL_law_1811 : decode cL_law 1811 = .ok (.ifCond .ne 15, 3) := by decide +kernel
theorem dL_law_182 : decode cL_law 182 = .ok (.iaload, 1) := by decide +kernel
theorem dL_law_1826 : decode cL_law 1826 = .ok (.goto 71, 3) := by decide +kernel
theorem dL_law_1829 : decode cL_law 1829 = .ok (.aload_n 1, 1) := by decide +kernel
theorem dL_law_183 : decode cL_law 183 = .ok (.aload_n 0, 1) := by decide +kernel
theorem dL_law_1830 : decode cL_law 1830 = .ok (.aload_n 0, 1) := by decide +kernel
theorem dL_law_1831 : decode cL_law 1831 = .ok (.iload 4, 2) := by decide +kernel
theorem dL_law_1833 : decode cL_law 1833 = .ok (.iconst 1, 1) := by decide +kernel
theorem dL_law_1834 : decode cL_law 1834 = .ok (.iadd, 1) := by decide +kernel
theorem dL_law_1835 : decode cL_law 1835 = .ok (.iaload, 1) := by decide +kernel
theorem dL_law_1836 : decode cL_law 1836 = .ok (.aload_n 0, 1) := by decide +kernel
theorem dL_law_1837 : decode cL_law 1837 = .ok (.iload 4, 2) := by decide +kernel
theorem dL_law_1839 : decode cL_law 1839 = .ok (.iconst 2, 1) := by decide +kernel
theorem dL_law_184 : decode cL_law 184 = .ok (.iload 4, 2) := by decide +kernel
theorem dL_law_1840 : decode cL_law 1840 = .ok (.iadd, 1) := by decide +kernel
theorem dL_law_1841 : decode cL_law 1841 = .ok (.iaload, 1) := by decide +kernel
theorem dL_law_1842 : decode cL_law 1842 = .ok (.aload_n 3, 1) := by decide +kernel
theorem dL_law_1843 : decode cL_law 1843 = .ok (.invokestatic 200, 3) := by decide +kernel
theorem dL_law_1846 : decode cL_law 1846 = .ok (.istore 5, 2) := by decide +kernel
theorem dL_law_1848 : decode cL_law 1848 = .ok (.aload_n 2, 1) := by decide +kernel
theorem dL_law_1849 : decode cL_law 1849 = .ok (.aload_n 0, 1) := by decide +kernel
theorem dL_law_1850 : decode cL_law 1850 = .ok (.iload 4, 2) := by decide +kernel
theorem dL_law_1852 : decode cL_law 1852 = .ok (.iconst 1, 1) := by decide +kernel
theorem dL_law_1853 : decode cL_law 1853 = .ok (.iadd, 1) := by decide +kernel
theorem dL_law_1854 : decode cL_law 1854 = .ok (.iaload, 1) := by decide +kernel
theorem dL_law_1855 : decode cL_law 1855 = .ok (.aload_n 0, 1) := by decide +kernel
theorem dL_law_1856 : decode cL_law 1856 = .ok (.iload 4, 2) := by decide +kernel
theorem dL_law_1858 : decode cL_law 1858 = .ok (.iconst 2, 1) := by decide +kernel
theorem dL_law_1859 : decode cL_law 1859 = .ok (.iadd, 1) := by decide +kernel
theorem dL_law_186 : decode cL_law 186 = .ok (.iconst 2, 1) := by decide +kernel
theorem dL_law_1860 : decode cL_law 1860 = .ok (.iaload, 1) := by decide +kernel
theorem dL_law_1861 : decode cL_law 1861 = .ok (.invokevirtual 202, 3) := by decide +kernel
theorem dL_law_1864 : decode cL_law 1864 = .ok (.istore 6, 2) := by decide +kernel
theorem dL_law_1866 : decode cL_law 1866 = .ok (.aload_n 2, 1) := by decide +kernel
theorem dL_law_1867 : decode cL_law 1867 = .ok (.invokevirtual 101, 3) := by decide +kernel
theorem dL_law_187 : decode cL_law 187 = .ok (.iadd, 1) := by decide +kernel
theorem dL_law_1870 : decode cL_law 1870 = .ok (.iload 5, 2) := by decide +kernel
theorem dL_law_1872 : decode cL_law 1872 = .ok (.if_icmp .eq 5, 3) := by decide +kernel
theorem dL_law_1877 : decode cL_law 1877 = .ok (.iload 5, 2) := by decide +kernel
theorem dL_law_1879 : decode cL_law 1879 = .ok (.ifCond .ne 15, 3) := by decide +kernel
theorem dL_law_188 : decode cL_law 188 = .ok (.iaload, 1) := by decide +kernel
theorem dL_law_1882 : decode cL_law 1882 = .ok (.aload_n 3, 1) := by decide +kernel
theorem dL_law_1883 : decode cL_law 1883 = .ok (.iconst 0, 1) := by decide +kernel
theorem dL_law_1884 : decode cL_law 1884 = .ok (.laload, 1) := by decide +kernel
theorem dL_law_1885 : decode cL_law 1885 = .ok (.iload 6, 2) := by decide +kernel
theorem dL_law_1887 : decode cL_law 1887 = .ok (.i2l, 1) := by decide +kernel
theorem dL_law_1888 : decode cL_law 1888 = .ok (.lcmp, 1) := by decide +kernel
theorem dL_law_1889 : decode cL_law 1889 = .ok (.ifCond .eq 5, 3) := by decide +kernel
theorem dL_law_189 : decode cL_law 189 = .ok (.aload_n 0, 1) := by decide +kernel
theorem dL_law_1894 : decode cL_law 1894 = .ok (.goto 3, 3) := by decide +kernel
theorem dL_law_1897 : decode cL_law 1897 = .ok (.iinc 4 6, 3) := by decide +kernel
theorem dL_law_190 : decode cL_law 190 = .ok (.iload 4, 2) := by decide +kernel
theorem dL_law_1900 : decode cL_law 1900 = .ok (.goto (-1877), 3) := by decide +kernel
theorem dL_law_1903 : decode cL_law 1903 = .ok (.iconst 1, 1) := by decide +kernel
theorem dL_law_1904 : decode cL_law 1904 = .ok (.ireturn, 1) := by decide +kernel
theorem dL_law_192 : decode cL_law 192 = .ok (.iconst 3, 1) := by decide +kernel
theorem dL_law_193 : decode cL_law 193 = .ok (.iadd, 1) := by decide +kernel
theorem dL_law_194 : decode cL_law 194 = .ok (.iaload, 1) := by decide +kernel
theorem dL_law_195 : decode cL_law 195 = .ok (.aload_n 0, 1) := by decide +kernel
theorem dL_law_196 : decode cL_law 196 = .ok (.iload 4, 2) := by decide +kernel
theorem dL_law_198 : decode cL_law 198 = .ok (.iconst 4, 1) := by decide +kernel
theorem dL_law_199 : decode cL_law 199 = .ok (.iadd, 1) := by decide +kernel
theorem dL_law_200 : decode cL_law 200 = .ok (.iaload, 1) := by decide +kernel
theorem dL_law_201 : decode cL_law 201 = .ok (.aload_n 0, 1) := by decide +kernel
theorem dL_law_202 : decode cL_law 202 = .ok (.iload 4, 2) := by decide +kernel
theorem dL_law_204 : decode cL_law 204 = .ok (.iconst 5, 1) := by decide +kernel
theorem dL_law_205 : decode cL_law 205 = .ok (.iadd, 1) := by decide +kernel
theorem dL_law_206 : decode cL_law 206 = .ok (.iaload, 1) := by decide +kernel
theorem dL_law_207 : decode cL_law 207 = .ok (.aload_n 3, 1) := by decide +kernel
theorem dL_law_208 : decode cL_law 208 = .ok (.invokestatic 95, 3) := by decide +kernel
theorem dL_law_211 : decode cL_law 211 = .ok (.istore 5, 2) := by decide +kernel
theorem dL_law_213 : decode cL_law 213 = .ok (.aload_n 2, 1) := by decide +kernel
theorem dL_law_214 : decode cL_law 214 = .ok (.aload_n 0, 1) := by decide +kernel
theorem dL_law_215 : decode cL_law 215 = .ok (.iload 4, 2) := by decide +kernel
theorem dL_law_217 : decode cL_law 217 = .ok (.iconst 1, 1) := by decide +kernel
theorem dL_law_218 : decode cL_law 218 = .ok (.iadd, 1) := by decide +kernel
theorem dL_law_219 : decode cL_law 219 = .ok (.iaload, 1) := by decide +kernel
theorem dL_law_220 : decode cL_law 220 = .ok (.aload_n 0, 1) := by decide +kernel
theorem dL_law_221 : decode cL_law 221 = .ok (.iload 4, 2) := by decide +kernel
theorem dL_law_223 : decode cL_law 223 = .ok (.iconst 2, 1) := by decide +kernel
theorem dL_law_224 : decode cL_law 224 = .ok (.iadd, 1) := by decide +kernel
theorem dL_law_225 : decode cL_law 225 = .ok (.iaload, 1) := by decide +kernel
theorem dL_law_226 : decode cL_law 226 = .ok (.aload_n 0, 1) := by decide +kernel
theorem dL_law_227 : decode cL_law 227 = .ok (.iload 4, 2) := by decide +kernel
theorem dL_law_229 : decode cL_law 229 = .ok (.iconst 3, 1) := by decide +kernel
theorem dL_law_23 : decode cL_law 23 = .ok (.iload 4, 2) := by decide +kernel
theorem dL_law_230 : decode cL_law 230 = .ok (.iadd, 1) := by decide +kernel
theorem dL_law_231 : decode cL_law 231 = .ok (.iaload, 1) := by decide +kernel
theorem dL_law_232 : decode cL_law 232 = .ok (.aload_n 0, 1) := by decide +kernel
theorem dL_law_233 : decode cL_law 233 = .ok (.iload 4, 2) := by decide +kernel
theorem dL_law_235 : decode cL_law 235 = .ok (.iconst 4, 1) := by decide +kernel
theorem dL_law_236 : decode cL_law 236 = .ok (.iadd, 1) := by decide +kernel
theorem dL_law_237 : decode cL_law 237 = .ok (.iaload, 1) := by decide +kernel
theorem dL_law_238 : decode cL_law 238 = .ok (.aload_n 0, 1) := by decide +kernel
theorem dL_law_239 : decode cL_law 239 = .ok (.iload 4, 2) := by decide +kernel
theorem dL_law_241 : decode cL_law 241 = .ok (.iconst 5, 1) := by decide +kernel
theorem dL_law_242 : decode cL_law 242 = .ok (.iadd, 1) := by decide +kernel
theorem dL_law_243 : decode cL_law 243 = .ok (.iaload, 1) := by decide +kernel
theorem dL_law_244 : decode cL_law 244 = .ok (.invokevirtual 100, 3) := by decide +kernel
theorem dL_law_247 : decode cL_law 247 = .ok (.istore 6, 2) := by decide +kernel
theorem dL_law_249 : decode cL_law 249 = .ok (.aload_n 2, 1) := by decide +kernel
theorem dL_law_25 : decode cL_law 25 = .ok (.aload_n 0, 1) := by decide +kernel
theorem dL_law_250 : decode cL_law 250 = .ok (.invokevirtual 101, 3) := by decide +kernel
theorem dL_law_253 : decode cL_law 253 = .ok (.iload 5, 2) := by decide +kernel
theorem dL_law_255 : decode cL_law 255 = .ok (.if_icmp .eq 5, 3) := by decide +kernel
theorem dL_law_26 : decode cL_law 26 = .ok (.arraylength, 1) := by decide +kernel
theorem dL_law_260 : decode cL_law 260 = .ok (.iload 5, 2) := by decide +kernel
theorem dL_law_262 : decode cL_law 262 = .ok (.ifCond .ne 15, 3) := by decide +kernel
theorem dL_law_265 : decode cL_law 265 = .ok (.aload_n 3, 1) := by decide +kernel
theorem dL_law_266 : decode cL_law 266 = .ok (.iconst 0, 1) := by decide +kernel
theorem dL_law_267 : decode cL_law 267 = .ok (.laload, 1) := by decide +kernel
theorem dL_law_268 : decode cL_law 268 = .ok (.iload 6, 2) := by decide +kernel
theorem dL_law_27 : decode cL_law 27 = .ok (.bipush 6, 2) := by decide +kernel
theorem dL_law_270 : decode cL_law 270 = .ok (.i2l, 1) := by decide +kernel
theorem dL_law_271 : decode cL_law 271 = .ok (.lcmp, 1) := by decide +kernel
theorem dL_law_272 : decode cL_law 272 = .ok (.ifCond .eq 5, 3) := by decide +kernel
theorem dL_law_277 : decode cL_law 277 = .ok (.goto 1620, 3) := by decide +kernel
theorem dL_law_280 : decode cL_law 280 = .ok (.aload_n 1, 1) := by decide +kernel
theorem dL_law_281 : decode cL_law 281 = .ok (.aload_n 0, 1) := by decide +kernel
theorem dL_law_282 : decode cL_law 282 = .ok (.iload 4, 2) := by decide +kernel
theorem dL_law_284 : decode cL_law 284 = .ok (.iconst 1, 1) := by decide +kernel
theorem dL_law_285 : decode cL_law 285 = .ok (.iadd, 1) := by decide +kernel
theorem dL_law_286 : decode cL_law 286 = .ok (.iaload, 1) := by decide +kernel
theorem dL_law_287 : decode cL_law 287 = .ok (.aload_n 3, 1) := by decide +kernel
theorem dL_law_288 : decode cL_law 288 = .ok (.invokestatic 105, 3) := by decide +kernel
theorem dL_law_29 : decode cL_law 29 = .ok (.isub, 1) := by decide +kernel
theorem dL_law_291 : decode cL_law 291 = .ok (.istore 5, 2) := by decide +kernel
theorem dL_law_293 : decode cL_law 293 = .ok (.aload_n 2, 1) := by decide +kernel
theorem dL_law_294 : decode cL_law 294 = .ok (.aload_n 0, 1) := by decide +kernel
theorem dL_law_295 : decode cL_law 295 = .ok (.iload 4, 2) := by decide +kernel
theorem dL_law_297 : decode cL_law 297 = .ok (.iconst 1, 1) := by decide +kernel
theorem dL_law_298 : decode cL_law 298 = .ok (.iadd, 1) := by decide +kernel
theorem dL_law_299 : decode cL_law 299 = .ok (.iaload, 1) := by decide +kernel
theorem dL_law_30 : decode cL_law 30 = .ok (.if_icmp .gt 1873, 3) := by decide +kernel
theorem dL_law_300 : decode cL_law 300 = .ok (.invokevirtual 108, 3) := by decide +kernel
theorem dL_law_303 : decode cL_law 303 = .ok (.istore 6, 2) := by decide +kernel
theorem dL_law_305 : decode cL_law 305 = .ok (.aload_n 2, 1) := by decide +kernel
theorem dL_law_306 : decode cL_law 306 = .ok (.invokevirtual 101, 3) := by decide +kernel
theorem dL_law_309 : decode cL_law 309 = .ok (.iload 5, 2) := by decide +kernel
theorem dL_law_311 : decode cL_law 311 = .ok (.if_icmp .eq 5, 3) := by decide +kernel
theorem dL_law_316 : decode cL_law 316 = .ok (.iload 5, 2) := by decide +kernel
theorem dL_law_318 : decode cL_law 318 = .ok (.ifCond .ne 15, 3) := by decide +kernel
theorem dL_law_321 : decode cL_law 321 = .ok (.aload_n 3, 1) := by decide +kernel
theorem dL_law_322 : decode cL_law 322 = .ok (.iconst 0, 1) := by decide +kernel
theorem dL_law_323 : decode cL_law 323 = .ok (.laload, 1) := by decide +kernel
theorem dL_law_324 : decode cL_law 324 = .ok (.iload 6, 2) := by decide +kernel
theorem dL_law_326 : decode cL_law 326 = .ok (.i2l, 1) := by decide +kernel
theorem dL_law_327 : decode cL_law 327 = .ok (.lcmp, 1) := by decide +kernel
theorem dL_law_328 : decode cL_law 328 = .ok (.ifCond .eq 5, 3) := by decide +kernel
theorem dL_law_333 : decode cL_law 333 = .ok (.goto 1564, 3) := by decide +kernel
theorem dL_law_336 : decode cL_law 336 = .ok (.aload_n 1, 1) := by decide +kernel
theorem dL_law_337 : decode cL_law 337 = .ok (.invokevirtual 109, 3) := by decide +kernel
theorem dL_law_340 : decode cL_law 340 = .ok (.aload_n 2, 1) := by decide +kernel
theorem dL_law_341 : decode cL_law 341 = .ok (.invokevirtual 112, 3) := by decide +kernel
theorem dL_law_344 : decode cL_law 344 = .ok (.if_icmp .eq 1553, 3) := by decide +kernel
theorem dL_law_349 : decode cL_law 349 = .ok (.aload_n 1, 1) := by decide +kernel
theorem dL_law_350 : decode cL_law 350 = .ok (.invokevirtual 113, 3) := by decide +kernel
theorem dL_law_353 : decode cL_law 353 = .ok (.aload_n 2, 1) := by decide +kernel
theorem dL_law_354 : decode cL_law 354 = .ok (.invokevirtual 116, 3) := by decide +kernel
theorem dL_law_357 : decode cL_law 357 = .ok (.if_icmp .eq 1540, 3) := by decide +kernel
theorem dL_law_362 : decode cL_law 362 = .ok (.aload_n 1, 1) := by decide +kernel
theorem dL_law_363 : decode cL_law 363 = .ok (.aload_n 0, 1) := by decide +kernel
theorem dL_law_364 : decode cL_law 364 = .ok (.iload 4, 2) := by decide +kernel
theorem dL_law_366 : decode cL_law 366 = .ok (.iconst 1, 1) := by decide +kernel
theorem dL_law_367 : decode cL_law 367 = .ok (.iadd, 1) := by decide +kernel
theorem dL_law_368 : decode cL_law 368 = .ok (.iaload, 1) := by decide +kernel
theorem dL_law_369 : decode cL_law 369 = .ok (.invokevirtual 117, 3) := by decide +kernel
theorem dL_law_372 : decode cL_law 372 = .ok (.aload_n 2, 1) := by decide +kernel
theorem dL_law_373 : decode cL_law 373 = .ok (.aload_n 0, 1) := by decide +kernel
theorem dL_law_374 : decode cL_law 374 = .ok (.iload 4, 2) := by decide +kernel
theorem dL_law_376 : decode cL_law 376 = .ok (.iconst 1, 1) := by decide +kernel
theorem dL_law_377 : decode cL_law 377 = .ok (.iadd, 1) := by decide +kernel
theorem dL_law_378 : decode cL_law 378 = .ok (.iaload, 1) := by decide +kernel
theorem dL_law_379 : decode cL_law 379 = .ok (.invokevirtual 120, 3) := by decide +kernel
theorem dL_law_382 : decode cL_law 382 = .ok (.if_icmp .eq 1515, 3) := by decide +kernel
theorem dL_law_387 : decode cL_law 387 = .ok (.aload_n 1, 1) := by decide +kernel
theorem dL_law_388 : decode cL_law 388 = .ok (.aload_n 0, 1) := by decide +kernel
theorem dL_law_389 : decode cL_law 389 = .ok (.iload 4, 2) := by decide +kernel
theorem dL_law_391 : decode cL_law 391 = .ok (.iconst 1, 1) := by decide +kernel
theorem dL_law_392 : decode cL_law 392 = .ok (.iadd, 1) := by decide +kernel
theorem dL_law_393 : decode cL_law 393 = .ok (.iaload, 1) := by decide +kernel
theorem dL_law_394 : decode cL_law 394 = .ok (.aload_n 0, 1) := by decide +kernel
theorem dL_law_395 : decode cL_law 395 = .ok (.iload 4, 2) := by decide +kernel
theorem dL_law_397 : decode cL_law 397 = .ok (.iconst 2, 1) := by decide +kernel
theorem dL_law_398 : decode cL_law 398 = .ok (.iadd, 1) := by decide +kernel
theorem dL_law_399 : decode cL_law 399 = .ok (.iaload, 1) := by decide +kernel
theorem dL_law_400 : decode cL_law 400 = .ok (.aload_n 3, 1) := by decide +kernel
theorem dL_law_401 : decode cL_law 401 = .ok (.invokestatic 121, 3) := by decide +kernel
theorem dL_law_404 : decode cL_law 404 = .ok (.istore 5, 2) := by decide +kernel
theorem dL_law_406 : decode cL_law 406 = .ok (.aload_n 2, 1) := by decide +kernel
theorem dL_law_407 : decode cL_law 407 = .ok (.aload_n 0, 1) := by decide +kernel
theorem dL_law_408 : decode cL_law 408 = .ok (.iload 4, 2) := by decide +kernel
theorem dL_law_410 : decode cL_law 410 = .ok (.iconst 1, 1) := by decide +kernel
theorem dL_law_411 : decode cL_law 411 = .ok (.iadd, 1) := by decide +kernel
theorem dL_law_412 : decode cL_law 412 = .ok (.iaload, 1) := by decide +kernel
theorem dL_law_413 : decode cL_law 413 = .ok (.aload_n 0, 1) := by decide +kernel
theorem dL_law_414 : decode cL_law 414 = .ok (.iload 4, 2) := by decide +kernel
theorem dL_law_416 : decode cL_law 416 = .ok (.iconst 2, 1) := by decide +kernel
theorem dL_law_417 : decode cL_law 417 = .ok (.iadd, 1) := by decide +kernel
theorem dL_law_418 : decode cL_law 418 = .ok (.iaload, 1) := by decide +kernel
theorem dL_law_419 : decode cL_law 419 = .ok (.invokevirtual 124, 3) := by decide +kernel
theorem dL_law_422 : decode cL_law 422 = .ok (.istore 6, 2) := by decide +kernel
theorem dL_law_424 : decode cL_law 424 = .ok (.aload_n 2, 1) := by decide +kernel
theorem dL_law_425 : decode cL_law 425 = .ok (.invokevirtual 101, 3) := by decide +kernel
theorem dL_law_428 : decode cL_law 428 = .ok (.iload 5, 2) := by decide +kernel
theorem dL_law_430 : decode cL_law 430 = .ok (.if_icmp .eq 5, 3) := by decide +kernel
theorem dL_law_435 : decode cL_law 435 = .ok (.iload 5, 2) := by decide +kernel
theorem dL_law_437 : decode cL_law 437 = .ok (.ifCond .ne 15, 3) := by decide +kernel
theorem dL_law_440 : decode cL_law 440 = .ok (.aload_n 3, 1) := by decide +kernel
theorem dL_law_441 : decode cL_law 441 = .ok (.iconst 0, 1) := by decide +kernel
theorem dL_law_442 : decode cL_law 442 = .ok (.laload, 1) := by decide +kernel
theorem dL_law_443 : decode cL_law 443 = .ok (.iload 6, 2) := by decide +kernel
theorem dL_law_445 : decode cL_law 445 = .ok (.i2l, 1) := by decide +kernel
theorem dL_law_446 : decode cL_law 446 = .ok (.lcmp, 1) := by decide +kernel
theorem dL_law_447 : decode cL_law 447 = .ok (.ifCond .eq 5, 3) := by decide +kernel
theorem dL_law_452 : decode cL_law 452 = .ok (.goto 1445, 3) := by decide +kernel
theorem dL_law_455 : decode cL_law 455 = .ok (.aload_n 1, 1) := by decide +kernel
theorem dL_law_456 : decode cL_law 456 = .ok (.aload_n 0, 1) := by decide +kernel
theorem dL_law_457 : decode cL_law 457 = .ok (.iload 4, 2) := by decide +kernel
theorem dL_law_459 : decode cL_law 459 = .ok (.iconst 1, 1) := by decide +kernel
theorem dL_law_460 : decode cL_law 460 = .ok (.iadd, 1) := by decide +kernel
theorem dL_law_461 : decode cL_law 461 = .ok (.iaload, 1) := by decide +kernel
theorem dL_law_462 : decode cL_law 462 = .ok (.aload_n 3, 1) := by decide +kernel
theorem dL_law_463 : decode cL_law 463 = .ok (.invokestatic 125, 3) := by decide +kernel
theorem dL_law_466 : decode cL_law 466 = .ok (.istore 5, 2) := by decide +kernel
theorem dL_law_468 : decode cL_law 468 = .ok (.aload_n 2, 1) := by decide +kernel
theorem dL_law_469 : decode cL_law 469 = .ok (.aload_n 0, 1) := by decide +kernel
theorem dL_law_470 : decode cL_law 470 = .ok (.iload 4, 2) := by decide +kernel
theorem dL_law_472 : decode cL_law 472 = .ok (.iconst 1, 1) := by decide +kernel
theorem dL_law_473 : decode cL_law 473 = .ok (.iadd, 1) := by decide +kernel
theorem dL_law_474 : decode cL_law 474 = .ok (.iaload, 1) := by decide +kernel
theorem dL_law_475 : decode cL_law 475 = .ok (.invokevirtual 127, 3) := by decide +kernel
theorem dL_law_478 : decode cL_law 478 = .ok (.istore 6, 2) := by decide +kernel
theorem dL_law_480 : decode cL_law 480 = .ok (.aload_n 2, 1) := by decide +kernel
theorem dL_law_481 : decode cL_law 481 = .ok (.invokevirtual 101, 3) := by decide +kernel
theorem dL_law_484 : decode cL_law 484 = .ok (.iload 5, 2) := by decide +kernel
theorem dL_law_486 : decode cL_law 486 = .ok (.if_icmp .eq 5, 3) := by decide +kernel
theorem dL_law_491 : decode cL_law 491 = .ok (.iload 5, 2) := by decide +kernel
theorem dL_law_493 : decode cL_law 493 = .ok (.ifCond .ne 15, 3) := by decide +kernel
theorem dL_law_508 : decode cL_law 508 = .ok (.goto 1389, 3) := by decide +kernel
theorem dL_law_511 : decode cL_law 511 = .ok (.aload_n 1, 1) := by decide +kernel
theorem dL_law_512 : decode cL_law 512 = .ok (.aload_n 0, 1) := by decide +kernel
theorem dL_law_513 : decode cL_law 513 = .ok (.iload 4, 2) := by decide +kernel
theorem dL_law_515 : decode cL_law 515 = .ok (.iconst 1, 1) := by decide +kernel
theorem dL_law_516 : decode cL_law 516 = .ok (.iadd, 1) := by decide +kernel
theorem dL_law_517 : decode cL_law 517 = .ok (.iaload, 1) := by decide +kernel
theorem dL_law_518 : decode cL_law 518 = .ok (.aload_n 3, 1) := by decide +kernel
theorem dL_law_519 : decode cL_law 519 = .ok (.invokestatic 128, 3) := by decide +kernel
theorem dL_law_522 : decode cL_law 522 = .ok (.istore 5, 2) := by decide +kernel
theorem dL_law_524 : decode cL_law 524 = .ok (.aload_n 2, 1) := by decide +kernel
theorem dL_law_525 : decode cL_law 525 = .ok (.aload_n 0, 1) := by decide +kernel
theorem dL_law_526 : decode cL_law 526 = .ok (.iload 4, 2) := by decide +kernel
theorem dL_law_528 : decode cL_law 528 = .ok (.iconst 1, 1) := by decide +kernel
theorem dL_law_529 : decode cL_law 529 = .ok (.iadd, 1) := by decide +kernel
theorem dL_law_530 : decode cL_law 530 = .ok (.iaload, 1) := by decide +kernel
theorem dL_law_531 : decode cL_law 531 = .ok (.invokevirtual 130, 3) := by decide +kernel
theorem dL_law_534 : decode cL_law 534 = .ok (.istore 6, 2) := by decide +kernel
theorem dL_law_536 : decode cL_law 536 = .ok (.aload_n 2, 1) := by decide +kernel
theorem dL_law_537 : decode cL_law 537 = .ok (.invokevirtual 101, 3) := by decide +kernel
theorem dL_law_540 : decode cL_law 540 = .ok (.iload 5, 2) := by decide +kernel
theorem dL_law_542 : decode cL_law 542 = .ok (.if_icmp .eq 5, 3) := by decide +kernel
theorem dL_law_547 : decode cL_law 547 = .ok (.iload 5, 2) := by decide +kernel
theorem dL_law_549 : decode cL_law 549 = .ok (.ifCond .ne 15, 3) := by decide +kernel
theorem dL_law_564 : decode cL_law 564 = .ok (.goto 1333, 3) := by decide +kernel
theorem dL_law_567 : decode cL_law 567 = .ok (.aload_n 1, 1) := by decide +kernel
theorem dL_law_568 : decode cL_law 568 = .ok (.aload_n 0, 1) := by decide +kernel
theorem dL_law_569 : decode cL_law 569 = .ok (.iload 4, 2) := by decide +kernel
theorem dL_law_571 : decode cL_law 571 = .ok (.iconst 1, 1) := by decide +kernel
theorem dL_law_572 : decode cL_law 572 = .ok (.iadd, 1) := by decide +kernel
theorem dL_law_573 : decode cL_law 573 = .ok (.iaload, 1) := by decide +kernel
theorem dL_law_574 : decode cL_law 574 = .ok (.aload_n 0, 1) := by decide +kernel
theorem dL_law_575 : decode cL_law 575 = .ok (.iload 4, 2) := by decide +kernel
theorem dL_law_577 : decode cL_law 577 = .ok (.iconst 2, 1) := by decide +kernel
theorem dL_law_578 : decode cL_law 578 = .ok (.iadd, 1) := by decide +kernel
theorem dL_law_579 : decode cL_law 579 = .ok (.iaload, 1) := by decide +kernel
theorem dL_law_580 : decode cL_law 580 = .ok (.aload_n 3, 1) := by decide +kernel
theorem dL_law_581 : decode cL_law 581 = .ok (.invokestatic 131, 3) := by decide +kernel
theorem dL_law_584 : decode cL_law 584 = .ok (.istore 5, 2) := by decide +kernel
theorem dL_law_586 : decode cL_law 586 = .ok (.aload_n 2, 1) := by decide +kernel
theorem dL_law_587 : decode cL_law 587 = .ok (.aload_n 0, 1) := by decide +kernel
theorem dL_law_588 : decode cL_law 588 = .ok (.iload 4, 2) := by decide +kernel
theorem dL_law_590 : decode cL_law 590 = .ok (.iconst 1, 1) := by decide +kernel
theorem dL_law_591 : decode cL_law 591 = .ok (.iadd, 1) := by decide +kernel
theorem dL_law_592 : decode cL_law 592 = .ok (.iaload, 1) := by decide +kernel
theorem dL_law_593 : decode cL_law 593 = .ok (.aload_n 0, 1) := by decide +kernel
theorem dL_law_594 : decode cL_law 594 = .ok (.iload 4, 2) := by decide +kernel
theorem dL_law_596 : decode cL_law 596 = .ok (.iconst 2, 1) := by decide +kernel
theorem dL_law_597 : decode cL_law 597 = .ok (.iadd, 1) := by decide +kernel
theorem dL_law_598 : decode cL_law 598 = .ok (.iaload, 1) := by decide +kernel
theorem dL_law_599 : decode cL_law 599 = .ok (.invokevirtual 133, 3) := by decide +kernel
theorem dL_law_602 : decode cL_law 602 = .ok (.istore 6, 2) := by decide +kernel
theorem dL_law_604 : decode cL_law 604 = .ok (.aload_n 2, 1) := by decide +kernel
theorem dL_law_605 : decode cL_law 605 = .ok (.invokevirtual 101, 3) := by decide +kernel
theorem dL_law_608 : decode cL_law 608 = .ok (.iload 5, 2) := by decide +kernel
theorem dL_law_610 : decode cL_law 610 = .ok (.if_icmp .eq 5, 3) := by decide +kernel
theorem dL_law_615 : decode cL_law 615 = .ok (.iload 5, 2) := by decide +kernel
theorem dL_law_617 : decode cL_law 617 = .ok (.ifCond .ne 15, 3) := by decide +kernel
theorem dL_law_620 : decode cL_law 620 = .ok (.aload_n 3, 1) := by decide +kernel
theorem dL_law_621 : decode cL_law 621 = .ok (.iconst 0, 1) := by decide +kernel
theorem dL_law_622 : decode cL_law 622 = .ok (.laload, 1) := by decide +kernel
theorem dL_law_623 : decode cL_law 623 = .ok (.iload 6, 2) := by decide +kernel
theorem dL_law_625 : decode cL_law 625 = .ok (.i2l, 1) := by decide +kernel
theorem dL_law_626 : decode cL_law 626 = .ok (.lcmp, 1) := by decide +kernel
theorem dL_law_627 : decode cL_law 627 = .ok (.ifCond .eq 5, 3) := by decide +kernel
theorem dL_law_632 : decode cL_law 632 = .ok (.goto 1265, 3) := by decide +kernel
theorem dL_law_635 : decode cL_law 635 = .ok (.aload_n 1, 1) := by decide +kernel
theorem dL_law_636 : decode cL_law 636 = .ok (.aload_n 0, 1) := by decide +kernel
theorem dL_law_637 : decode cL_law 637 = .ok (.iload 4, 2) := by decide +kernel
theorem dL_law_639 : decode cL_law 639 = .ok (.iconst 1, 1) := by decide +kernel
theorem dL_law_640 : decode cL_law 640 = .ok (.iadd, 1) := by decide +kernel
theorem dL_law_641 : decode cL_law 641 = .ok (.iaload, 1) := by decide +kernel
theorem dL_law_642 : decode cL_law 642 = .ok (.aload_n 0, 1) := by decide +kernel
theorem dL_law_643 : decode cL_law 643 = .ok (.iload 4, 2) := by decide +kernel
theorem dL_law_645 : decode cL_law 645 = .ok (.iconst 2, 1) := by decide +kernel
theorem dL_law_646 : decode cL_law 646 = .ok (.iadd, 1) := by decide +kernel
theorem dL_law_647 : decode cL_law 647 = .ok (.iaload, 1) := by decide +kernel
theorem dL_law_648 : decode cL_law 648 = .ok (.aload_n 0, 1) := by decide +kernel
theorem dL_law_649 : decode cL_law 649 = .ok (.iload 4, 2) := by decide +kernel
theorem dL_law_651 : decode cL_law 651 = .ok (.iconst 3, 1) := by decide +kernel
theorem dL_law_652 : decode cL_law 652 = .ok (.iadd, 1) := by decide +kernel
theorem dL_law_653 : decode cL_law 653 = .ok (.iaload, 1) := by decide +kernel
theorem dL_law_654 : decode cL_law 654 = .ok (.aload_n 3, 1) := by decide +kernel
theorem dL_law_655 : decode cL_law 655 = .ok (.invokestatic 134, 3) := by decide +kernel
theorem dL_law_658 : decode cL_law 658 = .ok (.istore 5, 2) := by decide +kernel
theorem dL_law_660 : decode cL_law 660 = .ok (.aload_n 2, 1) := by decide +kernel
theorem dL_law_661 : decode cL_law 661 = .ok (.aload_n 0, 1) := by decide +kernel
theorem dL_law_662 : decode cL_law 662 = .ok (.iload 4, 2) := by decide +kernel
theorem dL_law_664 : decode cL_law 664 = .ok (.iconst 1, 1) := by decide +kernel
theorem dL_law_665 : decode cL_law 665 = .ok (.iadd, 1) := by decide +kernel
theorem dL_law_666 : decode cL_law 666 = .ok (.iaload, 1) := by decide +kernel
theorem dL_law_667 : decode cL_law 667 = .ok (.aload_n 0, 1) := by decide +kernel
theorem dL_law_668 : decode cL_law 668 = .ok (.iload 4, 2) := by decide +kernel
theorem dL_law_670 : decode cL_law 670 = .ok (.iconst 2, 1) := by decide +kernel
theorem dL_law_671 : decode cL_law 671 = .ok (.iadd, 1) := by decide +kernel
theorem dL_law_672 : decode cL_law 672 = .ok (.iaload, 1) := by decide +kernel
theorem dL_law_673 : decode cL_law 673 = .ok (.aload_n 0, 1) := by decide +kernel
theorem dL_law_674 : decode cL_law 674 = .ok (.iload 4, 2) := by decide +kernel
theorem dL_law_676 : decode cL_law 676 = .ok (.iconst 3, 1) := by decide +kernel
theorem dL_law_677 : decode cL_law 677 = .ok (.iadd, 1) := by decide +kernel
theorem dL_law_678 : decode cL_law 678 = .ok (.iaload, 1) := by decide +kernel
theorem dL_law_679 : decode cL_law 679 = .ok (.invokevirtual 137, 3) := by decide +kernel
theorem dL_law_682 : decode cL_law 682 = .ok (.istore 6, 2) := by decide +kernel
theorem dL_law_684 : decode cL_law 684 = .ok (.aload_n 2, 1) := by decide +kernel
theorem dL_law_685 : decode cL_law 685 = .ok (.invokevirtual 101, 3) := by decide +kernel
theorem dL_law_688 : decode cL_law 688 = .ok (.iload 5, 2) := by decide +kernel
theorem dL_law_690 : decode cL_law 690 = .ok (.if_icmp .eq 5, 3) := by decide +kernel
theorem dL_law_695 : decode cL_law 695 = .ok (.iload 5, 2) := by decide +kernel
theorem dL_law_697 : decode cL_law 697 = .ok (.ifCond .ne 15, 3) := by decide +kernel
theorem dL_law_712 : decode cL_law 712 = .ok (.goto 1185, 3) := by decide +kernel
theorem dL_law_715 : decode cL_law 715 = .ok (.aload_n 1, 1) := by decide +kernel
theorem dL_law_716 : decode cL_law 716 = .ok (.aload_n 0, 1) := by decide +kernel
theorem dL_law_717 : decode cL_law 717 = .ok (.iload 4, 2) := by decide +kernel
theorem dL_law_719 : decode cL_law 719 = .ok (.iconst 1, 1) := by decide +kernel
theorem dL_law_720 : decode cL_law 720 = .ok (.iadd, 1) := by decide +kernel
theorem dL_law_721 : decode cL_law 721 = .ok (.iaload, 1) := by decide +kernel
theorem dL_law_722 : decode cL_law 722 = .ok (.aload_n 3, 1) := by decide +kernel
theorem dL_law_723 : decode cL_law 723 = .ok (.invokestatic 138, 3) := by decide +kernel
theorem dL_law_726 : decode cL_law 726 = .ok (.istore 5, 2) := by decide +kernel
theorem dL_law_728 : decode cL_law 728 = .ok (.aload_n 2, 1) := by decide +kernel
theorem dL_law_729 : decode cL_law 729 = .ok (.aload_n 0, 1) := by decide +kernel
theorem dL_law_730 : decode cL_law 730 = .ok (.iload 4, 2) := by decide +kernel
theorem dL_law_732 : decode cL_law 732 = .ok (.iconst 1, 1) := by decide +kernel
theorem dL_law_733 : decode cL_law 733 = .ok (.iadd, 1) := by decide +kernel
theorem dL_law_734 : decode cL_law 734 = .ok (.iaload, 1) := by decide +kernel
theorem dL_law_735 : decode cL_law 735 = .ok (.invokevirtual 140, 3) := by decide +kernel
theorem dL_law_738 : decode cL_law 738 = .ok (.istore 6, 2) := by decide +kernel
theorem dL_law_740 : decode cL_law 740 = .ok (.aload_n 2, 1) := by decide +kernel
theorem dL_law_741 : decode cL_law 741 = .ok (.invokevirtual 101, 3) := by decide +kernel
theorem dL_law_744 : decode cL_law 744 = .ok (.iload 5, 2) := by decide +kernel
theorem dL_law_746 : decode cL_law 746 = .ok (.if_icmp .eq 5, 3) := by decide +kernel
theorem dL_law_751 : decode cL_law 751 = .ok (.iload 5, 2) := by decide +kernel
theorem dL_law_753 : decode cL_law 753 = .ok (.ifCond .ne 15, 3) := by decide +kernel
theorem dL_law_768 : decode cL_law 768 = .ok (.goto 1129, 3) := by decide +kernel
theorem dL_law_771 : decode cL_law 771 = .ok (.aload_n 1, 1) := by decide +kernel
theorem dL_law_772 : decode cL_law 772 = .ok (.aload_n 0, 1) := by decide +kernel
theorem dL_law_773 : decode cL_law 773 = .ok (.iload 4, 2) := by decide +kernel
theorem dL_law_775 : decode cL_law 775 = .ok (.iconst 1, 1) := by decide +kernel
theorem dL_law_776 : decode cL_law 776 = .ok (.iadd, 1) := by decide +kernel
theorem dL_law_777 : decode cL_law 777 = .ok (.iaload, 1) := by decide +kernel
theorem dL_law_778 : decode cL_law 778 = .ok (.aload_n 0, 1) := by decide +kernel
theorem dL_law_779 : decode cL_law 779 = .ok (.iload 4, 2) := by decide +kernel
theorem dL_law_781 : decode cL_law 781 = .ok (.iconst 2, 1) := by decide +kernel
theorem dL_law_782 : decode cL_law 782 = .ok (.iadd, 1) := by decide +kernel
theorem dL_law_783 : decode cL_law 783 = .ok (.iaload, 1) := by decide +kernel
theorem dL_law_784 : decode cL_law 784 = .ok (.aload_n 3, 1) := by decide +kernel
theorem dL_law_785 : decode cL_law 785 = .ok (.invokestatic 141, 3) := by decide +kernel
theorem dL_law_788 : decode cL_law 788 = .ok (.istore 5, 2) := by decide +kernel
theorem dL_law_790 : decode cL_law 790 = .ok (.aload_n 2, 1) := by decide +kernel
theorem dL_law_791 : decode cL_law 791 = .ok (.aload_n 0, 1) := by decide +kernel
theorem dL_law_792 : decode cL_law 792 = .ok (.iload 4, 2) := by decide +kernel
theorem dL_law_794 : decode cL_law 794 = .ok (.iconst 1, 1) := by decide +kernel
theorem dL_law_795 : decode cL_law 795 = .ok (.iadd, 1) := by decide +kernel
theorem dL_law_796 : decode cL_law 796 = .ok (.iaload, 1) := by decide +kernel
theorem dL_law_797 : decode cL_law 797 = .ok (.aload_n 0, 1) := by decide +kernel
theorem dL_law_798 : decode cL_law 798 = .ok (.iload 4, 2) := by decide +kernel
theorem dL_law_800 : decode cL_law 800 = .ok (.iconst 2, 1) := by decide +kernel
theorem dL_law_801 : decode cL_law 801 = .ok (.iadd, 1) := by decide +kernel
theorem dL_law_802 : decode cL_law 802 = .ok (.iaload, 1) := by decide +kernel
theorem dL_law_803 : decode cL_law 803 = .ok (.invokevirtual 143, 3) := by decide +kernel
theorem dL_law_806 : decode cL_law 806 = .ok (.istore 6, 2) := by decide +kernel
theorem dL_law_808 : decode cL_law 808 = .ok (.aload_n 2, 1) := by decide +kernel
theorem dL_law_809 : decode cL_law 809 = .ok (.invokevirtual 101, 3) := by decide +kernel
theorem dL_law_812 : decode cL_law 812 = .ok (.iload 5, 2) := by decide +kernel
theorem dL_law_814 : decode cL_law 814 = .ok (.if_icmp .eq 5, 3) := by decide +kernel
theorem dL_law_819 : decode cL_law 819 = .ok (.iload 5, 2) := by decide +kernel
theorem dL_law_821 : decode cL_law 821 = .ok (.ifCond .ne 15, 3) := by decide +kernel
theorem dL_law_824 : decode cL_law 824 = .ok (.aload_n 3, 1) := by decide +kernel
theorem dL_law_825 : decode cL_law 825 = .ok (.iconst 0, 1) := by decide +kernel
theorem dL_law_826 : decode cL_law 826 = .ok (.laload, 1) := by decide +kernel
theorem dL_law_827 : decode cL_law 827 = .ok (.iload 6, 2) := by decide +kernel
theorem dL_law_829 : decode cL_law 829 = .ok (.i2l, 1) := by decide +kernel
theorem dL_law_830 : decode cL_law 830 = .ok (.lcmp, 1) := by decide +kernel
theorem dL_law_831 : decode cL_law 831 = .ok (.ifCond .eq 5, 3) := by decide +kernel
theorem dL_law_836 : decode cL_law 836 = .ok (.goto 1061, 3) := by decide +kernel
theorem dL_law_839 : decode cL_law 839 = .ok (.aload_n 1, 1) := by decide +kernel
theorem dL_law_840 : decode cL_law 840 = .ok (.aload_n 0, 1) := by decide +kernel
theorem dL_law_841 : decode cL_law 841 = .ok (.iload 4, 2) := by decide +kernel
theorem dL_law_843 : decode cL_law 843 = .ok (.iconst 1, 1) := by decide +kernel
theorem dL_law_844 : decode cL_law 844 = .ok (.iadd, 1) := by decide +kernel
theorem dL_law_845 : decode cL_law 845 = .ok (.iaload, 1) := by decide +kernel
theorem dL_law_846 : decode cL_law 846 = .ok (.aload_n 0, 1) := by decide +kernel
theorem dL_law_847 : decode cL_law 847 = .ok (.iload 4, 2) := by decide +kernel
theorem dL_law_849 : decode cL_law 849 = .ok (.iconst 2, 1) := by decide +kernel
theorem dL_law_850 : decode cL_law 850 = .ok (.iadd, 1) := by decide +kernel
theorem dL_law_851 : decode cL_law 851 = .ok (.iaload, 1) := by decide +kernel
theorem dL_law_852 : decode cL_law 852 = .ok (.aload_n 3, 1) := by decide +kernel
theorem dL_law_853 : decode cL_law 853 = .ok (.invokestatic 144, 3) := by decide +kernel
theorem dL_law_856 : decode cL_law 856 = .ok (.istore 5, 2) := by decide +kernel
theorem dL_law_858 : decode cL_law 858 = .ok (.aload_n 2, 1) := by decide +kernel
theorem dL_law_859 : decode cL_law 859 = .ok (.aload_n 0, 1) := by decide +kernel
theorem dL_law_860 : decode cL_law 860 = .ok (.iload 4, 2) := by decide +kernel
theorem dL_law_862 : decode cL_law 862 = .ok (.iconst 1, 1) := by decide +kernel
theorem dL_law_863 : decode cL_law 863 = .ok (.iadd, 1) := by decide +kernel
theorem dL_law_864 : decode cL_law 864 = .ok (.iaload, 1) := by decide +kernel
theorem dL_law_865 : decode cL_law 865 = .ok (.aload_n 0, 1) := by decide +kernel
theorem dL_law_866 : decode cL_law 866 = .ok (.iload 4, 2) := by decide +kernel
theorem dL_law_868 : decode cL_law 868 = .ok (.iconst 2, 1) := by decide +kernel
theorem dL_law_869 : decode cL_law 869 = .ok (.iadd, 1) := by decide +kernel
theorem dL_law_870 : decode cL_law 870 = .ok (.iaload, 1) := by decide +kernel
theorem dL_law_871 : decode cL_law 871 = .ok (.invokevirtual 146, 3) := by decide +kernel
theorem dL_law_874 : decode cL_law 874 = .ok (.istore 6, 2) := by decide +kernel
theorem dL_law_876 : decode cL_law 876 = .ok (.aload_n 2, 1) := by decide +kernel
theorem dL_law_877 : decode cL_law 877 = .ok (.invokevirtual 101, 3) := by decide +kernel
theorem dL_law_880 : decode cL_law 880 = .ok (.iload 5, 2) := by decide +kernel
theorem dL_law_882 : decode cL_law 882 = .ok (.if_icmp .eq 5, 3) := by decide +kernel
theorem dL_law_887 : decode cL_law 887 = .ok (.iload 5, 2) := by decide +kernel
theorem dL_law_889 : decode cL_law 889 = .ok (.ifCond .ne 15, 3) := by decide +kernel
theorem dL_law_904 : decode cL_law 904 = .ok (.goto 993, 3) := by decide +kernel
theorem dL_law_907 : decode cL_law 907 = .ok (.aload_n 1, 1) := by decide +kernel
theorem dL_law_908 : decode cL_law 908 = .ok (.invokevirtual 147, 3) := by decide +kernel
theorem dL_law_911 : decode cL_law 911 = .ok (.aload_n 2, 1) := by decide +kernel
theorem dL_law_912 : decode cL_law 912 = .ok (.invokevirtual 151, 3) := by decide +kernel
theorem dL_law_915 : decode cL_law 915 = .ok (.lcmp, 1) := by decide +kernel
theorem dL_law_916 : decode cL_law 916 = .ok (.ifCond .eq 981, 3) := by decide +kernel
theorem dL_law_921 : decode cL_law 921 = .ok (.aload_n 1, 1) := by decide +kernel
theorem dL_law_922 : decode cL_law 922 = .ok (.aload_n 0, 1) := by decide +kernel
theorem dL_law_923 : decode cL_law 923 = .ok (.iload 4, 2) := by decide +kernel
theorem dL_law_925 : decode cL_law 925 = .ok (.iconst 1, 1) := by decide +kernel
theorem dL_law_926 : decode cL_law 926 = .ok (.iadd, 1) := by decide +kernel
theorem dL_law_927 : decode cL_law 927 = .ok (.iaload, 1) := by decide +kernel
theorem dL_law_928 : decode cL_law 928 = .ok (.aload_n 0, 1) := by decide +kernel
theorem dL_law_929 : decode cL_law 929 = .ok (.iload 4, 2) := by decide +kernel
theorem dL_law_931 : decode cL_law 931 = .ok (.iconst 2, 1) := by decide +kernel
theorem dL_law_932 : decode cL_law 932 = .ok (.iadd, 1) := by decide +kernel
theorem dL_law_933 : decode cL_law 933 = .ok (.iaload, 1) := by decide +kernel
theorem dL_law_934 : decode cL_law 934 = .ok (.ifCond .eq 7, 3) := by decide +kernel
theorem dL_law_937 : decode cL_law 937 = .ok (.iconst 1, 1) := by decide +kernel
theorem dL_law_938 : decode cL_law 938 = .ok (.goto 4, 3) := by decide +kernel
theorem dL_law_941 : decode cL_law 941 = .ok (.iconst 0, 1) := by decide +kernel
theorem dL_law_942 : decode cL_law 942 = .ok (.aload_n 3, 1) := by decide +kernel
theorem dL_law_943 : decode cL_law 943 = .ok (.invokestatic 152, 3) := by decide +kernel
theorem dL_law_946 : decode cL_law 946 = .ok (.istore 5, 2) := by decide +kernel
theorem dL_law_948 : decode cL_law 948 = .ok (.aload_n 2, 1) := by decide +kernel
theorem dL_law_949 : decode cL_law 949 = .ok (.aload_n 0, 1) := by decide +kernel
theorem dL_law_950 : decode cL_law 950 = .ok (.iload 4, 2) := by decide +kernel
theorem dL_law_952 : decode cL_law 952 = .ok (.iconst 1, 1) := by decide +kernel
theorem dL_law_953 : decode cL_law 953 = .ok (.iadd, 1) := by decide +kernel
theorem dL_law_954 : decode cL_law 954 = .ok (.iaload, 1) := by decide +kernel
theorem dL_law_955 : decode cL_law 955 = .ok (.aload_n 0, 1) := by decide +kernel
theorem dL_law_956 : decode cL_law 956 = .ok (.iload 4, 2) := by decide +kernel
theorem dL_law_958 : decode cL_law 958 = .ok (.iconst 2, 1) := by decide +kernel
theorem dL_law_959 : decode cL_law 959 = .ok (.iadd, 1) := by decide +kernel
theorem dL_law_960 : decode cL_law 960 = .ok (.iaload, 1) := by decide +kernel
theorem dL_law_961 : decode cL_law 961 = .ok (.ifCond .eq 7, 3) := by decide +kernel
theorem dL_law_964 : decode cL_law 964 = .ok (.iconst 1, 1) := by decide +kernel
theorem dL_law_965 : decode cL_law 965 = .ok (.goto 4, 3) := by decide +kernel
theorem dL_law_968 : decode cL_law 968 = .ok (.iconst 0, 1) := by decide +kernel
theorem dL_law_969 : decode cL_law 969 = .ok (.invokevirtual 155, 3) := by decide +kernel
theorem dL_law_972 : decode cL_law 972 = .ok (.lstore 6, 2) := by decide +kernel
theorem dL_law_974 : decode cL_law 974 = .ok (.aload_n 2, 1) := by decide +kernel
theorem dL_law_975 : decode cL_law 975 = .ok (.invokevirtual 101, 3) := by decide +kernel
theorem dL_law_978 : decode cL_law 978 = .ok (.iload 5, 2) := by decide +kernel
theorem dL_law_980 : decode cL_law 980 = .ok (.if_icmp .eq 5, 3) := by decide +kernel
theorem dL_law_985 : decode cL_law 985 = .ok (.iload 5, 2) := by decide +kernel
theorem dL_law_987 : decode cL_law 987 = .ok (.ifCond .ne 14, 3) := by decide +kernel
theorem dL_mean_0 : decode cL_mean 0 = .ok (.aload_n 2, 1) := by decide +kernel
theorem dL_mean_1 : decode cL_mean 1 = .ok (.iconst 0, 1) := by decide +kernel
theorem dL_mean_12 : decode cL_mean 12 = .ok (.astore_n 3, 1) := by decide +kernel
theorem dL_mean_13 : decode cL_mean 13 = .ok (.iconst 1, 1) := by decide +kernel
theorem dL_mean_14 : decode cL_mean 14 = .ok (.ireturn, 1) := by decide +kernel
theorem dL_mean_15 : decode cL_mean 15 = .ok (.iconst 0, 1) := by decide +kernel
theorem dL_mean_16 : decode cL_mean 16 = .ok (.ireturn, 1) := by decide +kernel
theorem dL_mean_2 : decode cL_mean 2 = .ok (.aload_n 0, 1) := by decide +kernel
theorem dL_mean_3 : decode cL_mean 3 = .ok (.iload_n 1, 1) := by decide +kernel
theorem dL_mean_4 : decode cL_mean 4 = .ok (.invokevirtual 67, 3) := by decide +kernel
theorem dL_mean_7 : decode cL_mean 7 = .ok (.i2l, 1) := by decide +kernel
theorem dL_mean_8 : decode cL_mean 8 = .ok (.lastore, 1) := by decide +kernel
theorem dL_mean_9 : decode cL_mean 9 = .ok (.goto 6, 3) := by decide +kernel
theorem dL_mend_0 : decode cL_mend 0 = .ok (.aload_n 3, 1) := by decide +kernel
theorem dL_mend_1 : decode cL_mend 1 = .ok (.iconst 0, 1) := by decide +kernel
theorem dL_mend_13 : decode cL_mend 13 = .ok (.astore 4, 2) := by decide +kernel
theorem dL_mend_15 : decode cL_mend 15 = .ok (.iconst 1, 1) := by decide +kernel
theorem dL_mend_16 : decode cL_mend 16 = .ok (.ireturn, 1) := by decide +kernel
theorem dL_mend_2 : decode cL_mend 2 = .ok (.aload_n 0, 1) := by decide +kernel
theorem dL_mend_3 : decode cL_mend 3 = .ok (.iload_n 1, 1) := by decide +kernel
theorem dL_mend_4 : decode cL_mend 4 = .ok (.iload_n 2, 1) := by decide +kernel
theorem dL_mend_5 : decode cL_mend 5 = .ok (.invokevirtual 85, 3) := by decide +kernel
theorem dL_number_0 : decode cL_number 0 = .ok (.aload_n 3, 1) := by decide +kernel
theorem dL_number_1 : decode cL_number 1 = .ok (.iconst 0, 1) := by decide +kernel
theorem dL_number_10 : decode cL_number 10 = .ok (.goto 7, 3) := by decide +kernel
theorem dL_number_13 : decode cL_number 13 = .ok (.astore 4, 2) := by decide +kernel
theorem dL_number_15 : decode cL_number 15 = .ok (.iconst 1, 1) := by decide +kernel
theorem dL_number_16 : decode cL_number 16 = .ok (.ireturn, 1) := by decide +kernel
theorem dL_number_17 : decode cL_number 17 = .ok (.iconst 0, 1) := by decide +kernel
theorem dL_number_18 : decode cL_number 18 = .ok (.ireturn, 1) := by decide +kernel
theorem dL_number_2 : decode cL_number 2 = .ok (.aload_n 0, 1) := by decide +kernel
theorem dL_number_3 : decode cL_number 3 = .ok (.iload_n 1, 1) := by decide +kernel
theorem dL_number_4 : decode cL_number 4 = .ok (.iload_n 2, 1) := by decide +kernel
theorem dL_number_5 : decode cL_number 5 = .ok (.invokevirtual 21, 3) := by decide +kernel
theorem dL_number_8 : decode cL_number 8 = .ok (.i2l, 1) := by decide +kernel
theorem dL_number_9 : decode cL_number 9 = .ok (.lastore, 1) := by decide +kernel
theorem dL_parse_0 : decode cL_parse 0 = .ok (.aload_n 3, 1) := by decide +kernel
theorem dL_parse_1 : decode cL_parse 1 = .ok (.iconst 0, 1) := by decide +kernel
theorem dL_parse_13 : decode cL_parse 13 = .ok (.astore 4, 2) := by decide +kernel
theorem dL_parse_15 : decode cL_parse 15 = .ok (.iconst 1, 1) := by decide +kernel
theorem dL_parse_16 : decode cL_parse 16 = .ok (.ireturn, 1) := by decide +kernel
theorem dL_parse_2 : decode cL_parse 2 = .ok (.aload_n 0, 1) := by decide +kernel
theorem dL_parse_3 : decode cL_parse 3 = .ok (.iload_n 1, 1) := by decide +kernel
theorem dL_parse_4 : decode cL_parse 4 = .ok (.iload_n 2, 1) := by decide +kernel
theorem dL_parse_5 : decode cL_parse 5 = .ok (.invokevirtual 44, 3) := by decide +kernel
theorem dL_reading_0 : decode cL_reading 0 = .ok (.aload_n 3, 1) := by decide +kernel
theorem dL_reading_1 : decode cL_reading 1 = .ok (.iconst 0, 1) := by decide +kernel
theorem dL_reading_10 : decode cL_reading 10 = .ok (.goto 7, 3) := by decide +kernel
theorem dL_reading_13 : decode cL_reading 13 = .ok (.astore 4, 2) := by decide +kernel
theorem dL_reading_15 : decode cL_reading 15 = .ok (.iconst 1, 1) := by decide +kernel
theorem dL_reading_16 : decode cL_reading 16 = .ok (.ireturn, 1) := by decide +kernel
theorem dL_reading_17 : decode cL_reading 17 = .ok (.iconst 0, 1) := by decide +kernel
theorem dL_reading_18 : decode cL_reading 18 = .ok (.ireturn, 1) := by decide +kernel
theorem dL_reading_2 : decode cL_reading 2 = .ok (.aload_n 0, 1) := by decide +kernel
theorem dL_reading_3 : decode cL_reading 3 = .ok (.iload_n 1, 1) := by decide +kernel
theorem dL_reading_4 : decode cL_reading 4 = .ok (.iload_n 2, 1) := by decide +kernel
theorem dL_reading_5 : decode cL_reading 5 = .ok (.invokevirtual 51, 3) := by decide +kernel
theorem dL_reading_8 : decode cL_reading 8 = .ok (.i2l, 1) := by decide +kernel
theorem dL_reading_9 : decode cL_reading 9 = .ok (.lastore, 1) := by decide +kernel
theorem dL_same_0 : decode cL_same 0 = .ok (.aload_n 3, 1) := by decide +kernel
theorem dL_same_1 : decode cL_same 1 = .ok (.iconst 0, 1) := by decide +kernel
theorem dL_same_11 : decode cL_same 11 = .ok (.lconst 1, 1) := by decide +kernel
theorem dL_same_12 : decode cL_same 12 = .ok (.goto 4, 3) := by decide +kernel
theorem dL_same_16 : decode cL_same 16 = .ok (.lastore, 1) := by decide +kernel
theorem dL_same_17 : decode cL_same 17 = .ok (.goto 7, 3) := by decide +kernel
theorem dL_same_2 : decode cL_same 2 = .ok (.aload_n 0, 1) := by decide +kernel
theorem dL_same_20 : decode cL_same 20 = .ok (.astore 4, 2) := by decide +kernel
theorem dL_same_22 : decode cL_same 22 = .ok (.iconst 1, 1) := by decide +kernel
theorem dL_same_23 : decode cL_same 23 = .ok (.ireturn, 1) := by decide +kernel
theorem dL_same_24 : decode cL_same 24 = .ok (.iconst 0, 1) := by decide +kernel
theorem dL_same_25 : decode cL_same 25 = .ok (.ireturn, 1) := by decide +kernel
theorem dL_same_3 : decode cL_same 3 = .ok (.iload_n 1, 1) := by decide +kernel
theorem dL_same_4 : decode cL_same 4 = .ok (.iload_n 2, 1) := by decide +kernel
theorem dL_same_5 : decode cL_same 5 = .ok (.invokevirtual 60, 3) := by decide +kernel
theorem dL_same_8 : decode cL_same 8 = .ok (.ifCond .eq 7, 3) := by decide +kernel
theorem dL_say_0 : decode cL_say 0 = .ok (.aload 4, 2) := by decide +kernel
theorem dL_say_15 : decode cL_say 15 = .ok (.astore 5, 2) := by decide +kernel
theorem dL_say_17 : decode cL_say 17 = .ok (.iconst 1, 1) := by decide +kernel
theorem dL_say_18 : decode cL_say 18 = .ok (.ireturn, 1) := by decide +kernel
theorem dL_say_2 : decode cL_say 2 = .ok (.iconst 0, 1) := by decide +kernel
theorem dL_say_3 : decode cL_say 3 = .ok (.aload_n 0, 1) := by decide +kernel
theorem dL_say_4 : decode cL_say 4 = .ok (.iload_n 1, 1) := by decide +kernel
theorem dL_say_5 : decode cL_say 5 = .ok (.iload_n 2, 1) := by decide +kernel
theorem dL_say_6 : decode cL_say 6 = .ok (.iload_n 3, 1) := by decide +kernel
theorem dL_say_7 : decode cL_say 7 = .ok (.invokevirtual 64, 3) := by decide +kernel
theorem dL_show_0 : decode cL_show 0 = .ok (.aload_n 2, 1) := by decide +kernel
theorem dL_show_1 : decode cL_show 1 = .ok (.iconst 0, 1) := by decide +kernel
theorem dL_show_12 : decode cL_show 12 = .ok (.astore_n 3, 1) := by decide +kernel
theorem dL_show_13 : decode cL_show 13 = .ok (.iconst 1, 1) := by decide +kernel
theorem dL_show_14 : decode cL_show 14 = .ok (.ireturn, 1) := by decide +kernel
theorem dL_show_15 : decode cL_show 15 = .ok (.iconst 0, 1) := by decide +kernel
theorem dL_show_16 : decode cL_show 16 = .ok (.ireturn, 1) := by decide +kernel
theorem dL_show_2 : decode cL_show 2 = .ok (.aload_n 0, 1) := by decide +kernel
theorem dL_show_3 : decode cL_show 3 = .ok (.iload_n 1, 1) := by decide +kernel
theorem dL_show_4 : decode cL_show 4 = .ok (.invokevirtual 57, 3) := by decide +kernel
theorem dL_show_7 : decode cL_show 7 = .ok (.i2l, 1) := by decide +kernel
theorem dL_show_8 : decode cL_show 8 = .ok (.lastore, 1) := by decide +kernel
theorem dL_show_9 : decode cL_show 9 = .ok (.goto 6, 3) := by decide +kernel
theorem dL_sounds_0 : decode cL_sounds 0 = .ok (.aload_n 2, 1) := by decide +kernel
theorem dL_sounds_1 : decode cL_sounds 1 = .ok (.iconst 0, 1) := by decide +kernel
theorem dL_sounds_12 : decode cL_sounds 12 = .ok (.astore_n 3, 1) := by decide +kernel
theorem dL_sounds_13 : decode cL_sounds 13 = .ok (.iconst 1, 1) := by decide +kernel
theorem dL_sounds_14 : decode cL_sounds 14 = .ok (.ireturn, 1) := by decide +kernel
theorem dL_sounds_2 : decode cL_sounds 2 = .ok (.aload_n 0, 1) := by decide +kernel
theorem dL_sounds_3 : decode cL_sounds 3 = .ok (.iload_n 1, 1) := by decide +kernel
theorem dL_sounds_4 : decode cL_sounds 4 = .ok (.invokevirtual 25, 3) := by decide +kernel
theorem dL_swap_0 : decode cL_swap 0 = .ok (.aload 4, 2) := by decide +kernel
theorem dL_swap_15 : decode cL_swap 15 = .ok (.astore 5, 2) := by decide +kernel
theorem dL_swap_17 : decode cL_swap 17 = .ok (.iconst 1, 1) := by decide +kernel
theorem dL_swap_18 : decode cL_swap 18 = .ok (.ireturn, 1) := by decide +kernel
theorem dL_swap_2 : decode cL_swap 2 = .ok (.iconst 0, 1) := by decide +kernel
theorem dL_swap_3 : decode cL_swap 3 = .ok (.aload_n 0, 1) := by decide +kernel
theorem dL_swap_4 : decode cL_swap 4 = .ok (.iload_n 1, 1) := by decide +kernel
theorem dL_swap_5 : decode cL_swap 5 = .ok (.iload_n 2, 1) := by decide +kernel
theorem dL_swap_6 : decode cL_swap 6 = .ok (.iload_n 3, 1) := by decide +kernel
theorem dL_swap_7 : decode cL_swap 7 = .ok (.invokevirtual 73, 3) := by decide +kernel
theorem dL_tree_0 : decode cL_tree 0 = .ok (.aload_n 2, 1) := by decide +kernel
theorem dL_tree_1 : decode cL_tree 1 = .ok (.iconst 0, 1) := by decide +kernel
theorem dL_tree_12 : decode cL_tree 12 = .ok (.astore_n 3, 1) := by decide +kernel
theorem dL_tree_13 : decode cL_tree 13 = .ok (.iconst 1, 1) := by decide +kernel
theorem dL_tree_14 : decode cL_tree 14 = .ok (.ireturn, 1) := by decide +kernel
theorem dL_tree_15 : decode cL_tree 15 = .ok (.iconst 0, 1) := by decide +kernel
theorem dL_tree_16 : decode cL_tree 16 = .ok (.ireturn, 1) := by decide +kernel
theorem dL_tree_2 : decode cL_tree 2 = .ok (.aload_n 0, 1) := by decide +kernel
theorem dL_tree_3 : decode cL_tree 3 = .ok (.iload_n 1, 1) := by decide +kernel
theorem dL_tree_4 : decode cL_tree 4 = .ok (.invokevirtual 54, 3) := by decide +kernel
theorem dL_tree_7 : decode cL_tree 7 = .ok (.i2l, 1) := by decide +kernel
theorem dL_tree_8 : decode cL_tree 8 = .ok (.lastore, 1) := by decide +kernel
theorem dL_tree_9 : decode cL_tree 9 = .ok (.goto 6, 3) := by decide +kernel
theorem dL_truth_0 : decode cL_truth 0 = .ok (.aload_n 2, 1) := by decide +kernel
theorem dL_truth_1 : decode cL_truth 1 = .ok (.iconst 0, 1) := by decide +kernel
theorem dL_truth_12 : decode cL_truth 12 = .ok (.astore_n 3, 1) := by decide +kernel
theorem dL_truth_13 : decode cL_truth 13 = .ok (.iconst 1, 1) := by decide +kernel
theorem dL_truth_14 : decode cL_truth 14 = .ok (.ireturn, 1) := by decide +kernel
theorem dL_truth_15 : decode cL_truth 15 = .ok (.iconst 0, 1) := by decide +kernel
theorem dL_truth_16 : decode cL_truth 16 = .ok (.ireturn, 1) := by decide +kernel
theorem dL_truth_2 : decode cL_truth 2 = .ok (.aload_n 0, 1) := by decide +kernel
theorem dL_truth_3 : decode cL_truth 3 = .ok (.iload_n 1, 1) := by decide +kernel
theorem dL_truth_4 : decode cL_truth 4 = .ok (.invokevirtual 70, 3) := by decide +kernel
theorem dL_truth_7 : decode cL_truth 7 = .ok (.i2l, 1) := by decide +kernel
theorem dL_truth_8 : decode cL_truth 8 = .ok (.lastore, 1) := by decide +kernel
theorem dL_truth_9 : decode cL_truth 9 = .ok (.goto 6, 3) := by decide +kernel
theorem dX12_add_0 : decode cX12_add 0 = .ok (.aload_n 0, 1) := by decide +kernel
theorem dX12_add_1 : decode cX12_add 1 = .ok (.iload_n 1, 1) := by decide +kernel
theorem dX12_add_2 : decode cX12_add 2 = .ok (.invokevirtual 155, 3) := by decide +kernel
theorem dX12_analyse_0 : decode cX12_analyse 0 = .ok (.aload_n 0, 1) := by decide +kernel
theorem dX12_analyse_1 : decode cX12_analyse 1 = .ok (.iload_n 1, 1) := by decide +kernel
theorem dX12_analyse_2 : decode cX12_analyse 2 = .ok (.invokevirtual 155, 3) := by decide +kernel
theorem dX12_analysis_0 : decode cX12_analysis 0 = .ok (.iload_n 2, 1) := by decide +kernel
theorem dX12_analysis_1 : decode cX12_analysis 1 = .ok (.ifCond .lt 9, 3) := by decide +kernel
theorem dX12_analysis_10 : decode cX12_analysis 10 = .ok (.new 115, 3) := by decide +kernel
theorem dX12_analysis_13 : decode cX12_analysis 13 = .ok (.dup, 1) := by decide +kernel
theorem dX12_analysis_14 : decode cX12_analysis 14 = .ok (.ldc 143, 2) := by decide +kernel
theorem dX12_analysis_16 : decode cX12_analysis 16 = .ok (.invokespecial 119, 3) := by decide +kernel
theorem dX12_analysis_19 : decode cX12_analysis 19 = .ok (.athrow, 1) := by decide +kernel
theorem dX12_analysis_20 : decode cX12_analysis 20 = .ok (.aload_n 0, 1) := by decide +kernel
theorem dX12_analysis_21 : decode cX12_analysis 21 = .ok (.getfield 76, 3) := by decide +kernel
theorem dX12_analysis_24 : decode cX12_analysis 24 = .ok (.iload_n 1, 1) := by decide +kernel
theorem dX12_analysis_25 : decode cX12_analysis 25 = .ok (.iload_n 2, 1) := by decide +kernel
theorem dX12_analysis_26 : decode cX12_analysis 26 = .ok (.invokevirtual 203, 3) := by decide +kernel
theorem dX12_analysis_29 : decode cX12_analysis 29 = .ok (.ireturn, 1) := by decide +kernel
theorem dX12_analysis_4 : decode cX12_analysis 4 = .ok (.iload_n 2, 1) := by decide +kernel
theorem dX12_analysis_5 : decode cX12_analysis 5 = .ok (.bipush 11, 2) := by decide +kernel
theorem dX12_analysis_7 : decode cX12_analysis 7 = .ok (.if_icmp .le 13, 3) := by decide +kernel
theorem dX12_ask_0 : decode cX12_ask 0 = .ok (.aload_n 0, 1) := by decide +kernel
theorem dX12_ask_1 : decode cX12_ask 1 = .ok (.iload_n 1, 1) := by decide +kernel
theorem dX12_ask_2 : decode cX12_ask 2 = .ok (.invokevirtual 155, 3) := by decide +kernel
theorem dX12_bar_0 : decode cX12_bar 0 = .ok (.iload_n 1, 1) := by decide +kernel
theorem dX12_bar_1 : decode cX12_bar 1 = .ok (.ifCond .lt 17, 3) := by decide +kernel
theorem dX12_bar_12 : decode cX12_bar 12 = .ok (.getfield 239, 3) := by decide +kernel
theorem dX12_bar_15 : decode cX12_bar 15 = .ok (.if_icmp .lt 13, 3) := by decide +kernel
theorem dX12_bar_18 : decode cX12_bar 18 = .ok (.new 115, 3) := by decide +kernel
theorem dX12_bar_21 : decode cX12_bar 21 = .ok (.dup, 1) := by decide +kernel
theorem dX12_bar_22 : decode cX12_bar 22 = .ok (.ldc 240, 2) := by decide +kernel
theorem dX12_bar_24 : decode cX12_bar 24 = .ok (.invokespecial 119, 3) := by decide +kernel
theorem dX12_bar_27 : decode cX12_bar 27 = .ok (.athrow, 1) := by decide +kernel
theorem dX12_bar_4 : decode cX12_bar 4 = .ok (.iload_n 1, 1) := by decide +kernel
theorem dX12_bar_5 : decode cX12_bar 5 = .ok (.aload_n 0, 1) := by decide +kernel
theorem dX12_bar_6 : decode cX12_bar 6 = .ok (.getfield 12, 3) := by decide +kernel
theorem dX12_bar_9 : decode cX12_bar 9 = .ok (.getfield 152, 3) := by decide +kernel
theorem dX12_candidate_0 : decode cX12_candidate 0 = .ok (.aload_n 0, 1) := by decide +kernel
theorem dX12_candidate_1 : decode cX12_candidate 1 = .ok (.getfield 23, 3) := by decide +kernel
theorem dX12_candidate_12 : decode cX12_candidate 12 = .ok (.iload_n 1, 1) := by decide +kernel
theorem dX12_candidate_13 : decode cX12_candidate 13 = .ok (.aload_n 0, 1) := by decide +kernel
theorem dX12_candidate_14 : decode cX12_candidate 14 = .ok (.getfield 289, 3) := by decide +kernel
theorem dX12_candidate_17 : decode cX12_candidate 17 = .ok (.if_icmp .lt 5, 3) := by decide +kernel
theorem dX12_candidate_20 : decode cX12_candidate 20 = .ok (.iconst (-1), 1) := by decide +kernel
theorem dX12_candidate_21 : decode cX12_candidate 21 = .ok (.ireturn, 1) := by decide +kernel
theorem dX12_candidate_4 : decode cX12_candidate 4 = .ok (.iconst 0, 1) := by decide +kernel
theorem dX12_candidate_5 : decode cX12_candidate 5 = .ok (.putfield 100, 3) := by decide +kernel
theorem dX12_candidate_8 : decode cX12_candidate 8 = .ok (.iload_n 1, 1) := by decide +kernel
theorem dX12_candidate_9 : decode cX12_candidate 9 = .ok (.ifCond .lt 11, 3) := by decide +kernel
theorem dX12_cell_0 : decode cX12_cell 0 = .ok (.aload_n 0, 1) := by decide +kernel
theorem dX12_cell_1 : decode cX12_cell 1 = .ok (.iload_n 1, 1) := by decide +kernel
theorem dX12_cell_2 : decode cX12_cell 2 = .ok (.invokevirtual 155, 3) := by decide +kernel
theorem dX12_checkPlace_0 : decode cX12_checkPlace 0 = .ok (.iload_n 0, 1) := by decide +kernel
theorem dX12_checkPlace_1 : decode cX12_checkPlace 1 = .ok (.ifCond .lt 9, 3) := by decide +kernel
theorem dX12_checkPlace_10 : decode cX12_checkPlace 10 = .ok (.new 115, 3) := by decide +kernel
theorem dX12_checkPlace_13 : decode cX12_checkPlace 13 = .ok (.dup, 1) := by decide +kernel
theorem dX12_checkPlace_14 : decode cX12_checkPlace 14 = .ok (.ldc_w 364, 3) := by decide +kernel
theorem dX12_checkPlace_17 : decode cX12_checkPlace 17 = .ok (.invokespecial 119, 3) := by decide +kernel
theorem dX12_checkPlace_20 : decode cX12_checkPlace 20 = .ok (.athrow, 1) := by decide +kernel
theorem dX12_checkPlace_21 : decode cX12_checkPlace 21 = .ok (.return_, 1) := by decide +kernel
theorem dX12_checkPlace_4 : decode cX12_checkPlace 4 = .ok (.iload_n 0, 1) := by decide +kernel
theorem dX12_checkPlace_5 : decode cX12_checkPlace 5 = .ok (.bipush 8, 2) := by decide +kernel
theorem dX12_checkPlace_7 : decode cX12_checkPlace 7 = .ok (.if_icmp .lt 14, 3) := by decide +kernel
theorem dX12_count_0 : decode cX12_count 0 = .ok (.iload_n 2, 1) := by decide +kernel
theorem dX12_count_1 : decode cX12_count 1 = .ok (.ifCond .lt 9, 3) := by decide +kernel
theorem dX12_count_10 : decode cX12_count 10 = .ok (.new 115, 3) := by decide +kernel
theorem dX12_count_13 : decode cX12_count 13 = .ok (.dup, 1) := by decide +kernel
theorem dX12_count_14 : decode cX12_count 14 = .ok (.ldc 143, 2) := by decide +kernel
theorem dX12_count_16 : decode cX12_count 16 = .ok (.invokespecial 119, 3) := by decide +kernel
theorem dX12_count_19 : decode cX12_count 19 = .ok (.athrow, 1) := by decide +kernel
theorem dX12_count_20 : decode cX12_count 20 = .ok (.iload_n 2, 1) := by decide +kernel
theorem dX12_count_21 : decode cX12_count 21 = .ok (.bipush 8, 2) := by decide +kernel
theorem dX12_count_23 : decode cX12_count 23 = .ok (.if_icmp .lt 13, 3) := by decide +kernel
theorem dX12_count_26 : decode cX12_count 26 = .ok (.aload_n 0, 1) := by decide +kernel
theorem dX12_count_27 : decode cX12_count 27 = .ok (.iload_n 1, 1) := by decide +kernel
theorem dX12_count_28 : decode cX12_count 28 = .ok (.invokevirtual 155, 3) := by decide +kernel
theorem dX12_count_36 : decode cX12_count 36 = .ok (.iload_n 2, 1) := by decide +kernel
theorem dX12_count_37 : decode cX12_count 37 = .ok (.tableswitch 51 5 7 #[27, 35, 43], 27) := by decide +kernel
theorem dX12_count_4 : decode cX12_count 4 = .ok (.iload_n 2, 1) := by decide +kernel
theorem dX12_count_5 : decode cX12_count 5 = .ok (.bipush 14, 2) := by decide +kernel
theorem dX12_count_64 : decode cX12_count 64 = .ok (.aload_n 0, 1) := by decide +kernel
theorem dX12_count_65 : decode cX12_count 65 = .ok (.getfield 46, 3) := by decide +kernel
theorem dX12_count_68 : decode cX12_count 68 = .ok (.getfield 346, 3) := by decide +kernel
theorem dX12_count_7 : decode cX12_count 7 = .ok (.if_icmp .le 13, 3) := by decide +kernel
theorem dX12_count_71 : decode cX12_count 71 = .ok (.ireturn, 1) := by decide +kernel
theorem dX12_count_72 : decode cX12_count 72 = .ok (.aload_n 0, 1) := by decide +kernel
theorem dX12_count_73 : decode cX12_count 73 = .ok (.getfield 46, 3) := by decide +kernel
theorem dX12_count_76 : decode cX12_count 76 = .ok (.getfield 349, 3) := by decide +kernel
theorem dX12_count_79 : decode cX12_count 79 = .ok (.ireturn, 1) := by decide +kernel
theorem dX12_count_80 : decode cX12_count 80 = .ok (.aload_n 0, 1) := by decide +kernel
theorem dX12_count_81 : decode cX12_count 81 = .ok (.getfield 76, 3) := by decide +kernel
theorem dX12_count_84 : decode cX12_count 84 = .ok (.getfield 352, 3) := by decide +kernel
theorem dX12_count_87 : decode cX12_count 87 = .ok (.ireturn, 1) := by decide +kernel
theorem dX12_count_88 : decode cX12_count 88 = .ok (.aload_n 0, 1) := by decide +kernel
theorem dX12_count_89 : decode cX12_count 89 = .ok (.getfield 12, 3) := by decide +kernel
theorem dX12_count_92 : decode cX12_count 92 = .ok (.iload_n 2, 1) := by decide +kernel
theorem dX12_count_93 : decode cX12_count 93 = .ok (.invokevirtual 355, 3) := by decide +kernel
theorem dX12_count_96 : decode cX12_count 96 = .ok (.ireturn, 1) := by decide +kernel
theorem dX12_end_0 : decode cX12_end 0 = .ok (.iload_n 1, 1) := by decide +kernel
theorem dX12_end_1 : decode cX12_end 1 = .ok (.ifCond .lt 14, 3) := by decide +kernel
theorem dX12_end_12 : decode cX12_end 12 = .ok (.if_icmp .le 13, 3) := by decide +kernel
theorem dX12_end_15 : decode cX12_end 15 = .ok (.new 115, 3) := by decide +kernel
theorem dX12_end_18 : decode cX12_end 18 = .ok (.dup, 1) := by decide +kernel
theorem dX12_end_19 : decode cX12_end 19 = .ok (.ldc 117, 2) := by decide +kernel
theorem dX12_end_21 : decode cX12_end 21 = .ok (.invokespecial 119, 3) := by decide +kernel
theorem dX12_end_24 : decode cX12_end 24 = .ok (.athrow, 1) := by decide +kernel
theorem dX12_end_25 : decode cX12_end 25 = .ok (.aload_n 0, 1) := by decide +kernel
theorem dX12_end_26 : decode cX12_end 26 = .ok (.getfield 19, 3) := by decide +kernel
theorem dX12_end_29 : decode cX12_end 29 = .ok (.iload_n 1, 1) := by decide +kernel
theorem dX12_end_30 : decode cX12_end 30 = .ok (.putfield 100, 3) := by decide +kernel
theorem dX12_end_33 : decode cX12_end 33 = .ok (.iload_n 1, 1) := by decide +kernel
theorem dX12_end_34 : decode cX12_end 34 = .ok (.ireturn, 1) := by decide +kernel
theorem dX12_end_4 : decode cX12_end 4 = .ok (.iload_n 1, 1) := by decide +kernel
theorem dX12_end_5 : decode cX12_end 5 = .ok (.aload_n 0, 1) := by decide +kernel
theorem dX12_end_6 : decode cX12_end 6 = .ok (.getfield 19, 3) := by decide +kernel
theorem dX12_end_9 : decode cX12_end 9 = .ok (.getfield 100, 3) := by decide +kernel
theorem dX12_feed_0 : decode cX12_feed 0 = .ok (.aload_n 0, 1) := by decide +kernel
theorem dX12_feed_1 : decode cX12_feed 1 = .ok (.getfield 19, 3) := by decide +kernel
theorem dX12_feed_10 : decode cX12_feed 10 = .ok (.sipush 1000, 3) := by decide +kernel
theorem dX12_feed_13 : decode cX12_feed 13 = .ok (.if_icmp .le 13, 3) := by decide +kernel
theorem dX12_feed_26 : decode cX12_feed 26 = .ok (.aload_n 0, 1) := by decide +kernel
theorem dX12_feed_27 : decode cX12_feed 27 = .ok (.getfield 19, 3) := by decide +kernel
theorem dX12_feed_30 : decode cX12_feed 30 = .ok (.iload_n 1, 1) := by decide +kernel
theorem dX12_feed_31 : decode cX12_feed 31 = .ok (.invokevirtual 111, 3) := by decide +kernel
theorem dX12_feed_34 : decode cX12_feed 34 = .ok (.aload_n 0, 1) := by decide +kernel
theorem dX12_feed_35 : decode cX12_feed 35 = .ok (.getfield 19, 3) := by decide +kernel
theorem dX12_feed_38 : decode cX12_feed 38 = .ok (.iload_n 2, 1) := by decide +kernel
theorem dX12_feed_39 : decode cX12_feed 39 = .ok (.invokevirtual 111, 3) := by decide +kernel
theorem dX12_feed_4 : decode cX12_feed 4 = .ok (.getfield 100, 3) := by decide +kernel
theorem dX12_feed_42 : decode cX12_feed 42 = .ok (.aload_n 0, 1) := by decide +kernel
theorem dX12_feed_43 : decode cX12_feed 43 = .ok (.getfield 19, 3) := by decide +kernel
theorem dX12_feed_46 : decode cX12_feed 46 = .ok (.iload_n 3, 1) := by decide +kernel
theorem dX12_feed_47 : decode cX12_feed 47 = .ok (.invokevirtual 111, 3) := by decide +kernel
theorem dX12_feed_50 : decode cX12_feed 50 = .ok (.aload_n 0, 1) := by decide +kernel
theorem dX12_feed_51 : decode cX12_feed 51 = .ok (.getfield 19, 3) := by decide +kernel
theorem dX12_feed_54 : decode cX12_feed 54 = .ok (.iload 4, 2) := by decide +kernel
theorem dX12_feed_56 : decode cX12_feed 56 = .ok (.invokevirtual 111, 3) := by decide +kernel
theorem dX12_feed_59 : decode cX12_feed 59 = .ok (.aload_n 0, 1) := by decide +kernel
theorem dX12_feed_60 : decode cX12_feed 60 = .ok (.getfield 19, 3) := by decide +kernel
theorem dX12_feed_63 : decode cX12_feed 63 = .ok (.iload 5, 2) := by decide +kernel
theorem dX12_feed_65 : decode cX12_feed 65 = .ok (.invokevirtual 111, 3) := by decide +kernel
theorem dX12_feed_68 : decode cX12_feed 68 = .ok (.aload_n 0, 1) := by decide +kernel
theorem dX12_feed_69 : decode cX12_feed 69 = .ok (.getfield 19, 3) := by decide +kernel
theorem dX12_feed_7 : decode cX12_feed 7 = .ok (.bipush 20, 2) := by decide +kernel
theorem dX12_feed_72 : decode cX12_feed 72 = .ok (.getfield 100, 3) := by decide +kernel
theorem dX12_feed_75 : decode cX12_feed 75 = .ok (.ireturn, 1) := by decide +kernel
theorem dX12_feed_9 : decode cX12_feed 9 = .ok (.iadd, 1) := by decide +kernel
theorem dX12_guess_0 : decode cX12_guess 0 = .ok (.aload_n 0, 1) := by decide +kernel
theorem dX12_guess_1 : decode cX12_guess 1 = .ok (.iload_n 1, 1) := by decide +kernel
theorem dX12_guess_2 : decode cX12_guess 2 = .ok (.invokevirtual 155, 3) := by decide +kernel
theorem dX12_guessed_0 : decode cX12_guessed 0 = .ok (.iload_n 2, 1) := by decide +kernel
theorem dX12_guessed_1 : decode cX12_guessed 1 = .ok (.ifCond .lt 8, 3) := by decide +kernel
theorem dX12_guessed_12 : decode cX12_guessed 12 = .ok (.dup, 1) := by decide +kernel
theorem dX12_guessed_13 : decode cX12_guessed 13 = .ok (.ldc 143, 2) := by decide +kernel
theorem dX12_guessed_15 : decode cX12_guessed 15 = .ok (.invokespecial 119, 3) := by decide +kernel
theorem dX12_guessed_18 : decode cX12_guessed 18 = .ok (.athrow, 1) := by decide +kernel
theorem dX12_guessed_19 : decode cX12_guessed 19 = .ok (.aload_n 0, 1) := by decide +kernel
theorem dX12_guessed_20 : decode cX12_guessed 20 = .ok (.getfield 76, 3) := by decide +kernel
theorem dX12_guessed_23 : decode cX12_guessed 23 = .ok (.iload_n 1, 1) := by decide +kernel
theorem dX12_guessed_24 : decode cX12_guessed 24 = .ok (.iload_n 2, 1) := by decide +kernel
theorem dX12_guessed_25 : decode cX12_guessed 25 = .ok (.invokevirtual 226, 3) := by decide +kernel
theorem dX12_guessed_28 : decode cX12_guessed 28 = .ok (.ireturn, 1) := by decide +kernel
theorem dX12_guessed_4 : decode cX12_guessed 4 = .ok (.iload_n 2, 1) := by decide +kernel
theorem dX12_guessed_5 : decode cX12_guessed 5 = .ok (.iconst 3, 1) := by decide +kernel
theorem dX12_guessed_6 : decode cX12_guessed 6 = .ok (.if_icmp .le 13, 3) := by decide +kernel
theorem dX12_guessed_9 : decode cX12_guessed 9 = .ok (.new 115, 3) := by decide +kernel
theorem dX12_hit_0 : decode cX12_hit 0 = .ok (.iload_n 2, 1) := by decide +kernel
theorem dX12_hit_1 : decode cX12_hit 1 = .ok (.ifCond .lt 8, 3) := by decide +kernel
theorem dX12_hit_12 : decode cX12_hit 12 = .ok (.dup, 1) := by decide +kernel
theorem dX12_hit_13 : decode cX12_hit 13 = .ok (.ldc 143, 2) := by decide +kernel
theorem dX12_hit_15 : decode cX12_hit 15 = .ok (.invokespecial 119, 3) := by decide +kernel
theorem dX12_hit_18 : decode cX12_hit 18 = .ok (.athrow, 1) := by decide +kernel
theorem dX12_hit_19 : decode cX12_hit 19 = .ok (.aload_n 0, 1) := by decide +kernel
theorem dX12_hit_20 : decode cX12_hit 20 = .ok (.getfield 76, 3) := by decide +kernel
theorem dX12_hit_23 : decode cX12_hit 23 = .ok (.iload_n 1, 1) := by decide +kernel
theorem dX12_hit_24 : decode cX12_hit 24 = .ok (.iload_n 2, 1) := by decide +kernel
theorem dX12_hit_25 : decode cX12_hit 25 = .ok (.invokevirtual 310, 3) := by decide +kernel
theorem dX12_hit_28 : decode cX12_hit 28 = .ok (.ireturn, 1) := by decide +kernel
theorem dX12_hit_4 : decode cX12_hit 4 = .ok (.iload_n 2, 1) := by decide +kernel
theorem dX12_hit_5 : decode cX12_hit 5 = .ok (.iconst 1, 1) := by decide +kernel
theorem dX12_hit_6 : decode cX12_hit 6 = .ok (.if_icmp .le 13, 3) := by decide +kernel
theorem dX12_hit_9 : decode cX12_hit 9 = .ok (.new 115, 3) := by decide +kernel
theorem dX12_mean_0 : decode cX12_mean 0 = .ok (.iload_n 1, 1) := by decide +kernel
theorem dX12_mean_1 : decode cX12_mean 1 = .ok (.invokestatic 249, 3) := by decide +kernel
theorem dX12_mean_12 : decode cX12_mean 12 = .ok (.aload_n 0, 1) := by decide +kernel
theorem dX12_mean_13 : decode cX12_mean 13 = .ok (.iload_n 1, 1) := by decide +kernel
theorem dX12_mean_14 : decode cX12_mean 14 = .ok (.invokevirtual 278, 3) := by decide +kernel
theorem dX12_mean_17 : decode cX12_mean 17 = .ok (.istore_n 2, 1) := by decide +kernel
theorem dX12_mean_18 : decode cX12_mean 18 = .ok (.iload_n 2, 1) := by decide +kernel
theorem dX12_mean_19 : decode cX12_mean 19 = .ok (.ifCond .ge 5, 3) := by decide +kernel
theorem dX12_mean_22 : decode cX12_mean 22 = .ok (.iload_n 2, 1) := by decide +kernel
theorem dX12_mean_23 : decode cX12_mean 23 = .ok (.ireturn, 1) := by decide +kernel
theorem dX12_mean_4 : decode cX12_mean 4 = .ok (.aload_n 0, 1) := by decide +kernel
theorem dX12_mean_5 : decode cX12_mean 5 = .ok (.getfield 23, 3) := by decide +kernel
theorem dX12_mean_8 : decode cX12_mean 8 = .ok (.iconst 0, 1) := by decide +kernel
theorem dX12_mean_9 : decode cX12_mean 9 = .ok (.putfield 100, 3) := by decide +kernel
theorem dX12_meaningOf_0 : decode cX12_meaningOf 0 = .ok (.aload_n 0, 1) := by decide +kernel
theorem dX12_meaningOf_1 : decode cX12_meaningOf 1 = .ok (.getfield 85, 3) := by decide +kernel
theorem dX12_meaningOf_11 : decode cX12_meaningOf 11 = .ok (.ireturn, 1) := by decide +kernel
theorem dX12_meaningOf_4 : decode cX12_meaningOf 4 = .ok (.iload_n 1, 1) := by decide +kernel
theorem dX12_meaningOf_5 : decode cX12_meaningOf 5 = .ok (.iaload, 1) := by decide +kernel
theorem dX12_meaningOf_6 : decode cX12_meaningOf 6 = .ok (.ifCond .ne 6, 3) := by decide +kernel
theorem dX12_meaningOf_9 : decode cX12_meaningOf 9 = .ok (.bipush (-4), 2) := by decide +kernel
theorem dX12_mend_0 : decode cX12_mend 0 = .ok (.aload_n 0, 1) := by decide +kernel
theorem dX12_mend_1 : decode cX12_mend 1 = .ok (.iload_n 1, 1) := by decide +kernel
theorem dX12_mend_2 : decode cX12_mend 2 = .ok (.invokevirtual 155, 3) := by decide +kernel
theorem dX12_module_0 : decode cX12_module 0 = .ok (.aload_n 0, 1) := by decide +kernel
theorem dX12_module_1 : decode cX12_module 1 = .ok (.getfield 37, 3) := by decide +kernel
theorem dX12_module_10 : decode cX12_module 10 = .ok (.sipush 1000, 3) := by decide +kernel
theorem dX12_module_13 : decode cX12_module 13 = .ok (.if_icmp .ge 55, 3) := by decide +kernel
theorem dX12_module_16 : decode cX12_module 16 = .ok (.aload_n 0, 1) := by decide +kernel
theorem dX12_module_17 : decode cX12_module 17 = .ok (.getfield 19, 3) := by decide +kernel
theorem dX12_module_20 : decode cX12_module 20 = .ok (.getfield 123, 3) := by decide +kernel
theorem dX12_module_23 : decode cX12_module 23 = .ok (.iconst 4, 1) := by decide +kernel
theorem dX12_module_24 : decode cX12_module 24 = .ok (.if_icmp .eq 44, 3) := by decide +kernel
theorem dX12_module_4 : decode cX12_module 4 = .ok (.invokevirtual 120, 3) := by decide +kernel
theorem dX12_module_68 : decode cX12_module 68 = .ok (.aload_n 0, 1) := by decide +kernel
theorem dX12_module_69 : decode cX12_module 69 = .ok (.getfield 19, 3) := by decide +kernel
theorem dX12_module_7 : decode cX12_module 7 = .ok (.iconst 0, 1) := by decide +kernel
theorem dX12_module_72 : decode cX12_module 72 = .ok (.iconst 0, 1) := by decide +kernel
theorem dX12_module_73 : decode cX12_module 73 = .ok (.putfield 100, 3) := by decide +kernel
theorem dX12_module_76 : decode cX12_module 76 = .ok (.iload_n 1, 1) := by decide +kernel
theorem dX12_module_77 : decode cX12_module 77 = .ok (.ireturn, 1) := by decide +kernel
theorem dX12_module_8 : decode cX12_module 8 = .ok (.istore_n 1, 1) := by decide +kernel
theorem dX12_module_9 : decode cX12_module 9 = .ok (.iload_n 1, 1) := by decide +kernel
theorem dX12_number_0 : decode cX12_number 0 = .ok (.iload_n 2, 1) := by decide +kernel
theorem dX12_number_1 : decode cX12_number 1 = .ok (.ifCond .lt 8, 3) := by decide +kernel
theorem dX12_number_101 : decode cX12_number 101 = .ok (.iconst (-1), 1) := by decide +kernel
theorem dX12_number_102 : decode cX12_number 102 = .ok (.goto 9, 3) := by decide +kernel
theorem dX12_number_111 : decode cX12_number 111 = .ok (.ireturn, 1) := by decide +kernel
theorem dX12_number_12 : decode cX12_number 12 = .ok (.dup, 1) := by decide +kernel
theorem dX12_number_13 : decode cX12_number 13 = .ok (.ldc 143, 2) := by decide +kernel
theorem dX12_number_15 : decode cX12_number 15 = .ok (.invokespecial 119, 3) := by decide +kernel
theorem dX12_number_18 : decode cX12_number 18 = .ok (.athrow, 1) := by decide +kernel
theorem dX12_number_19 : decode cX12_number 19 = .ok (.aload_n 0, 1) := by decide +kernel
theorem dX12_number_20 : decode cX12_number 20 = .ok (.getfield 12, 3) := by decide +kernel
theorem dX12_number_23 : decode cX12_number 23 = .ok (.getfield 145, 3) := by decide +kernel
theorem dX12_number_26 : decode cX12_number 26 = .ok (.astore_n 3, 1) := by decide +kernel
theorem dX12_number_27 : decode cX12_number 27 = .ok (.iload_n 2, 1) := by decide +kernel
theorem dX12_number_28 : decode cX12_number 28 = .ok (.ifCond .ne 14, 3) := by decide +kernel
theorem dX12_number_31 : decode cX12_number 31 = .ok (.aload_n 0, 1) := by decide +kernel
theorem dX12_number_32 : decode cX12_number 32 = .ok (.getfield 12, 3) := by decide +kernel
theorem dX12_number_35 : decode cX12_number 35 = .ok (.getfield 149, 3) := by decide +kernel
theorem dX12_number_38 : decode cX12_number 38 = .ok (.astore_n 3, 1) := by decide +kernel
theorem dX12_number_39 : decode cX12_number 39 = .ok (.goto 38, 3) := by decide +kernel
theorem dX12_number_4 : decode cX12_number 4 = .ok (.iload_n 2, 1) := by decide +kernel
theorem dX12_number_42 : decode cX12_number 42 = .ok (.iload_n 2, 1) := by decide +kernel
theorem dX12_number_43 : decode cX12_number 43 = .ok (.iconst 2, 1) := by decide +kernel
theorem dX12_number_44 : decode cX12_number 44 = .ok (.if_icmp .ne 14, 3) := by decide +kernel
theorem dX12_number_47 : decode cX12_number 47 = .ok (.aload_n 0, 1) := by decide +kernel
theorem dX12_number_48 : decode cX12_number 48 = .ok (.getfield 12, 3) := by decide +kernel
theorem dX12_number_5 : decode cX12_number 5 = .ok (.iconst 5, 1) := by decide +kernel
theorem dX12_number_51 : decode cX12_number 51 = .ok (.getfield 152, 3) := by decide +kernel
theorem dX12_number_54 : decode cX12_number 54 = .ok (.astore_n 3, 1) := by decide +kernel
theorem dX12_number_55 : decode cX12_number 55 = .ok (.goto 22, 3) := by decide +kernel
theorem dX12_number_58 : decode cX12_number 58 = .ok (.iload_n 2, 1) := by decide +kernel
theorem dX12_number_59 : decode cX12_number 59 = .ok (.iconst 2, 1) := by decide +kernel
theorem dX12_number_6 : decode cX12_number 6 = .ok (.if_icmp .le 13, 3) := by decide +kernel
theorem dX12_number_60 : decode cX12_number 60 = .ok (.if_icmp .le 17, 3) := by decide +kernel
theorem dX12_number_63 : decode cX12_number 63 = .ok (.aload_n 0, 1) := by decide +kernel
theorem dX12_number_64 : decode cX12_number 64 = .ok (.iload_n 1, 1) := by decide +kernel
theorem dX12_number_65 : decode cX12_number 65 = .ok (.invokevirtual 155, 3) := by decide +kernel
theorem dX12_number_77 : decode cX12_number 77 = .ok (.aload_n 0, 1) := by decide +kernel
theorem dX12_number_78 : decode cX12_number 78 = .ok (.getfield 19, 3) := by decide +kernel
theorem dX12_number_81 : decode cX12_number 81 = .ok (.invokevirtual 165, 3) := by decide +kernel
theorem dX12_number_84 : decode cX12_number 84 = .ok (.lstore 4, 2) := by decide +kernel
theorem dX12_number_86 : decode cX12_number 86 = .ok (.aload_n 0, 1) := by decide +kernel
theorem dX12_number_87 : decode cX12_number 87 = .ok (.getfield 19, 3) := by decide +kernel
theorem dX12_number_9 : decode cX12_number 9 = .ok (.new 115, 3) := by decide +kernel
theorem dX12_number_90 : decode cX12_number 90 = .ok (.iconst 0, 1) := by decide +kernel
theorem dX12_number_91 : decode cX12_number 91 = .ok (.putfield 100, 3) := by decide +kernel
theorem dX12_number_94 : decode cX12_number 94 = .ok (.lload 4, 2) := by decide +kernel
theorem dX12_number_96 : decode cX12_number 96 = .ok (.lconst 0, 1) := by decide +kernel
theorem dX12_number_97 : decode cX12_number 97 = .ok (.lcmp, 1) := by decide +kernel
theorem dX12_number_98 : decode cX12_number 98 = .ok (.ifCond .ne 7, 3) := by decide +kernel
theorem dX12_out_0 : decode cX12_out 0 = .ok (.iload_n 1, 1) := by decide +kernel
theorem dX12_out_1 : decode cX12_out 1 = .ok (.ifCond .lt 30, 3) := by decide +kernel
theorem dX12_out_12 : decode cX12_out 12 = .ok (.if_icmp .ge 19, 3) := by decide +kernel
theorem dX12_out_31 : decode cX12_out 31 = .ok (.iconst (-1), 1) := by decide +kernel
theorem dX12_out_32 : decode cX12_out 32 = .ok (.ireturn, 1) := by decide +kernel
theorem dX12_out_4 : decode cX12_out 4 = .ok (.iload_n 1, 1) := by decide +kernel
theorem dX12_out_5 : decode cX12_out 5 = .ok (.aload_n 0, 1) := by decide +kernel
theorem dX12_out_6 : decode cX12_out 6 = .ok (.getfield 23, 3) := by decide +kernel
theorem dX12_out_9 : decode cX12_out 9 = .ok (.getfield 100, 3) := by decide +kernel
theorem dX12_parse_0 : decode cX12_parse 0 = .ok (.aload_n 0, 1) := by decide +kernel
theorem dX12_parse_1 : decode cX12_parse 1 = .ok (.iload_n 1, 1) := by decide +kernel
theorem dX12_parse_2 : decode cX12_parse 2 = .ok (.invokevirtual 155, 3) := by decide +kernel
theorem dX12_price_0 : decode cX12_price 0 = .ok (.aload_n 0, 1) := by decide +kernel
theorem dX12_price_1 : decode cX12_price 1 = .ok (.getfield 55, 3) := by decide +kernel
theorem dX12_price_4 : decode cX12_price 4 = .ok (.iload_n 1, 1) := by decide +kernel
theorem dX12_price_5 : decode cX12_price 5 = .ok (.invokevirtual 246, 3) := by decide +kernel
theorem dX12_price_8 : decode cX12_price 8 = .ok (.ireturn, 1) := by decide +kernel
theorem dX12_reading_0 : decode cX12_reading 0 = .ok (.iload_n 2, 1) := by decide +kernel
theorem dX12_reading_1 : decode cX12_reading 1 = .ok (.invokestatic 249, 3) := by decide +kernel
theorem dX12_reading_10 : decode cX12_reading 10 = .ok (.getfield 82, 3) := by decide +kernel
theorem dX12_reading_13 : decode cX12_reading 13 = .ok (.bipush 8, 2) := by decide +kernel
theorem dX12_reading_15 : decode cX12_reading 15 = .ok (.aaload, 1) := by decide +kernel
theorem dX12_reading_16 : decode cX12_reading 16 = .ok (.invokevirtual 252, 3) := by decide +kernel
theorem dX12_reading_19 : decode cX12_reading 19 = .ok (.istore_n 3, 1) := by decide +kernel
theorem dX12_reading_20 : decode cX12_reading 20 = .ok (.iload_n 3, 1) := by decide +kernel
theorem dX12_reading_21 : decode cX12_reading 21 = .ok (.ifCond .le 29, 3) := by decide +kernel
theorem dX12_reading_4 : decode cX12_reading 4 = .ok (.aload_n 0, 1) := by decide +kernel
theorem dX12_reading_5 : decode cX12_reading 5 = .ok (.getfield 55, 3) := by decide +kernel
theorem dX12_reading_50 : decode cX12_reading 50 = .ok (.iload_n 3, 1) := by decide +kernel
theorem dX12_reading_51 : decode cX12_reading 51 = .ok (.ireturn, 1) := by decide +kernel
theorem dX12_reading_8 : decode cX12_reading 8 = .ok (.iload_n 1, 1) := by decide +kernel
theorem dX12_reading_9 : decode cX12_reading 9 = .ok (.aload_n 0, 1) := by decide +kernel
theorem dX12_rule_0 : decode cX12_rule 0 = .ok (.aload_n 0, 1) := by decide +kernel
theorem dX12_rule_1 : decode cX12_rule 1 = .ok (.getfield 37, 3) := by decide +kernel
theorem dX12_rule_4 : decode cX12_rule 4 = .ok (.getfield 136, 3) := by decide +kernel
theorem dX12_rule_7 : decode cX12_rule 7 = .ok (.ireturn, 1) := by decide +kernel
theorem dX12_same_0 : decode cX12_same 0 = .ok (.iload_n 1, 1) := by decide +kernel
theorem dX12_same_1 : decode cX12_same 1 = .ok (.invokestatic 249, 3) := by decide +kernel
theorem dX12_same_12 : decode cX12_same 12 = .ok (.iload_n 1, 1) := by decide +kernel
theorem dX12_same_13 : decode cX12_same 13 = .ok (.iaload, 1) := by decide +kernel
theorem dX12_same_14 : decode cX12_same 14 = .ok (.aload_n 0, 1) := by decide +kernel
theorem dX12_same_15 : decode cX12_same 15 = .ok (.getfield 85, 3) := by decide +kernel
theorem dX12_same_18 : decode cX12_same 18 = .ok (.iload_n 2, 1) := by decide +kernel
theorem dX12_same_19 : decode cX12_same 19 = .ok (.iaload, 1) := by decide +kernel
theorem dX12_same_20 : decode cX12_same 20 = .ok (.if_icmp .eq 5, 3) := by decide +kernel
theorem dX12_same_25 : decode cX12_same 25 = .ok (.iconst 0, 1) := by decide +kernel
theorem dX12_same_26 : decode cX12_same 26 = .ok (.istore_n 3, 1) := by decide +kernel
theorem dX12_same_27 : decode cX12_same 27 = .ok (.iload_n 3, 1) := by decide +kernel
theorem dX12_same_28 : decode cX12_same 28 = .ok (.aload_n 0, 1) := by decide +kernel
theorem dX12_same_29 : decode cX12_same 29 = .ok (.getfield 85, 3) := by decide +kernel
theorem dX12_same_32 : decode cX12_same 32 = .ok (.iload_n 1, 1) := by decide +kernel
theorem dX12_same_33 : decode cX12_same 33 = .ok (.iaload, 1) := by decide +kernel
theorem dX12_same_34 : decode cX12_same 34 = .ok (.if_icmp .ge 30, 3) := by decide +kernel
theorem dX12_same_4 : decode cX12_same 4 = .ok (.iload_n 2, 1) := by decide +kernel
theorem dX12_same_5 : decode cX12_same 5 = .ok (.invokestatic 249, 3) := by decide +kernel
theorem dX12_same_64 : decode cX12_same 64 = .ok (.iconst 1, 1) := by decide +kernel
theorem dX12_same_65 : decode cX12_same 65 = .ok (.ireturn, 1) := by decide +kernel
theorem dX12_same_8 : decode cX12_same 8 = .ok (.aload_n 0, 1) := by decide +kernel
theorem dX12_same_9 : decode cX12_same 9 = .ok (.getfield 85, 3) := by decide +kernel
theorem dX12_say_0 : decode cX12_say 0 = .ok (.aload_n 0, 1) := by decide +kernel
theorem dX12_say_1 : decode cX12_say 1 = .ok (.iload_n 1, 1) := by decide +kernel
theorem dX12_say_2 : decode cX12_say 2 = .ok (.invokevirtual 155, 3) := by decide +kernel
theorem dX12_show_0 : decode cX12_show 0 = .ok (.iload_n 1, 1) := by decide +kernel
theorem dX12_show_1 : decode cX12_show 1 = .ok (.invokestatic 249, 3) := by decide +kernel
theorem dX12_show_12 : decode cX12_show 12 = .ok (.aload_n 0, 1) := by decide +kernel
theorem dX12_show_13 : decode cX12_show 13 = .ok (.getfield 85, 3) := by decide +kernel
theorem dX12_show_16 : decode cX12_show 16 = .ok (.iload_n 1, 1) := by decide +kernel
theorem dX12_show_17 : decode cX12_show 17 = .ok (.iaload, 1) := by decide +kernel
theorem dX12_show_18 : decode cX12_show 18 = .ok (.ifCond .ne 5, 3) := by decide +kernel
theorem dX12_show_21 : decode cX12_show 21 = .ok (.iconst (-1), 1) := by decide +kernel
theorem dX12_show_22 : decode cX12_show 22 = .ok (.ireturn, 1) := by decide +kernel
theorem dX12_show_4 : decode cX12_show 4 = .ok (.aload_n 0, 1) := by decide +kernel
theorem dX12_show_5 : decode cX12_show 5 = .ok (.getfield 23, 3) := by decide +kernel
theorem dX12_show_8 : decode cX12_show 8 = .ok (.iconst 0, 1) := by decide +kernel
theorem dX12_show_9 : decode cX12_show 9 = .ok (.putfield 100, 3) := by decide +kernel
theorem dX12_sounds_0 : decode cX12_sounds 0 = .ok (.aload_n 0, 1) := by decide +kernel
theorem dX12_sounds_1 : decode cX12_sounds 1 = .ok (.iload_n 1, 1) := by decide +kernel
theorem dX12_sounds_2 : decode cX12_sounds 2 = .ok (.invokevirtual 155, 3) := by decide +kernel
theorem dX12_swap_0 : decode cX12_swap 0 = .ok (.aload_n 0, 1) := by decide +kernel
theorem dX12_swap_1 : decode cX12_swap 1 = .ok (.iload_n 1, 1) := by decide +kernel
theorem dX12_swap_2 : decode cX12_swap 2 = .ok (.invokevirtual 155, 3) := by decide +kernel
theorem dX12_tongueAt_0 : decode cX12_tongueAt 0 = .ok (.iload_n 1, 1) := by decide +kernel
theorem dX12_tongueAt_1 : decode cX12_tongueAt 1 = .ok (.ifCond .lt 29, 3) := by decide +kernel
theorem dX12_tongueAt_12 : decode cX12_tongueAt 12 = .ok (.getfield 239, 3) := by decide +kernel
theorem dX12_tongueAt_15 : decode cX12_tongueAt 15 = .ok (.if_icmp .ge 15, 3) := by decide +kernel
theorem dX12_tongueAt_30 : decode cX12_tongueAt 30 = .ok (.new 115, 3) := by decide +kernel
theorem dX12_tongueAt_33 : decode cX12_tongueAt 33 = .ok (.dup, 1) := by decide +kernel
theorem dX12_tongueAt_34 : decode cX12_tongueAt 34 = .ok (.ldc_w 360, 3) := by decide +kernel
theorem dX12_tongueAt_37 : decode cX12_tongueAt 37 = .ok (.invokespecial 119, 3) := by decide +kernel
theorem dX12_tongueAt_4 : decode cX12_tongueAt 4 = .ok (.iload_n 1, 1) := by decide +kernel
theorem dX12_tongueAt_40 : decode cX12_tongueAt 40 = .ok (.athrow, 1) := by decide +kernel
theorem dX12_tongueAt_5 : decode cX12_tongueAt 5 = .ok (.aload_n 0, 1) := by decide +kernel
theorem dX12_tongueAt_6 : decode cX12_tongueAt 6 = .ok (.getfield 12, 3) := by decide +kernel
theorem dX12_tongueAt_9 : decode cX12_tongueAt 9 = .ok (.getfield 149, 3) := by decide +kernel
theorem dX12_tree_0 : decode cX12_tree 0 = .ok (.iload_n 1, 1) := by decide +kernel
theorem dX12_tree_1 : decode cX12_tree 1 = .ok (.invokestatic 249, 3) := by decide +kernel
theorem dX12_tree_12 : decode cX12_tree 12 = .ok (.bipush 8, 2) := by decide +kernel
theorem dX12_tree_14 : decode cX12_tree 14 = .ok (.aaload, 1) := by decide +kernel
theorem dX12_tree_15 : decode cX12_tree 15 = .ok (.invokevirtual 262, 3) := by decide +kernel
theorem dX12_tree_18 : decode cX12_tree 18 = .ok (.istore_n 2, 1) := by decide +kernel
theorem dX12_tree_19 : decode cX12_tree 19 = .ok (.aload_n 0, 1) := by decide +kernel
theorem dX12_tree_20 : decode cX12_tree 20 = .ok (.getfield 19, 3) := by decide +kernel
theorem dX12_tree_23 : decode cX12_tree 23 = .ok (.iconst 0, 1) := by decide +kernel
theorem dX12_tree_24 : decode cX12_tree 24 = .ok (.putfield 100, 3) := by decide +kernel
theorem dX12_tree_27 : decode cX12_tree 27 = .ok (.iload_n 2, 1) := by decide +kernel
theorem dX12_tree_28 : decode cX12_tree 28 = .ok (.ifCond .le 29, 3) := by decide +kernel
theorem dX12_tree_4 : decode cX12_tree 4 = .ok (.aload_n 0, 1) := by decide +kernel
theorem dX12_tree_5 : decode cX12_tree 5 = .ok (.getfield 37, 3) := by decide +kernel
theorem dX12_tree_57 : decode cX12_tree 57 = .ok (.iload_n 2, 1) := by decide +kernel
theorem dX12_tree_58 : decode cX12_tree 58 = .ok (.ireturn, 1) := by decide +kernel
theorem dX12_tree_8 : decode cX12_tree 8 = .ok (.aload_n 0, 1) := by decide +kernel
theorem dX12_tree_9 : decode cX12_tree 9 = .ok (.getfield 82, 3) := by decide +kernel
theorem dX12_trees_0 : decode cX12_trees 0 = .ok (.aload_n 0, 1) := by decide +kernel
theorem dX12_trees_1 : decode cX12_trees 1 = .ok (.getfield 55, 3) := by decide +kernel
theorem dX12_trees_4 : decode cX12_trees 4 = .ok (.invokevirtual 236, 3) := by decide +kernel
theorem dX12_trees_7 : decode cX12_trees 7 = .ok (.lreturn, 1) := by decide +kernel
theorem dX12_truth_0 : decode cX12_truth 0 = .ok (.iload_n 1, 1) := by decide +kernel
theorem dX12_truth_1 : decode cX12_truth 1 = .ok (.invokestatic 249, 3) := by decide +kernel
theorem dX12_truth_10 : decode cX12_truth 10 = .ok (.iload_n 2, 1) := by decide +kernel
theorem dX12_truth_11 : decode cX12_truth 11 = .ok (.ifCond .ge 7, 3) := by decide +kernel
theorem dX12_truth_14 : decode cX12_truth 14 = .ok (.iload_n 2, 1) := by decide +kernel
theorem dX12_truth_15 : decode cX12_truth 15 = .ok (.goto 10, 3) := by decide +kernel
theorem dX12_truth_25 : decode cX12_truth 25 = .ok (.ireturn, 1) := by decide +kernel
theorem dX12_truth_4 : decode cX12_truth 4 = .ok (.aload_n 0, 1) := by decide +kernel
theorem dX12_truth_5 : decode cX12_truth 5 = .ok (.iload_n 1, 1) := by decide +kernel
theorem dX12_truth_6 : decode cX12_truth 6 = .ok (.invokevirtual 278, 3) := by decide +kernel
theorem dX12_truth_9 : decode cX12_truth 9 = .ok (.istore_n 2, 1) := by decide +kernel
theorem dX13_add_0 : decode cX13_add 0 = .ok (.aload_n 0, 1) := by decide +kernel
theorem dX13_add_1 : decode cX13_add 1 = .ok (.iload_n 1, 1) := by decide +kernel
theorem dX13_add_2 : decode cX13_add 2 = .ok (.invokevirtual 845, 3) := by decide +kernel
theorem dX13_add_5 : decode cX13_add 5 = .ok (.ifCond .eq 5, 3) := by decide +kernel
theorem dX13_add_8 : decode cX13_add 8 = .ok (.iconst 0, 1) := by decide +kernel
theorem dX13_add_9 : decode cX13_add 9 = .ok (.ireturn, 1) := by decide +kernel
theorem dX13_analyse_0 : decode cX13_analyse 0 = .ok (.aload_n 0, 1) := by decide +kernel
theorem dX13_analyse_1 : decode cX13_analyse 1 = .ok (.iload_n 1, 1) := by decide +kernel
theorem dX13_analyse_2 : decode cX13_analyse 2 = .ok (.invokevirtual 845, 3) := by decide +kernel
theorem dX13_analyse_5 : decode cX13_analyse 5 = .ok (.ifCond .eq 5, 3) := by decide +kernel
theorem dX13_analyse_8 : decode cX13_analyse 8 = .ok (.iconst 0, 1) := by decide +kernel
theorem dX13_analyse_9 : decode cX13_analyse 9 = .ok (.ireturn, 1) := by decide +kernel
theorem dX13_analysis_0 : decode cX13_analysis 0 = .ok (.aload_n 0, 1) := by decide +kernel
theorem dX13_analysis_1 : decode cX13_analysis 1 = .ok (.iconst 0, 1) := by decide +kernel
theorem dX13_analysis_10 : decode cX13_analysis 10 = .ok (.bipush 11, 2) := by decide +kernel
theorem dX13_analysis_12 : decode cX13_analysis 12 = .ok (.if_icmp .le 8, 3) := by decide +kernel
theorem dX13_analysis_15 : decode cX13_analysis 15 = .ok (.aload_n 0, 1) := by decide +kernel
theorem dX13_analysis_16 : decode cX13_analysis 16 = .ok (.invokevirtual 579, 3) := by decide +kernel
theorem dX13_analysis_19 : decode cX13_analysis 19 = .ok (.ireturn, 1) := by decide +kernel
theorem dX13_analysis_2 : decode cX13_analysis 2 = .ok (.putfield 3, 3) := by decide +kernel
theorem dX13_analysis_20 : decode cX13_analysis 20 = .ok (.iload_n 1, 1) := by decide +kernel
theorem dX13_analysis_21 : decode cX13_analysis 21 = .ok (.ifCond .lt 11, 3) := by decide +kernel
theorem dX13_analysis_24 : decode cX13_analysis 24 = .ok (.iload_n 1, 1) := by decide +kernel
theorem dX13_analysis_25 : decode cX13_analysis 25 = .ok (.aload_n 0, 1) := by decide +kernel
theorem dX13_analysis_26 : decode cX13_analysis 26 = .ok (.getfield 854, 3) := by decide +kernel
theorem dX13_analysis_29 : decode cX13_analysis 29 = .ok (.if_icmp .lt 5, 3) := by decide +kernel
theorem dX13_analysis_32 : decode cX13_analysis 32 = .ok (.iconst (-1), 1) := by decide +kernel
theorem dX13_analysis_33 : decode cX13_analysis 33 = .ok (.ireturn, 1) := by decide +kernel
theorem dX13_analysis_5 : decode cX13_analysis 5 = .ok (.iload_n 2, 1) := by decide +kernel
theorem dX13_analysis_6 : decode cX13_analysis 6 = .ok (.ifCond .lt 9, 3) := by decide +kernel
theorem dX13_analysis_9 : decode cX13_analysis 9 = .ok (.iload_n 2, 1) := by decide +kernel
theorem dX13_ask_0 : decode cX13_ask 0 = .ok (.aload_n 0, 1) := by decide +kernel
theorem dX13_ask_1 : decode cX13_ask 1 = .ok (.iload_n 1, 1) := by decide +kernel
theorem dX13_ask_2 : decode cX13_ask 2 = .ok (.invokevirtual 845, 3) := by decide +kernel
theorem dX13_ask_5 : decode cX13_ask 5 = .ok (.ifCond .eq 5, 3) := by decide +kernel
theorem dX13_ask_8 : decode cX13_ask 8 = .ok (.iconst 0, 1) := by decide +kernel
theorem dX13_ask_9 : decode cX13_ask 9 = .ok (.ireturn, 1) := by decide +kernel
theorem dX13_bad_0 : decode cX13_bad 0 = .ok (.aload_n 0, 1) := by decide +kernel
theorem dX13_bad_1 : decode cX13_bad 1 = .ok (.iconst 1, 1) := by decide +kernel
theorem dX13_bad_2 : decode cX13_bad 2 = .ok (.putfield 3, 3) := by decide +kernel
theorem dX13_bad_5 : decode cX13_bad 5 = .ok (.iconst 0, 1) := by decide +kernel
theorem dX13_bad_6 : decode cX13_bad 6 = .ok (.ireturn, 1) := by decide +kernel
theorem dX13_bar_0 : decode cX13_bar 0 = .ok (.aload_n 0, 1) := by decide +kernel
theorem dX13_bar_1 : decode cX13_bar 1 = .ok (.iconst 0, 1) := by decide +kernel
theorem dX13_bar_10 : decode cX13_bar 10 = .ok (.aload_n 0, 1) := by decide +kernel
theorem dX13_bar_11 : decode cX13_bar 11 = .ok (.getfield 664, 3) := by decide +kernel
theorem dX13_bar_14 : decode cX13_bar 14 = .ok (.if_icmp .lt 9, 3) := by decide +kernel
theorem dX13_bar_17 : decode cX13_bar 17 = .ok (.aload_n 0, 1) := by decide +kernel
theorem dX13_bar_18 : decode cX13_bar 18 = .ok (.invokevirtual 579, 3) := by decide +kernel
theorem dX13_bar_2 : decode cX13_bar 2 = .ok (.putfield 3, 3) := by decide +kernel
theorem dX13_bar_21 : decode cX13_bar 21 = .ok (.i2l, 1) := by decide +kernel
theorem dX13_bar_22 : decode cX13_bar 22 = .ok (.lreturn, 1) := by decide +kernel
theorem dX13_bar_5 : decode cX13_bar 5 = .ok (.iload_n 1, 1) := by decide +kernel
theorem dX13_bar_6 : decode cX13_bar 6 = .ok (.ifCond .lt 11, 3) := by decide +kernel
theorem dX13_bar_9 : decode cX13_bar 9 = .ok (.iload_n 1, 1) := by decide +kernel
theorem dX13_candidate_0 : decode cX13_candidate 0 = .ok (.aload_n 0, 1) := by decide +kernel
theorem dX13_candidate_1 : decode cX13_candidate 1 = .ok (.iconst 0, 1) := by decide +kernel
theorem dX13_candidate_10 : decode cX13_candidate 10 = .ok (.iload_n 1, 1) := by decide +kernel
theorem dX13_candidate_11 : decode cX13_candidate 11 = .ok (.ifCond .lt 11, 3) := by decide +kernel
theorem dX13_candidate_14 : decode cX13_candidate 14 = .ok (.iload_n 1, 1) := by decide +kernel
theorem dX13_candidate_15 : decode cX13_candidate 15 = .ok (.aload_n 0, 1) := by decide +kernel
theorem dX13_candidate_16 : decode cX13_candidate 16 = .ok (.getfield 1046, 3) := by decide +kernel
theorem dX13_candidate_19 : decode cX13_candidate 19 = .ok (.if_icmp .lt 5, 3) := by decide +kernel
theorem dX13_candidate_2 : decode cX13_candidate 2 = .ok (.putfield 3, 3) := by decide +kernel
theorem dX13_candidate_22 : decode cX13_candidate 22 = .ok (.iconst (-1), 1) := by decide +kernel
theorem dX13_candidate_23 : decode cX13_candidate 23 = .ok (.ireturn, 1) := by decide +kernel
theorem dX13_candidate_5 : decode cX13_candidate 5 = .ok (.aload_n 0, 1) := by decide +kernel
theorem dX13_candidate_6 : decode cX13_candidate 6 = .ok (.iconst 0, 1) := by decide +kernel
theorem dX13_candidate_7 : decode cX13_candidate 7 = .ok (.putfield 589, 3) := by decide +kernel
theorem dX13_cell_0 : decode cX13_cell 0 = .ok (.aload_n 0, 1) := by decide +kernel
theorem dX13_cell_1 : decode cX13_cell 1 = .ok (.iload_n 1, 1) := by decide +kernel
theorem dX13_cell_2 : decode cX13_cell 2 = .ok (.invokevirtual 845, 3) := by decide +kernel
theorem dX13_cell_5 : decode cX13_cell 5 = .ok (.ifCond .eq 5, 3) := by decide +kernel
theorem dX13_cell_8 : decode cX13_cell 8 = .ok (.iconst 0, 1) := by decide +kernel
theorem dX13_cell_9 : decode cX13_cell 9 = .ok (.ireturn, 1) := by decide +kernel
theorem dX13_count_0 : decode cX13_count 0 = .ok (.aload_n 0, 1) := by decide +kernel
theorem dX13_count_1 : decode cX13_count 1 = .ok (.iconst 0, 1) := by decide +kernel
theorem dX13_count_10 : decode cX13_count 10 = .ok (.bipush 14, 2) := by decide +kernel
theorem dX13_count_108 : decode cX13_count 108 = .ok (.aload_n 0, 1) := by decide +kernel
theorem dX13_count_109 : decode cX13_count 109 = .ok (.getfield 658, 3) := by decide +kernel
theorem dX13_count_112 : decode cX13_count 112 = .ok (.ireturn, 1) := by decide +kernel
theorem dX13_count_113 : decode cX13_count 113 = .ok (.aload_n 0, 1) := by decide +kernel
theorem dX13_count_114 : decode cX13_count 114 = .ok (.getfield 661, 3) := by decide +kernel
theorem dX13_count_117 : decode cX13_count 117 = .ok (.ireturn, 1) := by decide +kernel
theorem dX13_count_118 : decode cX13_count 118 = .ok (.aload_n 0, 1) := by decide +kernel
theorem dX13_count_119 : decode cX13_count 119 = .ok (.getfield 664, 3) := by decide +kernel
theorem dX13_count_12 : decode cX13_count 12 = .ok (.if_icmp .gt 21, 3) := by decide +kernel
theorem dX13_count_122 : decode cX13_count 122 = .ok (.ireturn, 1) := by decide +kernel
theorem dX13_count_123 : decode cX13_count 123 = .ok (.aload_n 0, 1) := by decide +kernel
theorem dX13_count_124 : decode cX13_count 124 = .ok (.getfield 667, 3) := by decide +kernel
theorem dX13_count_127 : decode cX13_count 127 = .ok (.ireturn, 1) := by decide +kernel
theorem dX13_count_128 : decode cX13_count 128 = .ok (.aload_n 0, 1) := by decide +kernel
theorem dX13_count_129 : decode cX13_count 129 = .ok (.getfield 670, 3) := by decide +kernel
theorem dX13_count_132 : decode cX13_count 132 = .ok (.ireturn, 1) := by decide +kernel
theorem dX13_count_133 : decode cX13_count 133 = .ok (.aload_n 0, 1) := by decide +kernel
theorem dX13_count_134 : decode cX13_count 134 = .ok (.getfield 989, 3) := by decide +kernel
theorem dX13_count_137 : decode cX13_count 137 = .ok (.ireturn, 1) := by decide +kernel
theorem dX13_count_138 : decode cX13_count 138 = .ok (.aload_n 0, 1) := by decide +kernel
theorem dX13_count_139 : decode cX13_count 139 = .ok (.getfield 992, 3) := by decide +kernel
theorem dX13_count_142 : decode cX13_count 142 = .ok (.ireturn, 1) := by decide +kernel
theorem dX13_count_143 : decode cX13_count 143 = .ok (.aload_n 0, 1) := by decide +kernel
theorem dX13_count_144 : decode cX13_count 144 = .ok (.getfield 1049, 3) := by decide +kernel
theorem dX13_count_147 : decode cX13_count 147 = .ok (.ireturn, 1) := by decide +kernel
theorem dX13_count_15 : decode cX13_count 15 = .ok (.iload_n 2, 1) := by decide +kernel
theorem dX13_count_16 : decode cX13_count 16 = .ok (.bipush 7, 2) := by decide +kernel
theorem dX13_count_18 : decode cX13_count 18 = .ok (.if_icmp .le 20, 3) := by decide +kernel
theorem dX13_count_2 : decode cX13_count 2 = .ok (.putfield 3, 3) := by decide +kernel
theorem dX13_count_21 : decode cX13_count 21 = .ok (.iload_n 1, 1) := by decide +kernel
theorem dX13_count_22 : decode cX13_count 22 = .ok (.ifCond .lt 11, 3) := by decide +kernel
theorem dX13_count_25 : decode cX13_count 25 = .ok (.iload_n 1, 1) := by decide +kernel
theorem dX13_count_26 : decode cX13_count 26 = .ok (.aload_n 0, 1) := by decide +kernel
theorem dX13_count_27 : decode cX13_count 27 = .ok (.getfield 658, 3) := by decide +kernel
theorem dX13_count_30 : decode cX13_count 30 = .ok (.if_icmp .lt 8, 3) := by decide +kernel
theorem dX13_count_33 : decode cX13_count 33 = .ok (.aload_n 0, 1) := by decide +kernel
theorem dX13_count_34 : decode cX13_count 34 = .ok (.invokevirtual 579, 3) := by decide +kernel
theorem dX13_count_37 : decode cX13_count 37 = .ok (.ireturn, 1) := by decide +kernel
theorem dX13_count_38 : decode cX13_count 38 = .ok (.iload_n 2, 1) := by decide +kernel
theorem dX13_count_39 : decode cX13_count 39 = .ok (.tableswitch 151 0 13 #[69, 74, 79, 84, 89, 94, 99, 104, 109, 116, 123, 130, 137, 144], 69) := by decide +kernel
theorem dX13_count_5 : decode cX13_count 5 = .ok (.iload_n 2, 1) := by decide +kernel
theorem dX13_count_6 : decode cX13_count 6 = .ok (.ifCond .lt 27, 3) := by decide +kernel
theorem dX13_count_9 : decode cX13_count 9 = .ok (.iload_n 2, 1) := by decide +kernel
theorem dX13_end_0 : decode cX13_end 0 = .ok (.aload_n 0, 1) := by decide +kernel
theorem dX13_end_1 : decode cX13_end 1 = .ok (.iconst 0, 1) := by decide +kernel
theorem dX13_end_10 : decode cX13_end 10 = .ok (.aload_n 0, 1) := by decide +kernel
theorem dX13_end_11 : decode cX13_end 11 = .ok (.getfield 576, 3) := by decide +kernel
theorem dX13_end_14 : decode cX13_end 14 = .ok (.if_icmp .le 8, 3) := by decide +kernel
theorem dX13_end_17 : decode cX13_end 17 = .ok (.aload_n 0, 1) := by decide +kernel
theorem dX13_end_18 : decode cX13_end 18 = .ok (.invokevirtual 579, 3) := by decide +kernel
theorem dX13_end_2 : decode cX13_end 2 = .ok (.putfield 3, 3) := by decide +kernel
theorem dX13_end_21 : decode cX13_end 21 = .ok (.ireturn, 1) := by decide +kernel
theorem dX13_end_22 : decode cX13_end 22 = .ok (.aload_n 0, 1) := by decide +kernel
theorem dX13_end_23 : decode cX13_end 23 = .ok (.iload_n 1, 1) := by decide +kernel
theorem dX13_end_24 : decode cX13_end 24 = .ok (.putfield 576, 3) := by decide +kernel
theorem dX13_end_27 : decode cX13_end 27 = .ok (.iload_n 1, 1) := by decide +kernel
theorem dX13_end_28 : decode cX13_end 28 = .ok (.ireturn, 1) := by decide +kernel
theorem dX13_end_5 : decode cX13_end 5 = .ok (.iload_n 1, 1) := by decide +kernel
theorem dX13_end_6 : decode cX13_end 6 = .ok (.ifCond .lt 11, 3) := by decide +kernel
theorem dX13_end_9 : decode cX13_end 9 = .ok (.iload_n 1, 1) := by decide +kernel
theorem dX13_feed_0 : decode cX13_feed 0 = .ok (.aload_n 0, 1) := by decide +kernel
theorem dX13_feed_1 : decode cX13_feed 1 = .ok (.iconst 0, 1) := by decide +kernel
theorem dX13_feed_11 : decode cX13_feed 11 = .ok (.iadd, 1) := by decide +kernel
theorem dX13_feed_12 : decode cX13_feed 12 = .ok (.sipush 1000, 3) := by decide +kernel
theorem dX13_feed_15 : decode cX13_feed 15 = .ok (.if_icmp .le 8, 3) := by decide +kernel
theorem dX13_feed_2 : decode cX13_feed 2 = .ok (.putfield 3, 3) := by decide +kernel
theorem dX13_feed_23 : decode cX13_feed 23 = .ok (.aload_n 0, 1) := by decide +kernel
theorem dX13_feed_24 : decode cX13_feed 24 = .ok (.iload_n 1, 1) := by decide +kernel
theorem dX13_feed_25 : decode cX13_feed 25 = .ok (.invokevirtual 583, 3) := by decide +kernel
theorem dX13_feed_28 : decode cX13_feed 28 = .ok (.aload_n 0, 1) := by decide +kernel
theorem dX13_feed_29 : decode cX13_feed 29 = .ok (.iload_n 2, 1) := by decide +kernel
theorem dX13_feed_30 : decode cX13_feed 30 = .ok (.invokevirtual 583, 3) := by decide +kernel
theorem dX13_feed_33 : decode cX13_feed 33 = .ok (.aload_n 0, 1) := by decide +kernel
theorem dX13_feed_34 : decode cX13_feed 34 = .ok (.iload_n 3, 1) := by decide +kernel
theorem dX13_feed_35 : decode cX13_feed 35 = .ok (.invokevirtual 583, 3) := by decide +kernel
theorem dX13_feed_38 : decode cX13_feed 38 = .ok (.aload_n 0, 1) := by decide +kernel
theorem dX13_feed_39 : decode cX13_feed 39 = .ok (.iload 4, 2) := by decide +kernel
theorem dX13_feed_41 : decode cX13_feed 41 = .ok (.invokevirtual 583, 3) := by decide +kernel
theorem dX13_feed_44 : decode cX13_feed 44 = .ok (.aload_n 0, 1) := by decide +kernel
theorem dX13_feed_45 : decode cX13_feed 45 = .ok (.iload 5, 2) := by decide +kernel
theorem dX13_feed_47 : decode cX13_feed 47 = .ok (.invokevirtual 583, 3) := by decide +kernel
theorem dX13_feed_5 : decode cX13_feed 5 = .ok (.aload_n 0, 1) := by decide +kernel
theorem dX13_feed_50 : decode cX13_feed 50 = .ok (.aload_n 0, 1) := by decide +kernel
theorem dX13_feed_51 : decode cX13_feed 51 = .ok (.getfield 576, 3) := by decide +kernel
theorem dX13_feed_54 : decode cX13_feed 54 = .ok (.ireturn, 1) := by decide +kernel
theorem dX13_feed_6 : decode cX13_feed 6 = .ok (.getfield 576, 3) := by decide +kernel
theorem dX13_feed_9 : decode cX13_feed 9 = .ok (.bipush 20, 2) := by decide +kernel
theorem dX13_four_0 : decode cX13_four 0 = .ok (.bipush 24, 2) := by decide +kernel
theorem dX13_four_11 : decode cX13_four 11 = .ok (.aload_n 0, 1) := by decide +kernel
theorem dX13_four_12 : decode cX13_four 12 = .ok (.dup, 1) := by decide +kernel
theorem dX13_four_13 : decode cX13_four 13 = .ok (.getfield 576, 3) := by decide +kernel
theorem dX13_four_16 : decode cX13_four 16 = .ok (.dup_x1, 1) := by decide +kernel
theorem dX13_four_17 : decode cX13_four 17 = .ok (.iconst 1, 1) := by decide +kernel
theorem dX13_four_18 : decode cX13_four 18 = .ok (.iadd, 1) := by decide +kernel
theorem dX13_four_19 : decode cX13_four 19 = .ok (.putfield 576, 3) := by decide +kernel
theorem dX13_four_2 : decode cX13_four 2 = .ok (.istore_n 2, 1) := by decide +kernel
theorem dX13_four_22 : decode cX13_four 22 = .ok (.iload_n 1, 1) := by decide +kernel
theorem dX13_four_23 : decode cX13_four 23 = .ok (.iload_n 2, 1) := by decide +kernel
theorem dX13_four_24 : decode cX13_four 24 = .ok (.iushr, 1) := by decide +kernel
theorem dX13_four_25 : decode cX13_four 25 = .ok (.i2b, 1) := by decide +kernel
theorem dX13_four_26 : decode cX13_four 26 = .ok (.bastore, 1) := by decide +kernel
theorem dX13_four_27 : decode cX13_four 27 = .ok (.iinc 2 (-8), 3) := by decide +kernel
theorem dX13_four_3 : decode cX13_four 3 = .ok (.iload_n 2, 1) := by decide +kernel
theorem dX13_four_30 : decode cX13_four 30 = .ok (.goto (-27), 3) := by decide +kernel
theorem dX13_four_33 : decode cX13_four 33 = .ok (.return_, 1) := by decide +kernel
theorem dX13_four_4 : decode cX13_four 4 = .ok (.ifCond .lt 29, 3) := by decide +kernel
theorem dX13_four_7 : decode cX13_four 7 = .ok (.aload_n 0, 1) := by decide +kernel
theorem dX13_four_8 : decode cX13_four 8 = .ok (.getfield 188, 3) := by decide +kernel
theorem dX13_guess_0 : decode cX13_guess 0 = .ok (.aload_n 0, 1) := by decide +kernel
theorem dX13_guess_1 : decode cX13_guess 1 = .ok (.iload_n 1, 1) := by decide +kernel
theorem dX13_guess_2 : decode cX13_guess 2 = .ok (.invokevirtual 845, 3) := by decide +kernel
theorem dX13_guess_5 : decode cX13_guess 5 = .ok (.ifCond .eq 5, 3) := by decide +kernel
theorem dX13_guess_8 : decode cX13_guess 8 = .ok (.iconst 0, 1) := by decide +kernel
theorem dX13_guess_9 : decode cX13_guess 9 = .ok (.ireturn, 1) := by decide +kernel
theorem dX13_guessed_0 : decode cX13_guessed 0 = .ok (.aload_n 0, 1) := by decide +kernel
theorem dX13_guessed_1 : decode cX13_guessed 1 = .ok (.iconst 0, 1) := by decide +kernel
theorem dX13_guessed_10 : decode cX13_guessed 10 = .ok (.iconst 3, 1) := by decide +kernel
theorem dX13_guessed_11 : decode cX13_guessed 11 = .ok (.if_icmp .le 8, 3) := by decide +kernel
theorem dX13_guessed_14 : decode cX13_guessed 14 = .ok (.aload_n 0, 1) := by decide +kernel
theorem dX13_guessed_15 : decode cX13_guessed 15 = .ok (.invokevirtual 579, 3) := by decide +kernel
theorem dX13_guessed_18 : decode cX13_guessed 18 = .ok (.ireturn, 1) := by decide +kernel
theorem dX13_guessed_19 : decode cX13_guessed 19 = .ok (.iload_n 1, 1) := by decide +kernel
theorem dX13_guessed_2 : decode cX13_guessed 2 = .ok (.putfield 3, 3) := by decide +kernel
theorem dX13_guessed_20 : decode cX13_guessed 20 = .ok (.ifCond .lt 11, 3) := by decide +kernel
theorem dX13_guessed_23 : decode cX13_guessed 23 = .ok (.iload_n 1, 1) := by decide +kernel
theorem dX13_guessed_24 : decode cX13_guessed 24 = .ok (.aload_n 0, 1) := by decide +kernel
theorem dX13_guessed_25 : decode cX13_guessed 25 = .ok (.getfield 870, 3) := by decide +kernel
theorem dX13_guessed_28 : decode cX13_guessed 28 = .ok (.if_icmp .lt 5, 3) := by decide +kernel
theorem dX13_guessed_31 : decode cX13_guessed 31 = .ok (.iconst (-1), 1) := by decide +kernel
theorem dX13_guessed_32 : decode cX13_guessed 32 = .ok (.ireturn, 1) := by decide +kernel
theorem dX13_guessed_5 : decode cX13_guessed 5 = .ok (.iload_n 2, 1) := by decide +kernel
theorem dX13_guessed_6 : decode cX13_guessed 6 = .ok (.ifCond .lt 8, 3) := by decide +kernel
theorem dX13_guessed_9 : decode cX13_guessed 9 = .ok (.iload_n 2, 1) := by decide +kernel
theorem dX13_hit_0 : decode cX13_hit 0 = .ok (.aload_n 0, 1) := by decide +kernel
theorem dX13_hit_1 : decode cX13_hit 1 = .ok (.iconst 0, 1) := by decide +kernel
theorem dX13_hit_10 : decode cX13_hit 10 = .ok (.iconst 1, 1) := by decide +kernel
theorem dX13_hit_11 : decode cX13_hit 11 = .ok (.if_icmp .le 8, 3) := by decide +kernel
theorem dX13_hit_14 : decode cX13_hit 14 = .ok (.aload_n 0, 1) := by decide +kernel
theorem dX13_hit_15 : decode cX13_hit 15 = .ok (.invokevirtual 579, 3) := by decide +kernel
theorem dX13_hit_18 : decode cX13_hit 18 = .ok (.ireturn, 1) := by decide +kernel
theorem dX13_hit_19 : decode cX13_hit 19 = .ok (.iload_n 1, 1) := by decide +kernel
theorem dX13_hit_2 : decode cX13_hit 2 = .ok (.putfield 3, 3) := by decide +kernel
theorem dX13_hit_20 : decode cX13_hit 20 = .ok (.ifCond .lt 11, 3) := by decide +kernel
theorem dX13_hit_23 : decode cX13_hit 23 = .ok (.iload_n 1, 1) := by decide +kernel
theorem dX13_hit_24 : decode cX13_hit 24 = .ok (.aload_n 0, 1) := by decide +kernel
theorem dX13_hit_25 : decode cX13_hit 25 = .ok (.getfield 1052, 3) := by decide +kernel
theorem dX13_hit_28 : decode cX13_hit 28 = .ok (.if_icmp .lt 7, 3) := by decide +kernel
theorem dX13_hit_31 : decode cX13_hit 31 = .ok (.iconst (-1), 1) := by decide +kernel
theorem dX13_hit_32 : decode cX13_hit 32 = .ok (.goto 22, 3) := by decide +kernel
theorem dX13_hit_5 : decode cX13_hit 5 = .ok (.iload_n 2, 1) := by decide +kernel
theorem dX13_hit_54 : decode cX13_hit 54 = .ok (.ireturn, 1) := by decide +kernel
theorem dX13_hit_6 : decode cX13_hit 6 = .ok (.ifCond .lt 8, 3) := by decide +kernel
theorem dX13_hit_9 : decode cX13_hit 9 = .ok (.iload_n 2, 1) := by decide +kernel
theorem dX13_init_0 : decode cX13_init 0 = .ok (.aload_n 0, 1) := by decide +kernel
theorem dX13_init_1 : decode cX13_init 1 = .ok (.invokespecial 9, 3) := by decide +kernel
theorem dX13_init_10 : decode cX13_init 10 = .ok (.bipush 8, 2) := by decide +kernel
theorem dX13_init_1000 : decode cX13_init 1000 = .ok (.sipush 9000, 3) := by decide +kernel
theorem dX13_init_1003 : decode cX13_init 1003 = .ok (.newarray .int, 2) := by decide +kernel
theorem dX13_init_1005 : decode cX13_init 1005 = .ok (.putfield 407, 3) := by decide +kernel
theorem dX13_init_1008 : decode cX13_init 1008 = .ok (.aload_n 0, 1) := by decide +kernel
theorem dX13_init_1009 : decode cX13_init 1009 = .ok (.ldc_w 410, 3) := by decide +kernel
theorem dX13_init_101 : decode cX13_init 101 = .ok (.newarray .int, 2) := by decide +kernel
theorem dX13_init_1012 : decode cX13_init 1012 = .ok (.newarray .int, 2) := by decide +kernel
theorem dX13_init_1014 : decode cX13_init 1014 = .ok (.putfield 411, 3) := by decide +kernel
theorem dX13_init_1017 : decode cX13_init 1017 = .ok (.aload_n 0, 1) := by decide +kernel
theorem dX13_init_1018 : decode cX13_init 1018 = .ok (.sipush 9000, 3) := by decide +kernel
theorem dX13_init_1021 : decode cX13_init 1021 = .ok (.newarray .int, 2) := by decide +kernel
theorem dX13_init_1023 : decode cX13_init 1023 = .ok (.putfield 414, 3) := by decide +kernel
theorem dX13_init_1026 : decode cX13_init 1026 = .ok (.aload_n 0, 1) := by decide +kernel
theorem dX13_init_1027 : decode cX13_init 1027 = .ok (.iconst 4, 1) := by decide +kernel
theorem dX13_init_1028 : decode cX13_init 1028 = .ok (.newarray .int, 2) := by decide +kernel
theorem dX13_init_103 : decode cX13_init 103 = .ok (.putfield 53, 3) := by decide +kernel
theorem dX13_init_1030 : decode cX13_init 1030 = .ok (.putfield 417, 3) := by decide +kernel
theorem dX13_init_1033 : decode cX13_init 1033 = .ok (.aload_n 0, 1) := by decide +kernel
theorem dX13_init_1034 : decode cX13_init 1034 = .ok (.iconst 4, 1) := by decide +kernel
theorem dX13_init_1035 : decode cX13_init 1035 = .ok (.newarray .int, 2) := by decide +kernel
theorem dX13_init_1037 : decode cX13_init 1037 = .ok (.putfield 420, 3) := by decide +kernel
theorem dX13_init_1040 : decode cX13_init 1040 = .ok (.aload_n 0, 1) := by decide +kernel
theorem dX13_init_1041 : decode cX13_init 1041 = .ok (.iconst 4, 1) := by decide +kernel
theorem dX13_init_1042 : decode cX13_init 1042 = .ok (.newarray .int, 2) := by decide +kernel
theorem dX13_init_1044 : decode cX13_init 1044 = .ok (.putfield 423, 3) := by decide +kernel
theorem dX13_init_1047 : decode cX13_init 1047 = .ok (.aload_n 0, 1) := by decide +kernel
theorem dX13_init_1048 : decode cX13_init 1048 = .ok (.bipush 6, 2) := by decide +kernel
theorem dX13_init_1050 : decode cX13_init 1050 = .ok (.newarray .int, 2) := by decide +kernel
theorem dX13_init_1052 : decode cX13_init 1052 = .ok (.putfield 426, 3) := by decide +kernel
theorem dX13_init_1055 : decode cX13_init 1055 = .ok (.aload_n 0, 1) := by decide +kernel
theorem dX13_init_1056 : decode cX13_init 1056 = .ok (.sipush 3000, 3) := by decide +kernel
theorem dX13_init_1059 : decode cX13_init 1059 = .ok (.newarray .long, 2) := by decide +kernel
theorem dX13_init_106 : decode cX13_init 106 = .ok (.aload_n 0, 1) := by decide +kernel
theorem dX13_init_1061 : decode cX13_init 1061 = .ok (.putfield 429, 3) := by decide +kernel
theorem dX13_init_1064 : decode cX13_init 1064 = .ok (.aload_n 0, 1) := by decide +kernel
theorem dX13_init_1065 : decode cX13_init 1065 = .ok (.sipush 3000, 3) := by decide +kernel
theorem dX13_init_1068 : decode cX13_init 1068 = .ok (.newarray .int, 2) := by decide +kernel
theorem dX13_init_107 : decode cX13_init 107 = .ok (.bipush 8, 2) := by decide +kernel
theorem dX13_init_1070 : decode cX13_init 1070 = .ok (.putfield 432, 3) := by decide +kernel
theorem dX13_init_1073 : decode cX13_init 1073 = .ok (.aload_n 0, 1) := by decide +kernel
theorem dX13_init_1074 : decode cX13_init 1074 = .ok (.ldc_w 435, 3) := by decide +kernel
theorem dX13_init_1077 : decode cX13_init 1077 = .ok (.newarray .int, 2) := by decide +kernel
theorem dX13_init_1079 : decode cX13_init 1079 = .ok (.putfield 436, 3) := by decide +kernel
theorem dX13_init_1082 : decode cX13_init 1082 = .ok (.aload_n 0, 1) := by decide +kernel
theorem dX13_init_1083 : decode cX13_init 1083 = .ok (.ldc_w 435, 3) := by decide +kernel
theorem dX13_init_1086 : decode cX13_init 1086 = .ok (.newarray .int, 2) := by decide +kernel
theorem dX13_init_1088 : decode cX13_init 1088 = .ok (.putfield 439, 3) := by decide +kernel
theorem dX13_init_109 : decode cX13_init 109 = .ok (.newarray .int, 2) := by decide +kernel
theorem dX13_init_1091 : decode cX13_init 1091 = .ok (.aload_n 0, 1) := by decide +kernel
theorem dX13_init_1092 : decode cX13_init 1092 = .ok (.ldc_w 435, 3) := by decide +kernel
theorem dX13_init_1095 : decode cX13_init 1095 = .ok (.newarray .int, 2) := by decide +kernel
theorem dX13_init_1097 : decode cX13_init 1097 = .ok (.putfield 442, 3) := by decide +kernel
theorem dX13_init_1100 : decode cX13_init 1100 = .ok (.aload_n 0, 1) := by decide +kernel
theorem dX13_init_1101 : decode cX13_init 1101 = .ok (.bipush 96, 2) := by decide +kernel
theorem dX13_init_1103 : decode cX13_init 1103 = .ok (.newarray .boolean, 2) := by decide +kernel
theorem dX13_init_1105 : decode cX13_init 1105 = .ok (.putfield 445, 3) := by decide +kernel
theorem dX13_init_1108 : decode cX13_init 1108 = .ok (.aload_n 0, 1) := by decide +kernel
theorem dX13_init_1109 : decode cX13_init 1109 = .ok (.iconst (-1), 1) := by decide +kernel
theorem dX13_init_111 : decode cX13_init 111 = .ok (.putfield 56, 3) := by decide +kernel
theorem dX13_init_1110 : decode cX13_init 1110 = .ok (.putfield 449, 3) := by decide +kernel
theorem dX13_init_1113 : decode cX13_init 1113 = .ok (.aload_n 0, 1) := by decide +kernel
theorem dX13_init_1114 : decode cX13_init 1114 = .ok (.bipush 16, 2) := by decide +kernel
theorem dX13_init_1116 : decode cX13_init 1116 = .ok (.newarray .int, 2) := by decide +kernel
theorem dX13_init_1118 : decode cX13_init 1118 = .ok (.putfield 452, 3) := by decide +kernel
theorem dX13_init_1121 : decode cX13_init 1121 = .ok (.aload_n 0, 1) := by decide +kernel
theorem dX13_init_1122 : decode cX13_init 1122 = .ok (.bipush 16, 2) := by decide +kernel
theorem dX13_init_1124 : decode cX13_init 1124 = .ok (.newarray .int, 2) := by decide +kernel
theorem dX13_init_1126 : decode cX13_init 1126 = .ok (.putfield 455, 3) := by decide +kernel
theorem dX13_init_1129 : decode cX13_init 1129 = .ok (.aload_n 0, 1) := by decide +kernel
theorem dX13_init_1130 : decode cX13_init 1130 = .ok (.bipush 16, 2) := by decide +kernel
theorem dX13_init_1132 : decode cX13_init 1132 = .ok (.newarray .int, 2) := by decide +kernel
theorem dX13_init_1134 : decode cX13_init 1134 = .ok (.putfield 458, 3) := by decide +kernel
theorem dX13_init_1137 : decode cX13_init 1137 = .ok (.aload_n 0, 1) := by decide +kernel
theorem dX13_init_1138 : decode cX13_init 1138 = .ok (.sipush 2000, 3) := by decide +kernel
theorem dX13_init_114 : decode cX13_init 114 = .ok (.aload_n 0, 1) := by decide +kernel
theorem dX13_init_1141 : decode cX13_init 1141 = .ok (.newarray .int, 2) := by decide +kernel
theorem dX13_init_1143 : decode cX13_init 1143 = .ok (.putfield 461, 3) := by decide +kernel
theorem dX13_init_1146 : decode cX13_init 1146 = .ok (.aload_n 0, 1) := by decide +kernel
theorem dX13_init_1147 : decode cX13_init 1147 = .ok (.sipush 480, 3) := by decide +kernel
theorem dX13_init_115 : decode cX13_init 115 = .ok (.bipush 8, 2) := by decide +kernel
theorem dX13_init_1150 : decode cX13_init 1150 = .ok (.newarray .int, 2) := by decide +kernel
theorem dX13_init_1152 : decode cX13_init 1152 = .ok (.putfield 464, 3) := by decide +kernel
theorem dX13_init_1155 : decode cX13_init 1155 = .ok (.aload_n 0, 1) := by decide +kernel
theorem dX13_init_1156 : decode cX13_init 1156 = .ok (.bipush 8, 2) := by decide +kernel
theorem dX13_init_1158 : decode cX13_init 1158 = .ok (.newarray .int, 2) := by decide +kernel
theorem dX13_init_1160 : decode cX13_init 1160 = .ok (.putfield 467, 3) := by decide +kernel
theorem dX13_init_1163 : decode cX13_init 1163 = .ok (.aload_n 0, 1) := by decide +kernel
theorem dX13_init_1164 : decode cX13_init 1164 = .ok (.ldc_w 470, 3) := by decide +kernel
theorem dX13_init_1167 : decode cX13_init 1167 = .ok (.newarray .byte, 2) := by decide +kernel
theorem dX13_init_1169 : decode cX13_init 1169 = .ok (.putfield 471, 3) := by decide +kernel
theorem dX13_init_117 : decode cX13_init 117 = .ok (.newarray .int, 2) := by decide +kernel
theorem dX13_init_1172 : decode cX13_init 1172 = .ok (.aload_n 0, 1) := by decide +kernel
theorem dX13_init_1173 : decode cX13_init 1173 = .ok (.sipush 1440, 3) := by decide +kernel
theorem dX13_init_1176 : decode cX13_init 1176 = .ok (.newarray .int, 2) := by decide +kernel
theorem dX13_init_1178 : decode cX13_init 1178 = .ok (.putfield 474, 3) := by decide +kernel
theorem dX13_init_1181 : decode cX13_init 1181 = .ok (.aload_n 0, 1) := by decide +kernel
theorem dX13_init_1182 : decode cX13_init 1182 = .ok (.sipush 1440, 3) := by decide +kernel
theorem dX13_init_1185 : decode cX13_init 1185 = .ok (.newarray .int, 2) := by decide +kernel
theorem dX13_init_1187 : decode cX13_init 1187 = .ok (.putfield 477, 3) := by decide +kernel
theorem dX13_init_119 : decode cX13_init 119 = .ok (.putfield 59, 3) := by decide +kernel
theorem dX13_init_1190 : decode cX13_init 1190 = .ok (.aload_n 0, 1) := by decide +kernel
theorem dX13_init_1191 : decode cX13_init 1191 = .ok (.sipush 1440, 3) := by decide +kernel
theorem dX13_init_1194 : decode cX13_init 1194 = .ok (.newarray .int, 2) := by decide +kernel
theorem dX13_init_1196 : decode cX13_init 1196 = .ok (.putfield 480, 3) := by decide +kernel
theorem dX13_init_1199 : decode cX13_init 1199 = .ok (.aload_n 0, 1) := by decide +kernel
theorem dX13_init_12 : decode cX13_init 12 = .ok (.newarray .long, 2) := by decide +kernel
theorem dX13_init_1200 : decode cX13_init 1200 = .ok (.sipush 1440, 3) := by decide +kernel
theorem dX13_init_1203 : decode cX13_init 1203 = .ok (.newarray .int, 2) := by decide +kernel
theorem dX13_init_1205 : decode cX13_init 1205 = .ok (.putfield 483, 3) := by decide +kernel
theorem dX13_init_1208 : decode cX13_init 1208 = .ok (.aload_n 0, 1) := by decide +kernel
theorem dX13_init_1209 : decode cX13_init 1209 = .ok (.bipush 60, 2) := by decide +kernel
theorem dX13_init_1211 : decode cX13_init 1211 = .ok (.newarray .int, 2) := by decide +kernel
theorem dX13_init_1213 : decode cX13_init 1213 = .ok (.putfield 486, 3) := by decide +kernel
theorem dX13_init_1216 : decode cX13_init 1216 = .ok (.aload_n 0, 1) := by decide +kernel
theorem dX13_init_1217 : decode cX13_init 1217 = .ok (.sipush 240, 3) := by decide +kernel
theorem dX13_init_122 : decode cX13_init 122 = .ok (.aload_n 0, 1) := by decide +kernel
theorem dX13_init_1220 : decode cX13_init 1220 = .ok (.newarray .int, 2) := by decide +kernel
theorem dX13_init_1222 : decode cX13_init 1222 = .ok (.putfield 489, 3) := by decide +kernel
theorem dX13_init_1225 : decode cX13_init 1225 = .ok (.aload_n 0, 1) := by decide +kernel
theorem dX13_init_1226 : decode cX13_init 1226 = .ok (.bipush 6, 2) := by decide +kernel
theorem dX13_init_1228 : decode cX13_init 1228 = .ok (.newarray .int, 2) := by decide +kernel
theorem dX13_init_123 : decode cX13_init 123 = .ok (.bipush 8, 2) := by decide +kernel
theorem dX13_init_1230 : decode cX13_init 1230 = .ok (.putfield 492, 3) := by decide +kernel
theorem dX13_init_1233 : decode cX13_init 1233 = .ok (.aload_n 0, 1) := by decide +kernel
theorem dX13_init_1234 : decode cX13_init 1234 = .ok (.sipush 3200, 3) := by decide +kernel
theorem dX13_init_1237 : decode cX13_init 1237 = .ok (.newarray .byte, 2) := by decide +kernel
theorem dX13_init_1239 : decode cX13_init 1239 = .ok (.putfield 495, 3) := by decide +kernel
theorem dX13_init_1242 : decode cX13_init 1242 = .ok (.aload_n 0, 1) := by decide +kernel
theorem dX13_init_1243 : decode cX13_init 1243 = .ok (.bipush 16, 2) := by decide +kernel
theorem dX13_init_1245 : decode cX13_init 1245 = .ok (.newarray .int, 2) := by decide +kernel
theorem dX13_init_1247 : decode cX13_init 1247 = .ok (.putfield 498, 3) := by decide +kernel
theorem dX13_init_125 : decode cX13_init 125 = .ok (.newarray .int, 2) := by decide +kernel
theorem dX13_init_1250 : decode cX13_init 1250 = .ok (.aload_n 0, 1) := by decide +kernel
theorem dX13_init_1251 : decode cX13_init 1251 = .ok (.ldc_w 501, 3) := by decide +kernel
theorem dX13_init_1254 : decode cX13_init 1254 = .ok (.newarray .byte, 2) := by decide +kernel
theorem dX13_init_1256 : decode cX13_init 1256 = .ok (.putfield 502, 3) := by decide +kernel
theorem dX13_init_1259 : decode cX13_init 1259 = .ok (.aload_n 0, 1) := by decide +kernel
theorem dX13_init_1260 : decode cX13_init 1260 = .ok (.bipush 100, 2) := by decide +kernel
theorem dX13_init_1262 : decode cX13_init 1262 = .ok (.newarray .int, 2) := by decide +kernel
theorem dX13_init_1264 : decode cX13_init 1264 = .ok (.putfield 505, 3) := by decide +kernel
theorem dX13_init_1267 : decode cX13_init 1267 = .ok (.aload_n 0, 1) := by decide +kernel
theorem dX13_init_1268 : decode cX13_init 1268 = .ok (.bipush 100, 2) := by decide +kernel
theorem dX13_init_127 : decode cX13_init 127 = .ok (.putfield 62, 3) := by decide +kernel
theorem dX13_init_1270 : decode cX13_init 1270 = .ok (.newarray .int, 2) := by decide +kernel
theorem dX13_init_1272 : decode cX13_init 1272 = .ok (.putfield 508, 3) := by decide +kernel
theorem dX13_init_1275 : decode cX13_init 1275 = .ok (.aload_n 0, 1) := by decide +kernel
theorem dX13_init_1276 : decode cX13_init 1276 = .ok (.sipush 2400, 3) := by decide +kernel
theorem dX13_init_1279 : decode cX13_init 1279 = .ok (.newarray .int, 2) := by decide +kernel
theorem dX13_init_1281 : decode cX13_init 1281 = .ok (.putfield 511, 3) := by decide +kernel
theorem dX13_init_1284 : decode cX13_init 1284 = .ok (.aload_n 0, 1) := by decide +kernel
theorem dX13_init_1285 : decode cX13_init 1285 = .ok (.bipush 8, 2) := by decide +kernel
theorem dX13_init_1287 : decode cX13_init 1287 = .ok (.newarray .int, 2) := by decide +kernel
theorem dX13_init_1289 : decode cX13_init 1289 = .ok (.putfield 514, 3) := by decide +kernel
theorem dX13_init_1292 : decode cX13_init 1292 = .ok (.aload_n 0, 1) := by decide +kernel
theorem dX13_init_1293 : decode cX13_init 1293 = .ok (.bipush 8, 2) := by decide +kernel
theorem dX13_init_1295 : decode cX13_init 1295 = .ok (.newarray .int, 2) := by decide +kernel
theorem dX13_init_1297 : decode cX13_init 1297 = .ok (.putfield 517, 3) := by decide +kernel
theorem dX13_init_130 : decode cX13_init 130 = .ok (.aload_n 0, 1) := by decide +kernel
theorem dX13_init_1300 : decode cX13_init 1300 = .ok (.aload_n 0, 1) := by decide +kernel
theorem dX13_init_1301 : decode cX13_init 1301 = .ok (.sipush 2400, 3) := by decide +kernel
theorem dX13_init_1304 : decode cX13_init 1304 = .ok (.newarray .int, 2) := by decide +kernel
theorem dX13_init_1306 : decode cX13_init 1306 = .ok (.putfield 520, 3) := by decide +kernel
theorem dX13_init_1309 : decode cX13_init 1309 = .ok (.aload_n 0, 1) := by decide +kernel
theorem dX13_init_131 : decode cX13_init 131 = .ok (.bipush 8, 2) := by decide +kernel
theorem dX13_init_1310 : decode cX13_init 1310 = .ok (.sipush 2400, 3) := by decide +kernel
theorem dX13_init_1313 : decode cX13_init 1313 = .ok (.newarray .int, 2) := by decide +kernel
theorem dX13_init_1315 : decode cX13_init 1315 = .ok (.putfield 523, 3) := by decide +kernel
theorem dX13_init_1318 : decode cX13_init 1318 = .ok (.aload_n 0, 1) := by decide +kernel
theorem dX13_init_1319 : decode cX13_init 1319 = .ok (.sipush 2000, 3) := by decide +kernel
theorem dX13_init_1322 : decode cX13_init 1322 = .ok (.newarray .int, 2) := by decide +kernel
theorem dX13_init_1324 : decode cX13_init 1324 = .ok (.putfield 526, 3) := by decide +kernel
theorem dX13_init_1327 : decode cX13_init 1327 = .ok (.aload_n 0, 1) := by decide +kernel
theorem dX13_init_1328 : decode cX13_init 1328 = .ok (.sipush 2000, 3) := by decide +kernel
theorem dX13_init_133 : decode cX13_init 133 = .ok (.newarray .int, 2) := by decide +kernel
theorem dX13_init_1331 : decode cX13_init 1331 = .ok (.newarray .int, 2) := by decide +kernel
theorem dX13_init_1333 : decode cX13_init 1333 = .ok (.putfield 529, 3) := by decide +kernel
theorem dX13_init_1336 : decode cX13_init 1336 = .ok (.aload_n 0, 1) := by decide +kernel
theorem dX13_init_1337 : decode cX13_init 1337 = .ok (.sipush 2000, 3) := by decide +kernel
theorem dX13_init_1340 : decode cX13_init 1340 = .ok (.newarray .int, 2) := by decide +kernel
theorem dX13_init_1342 : decode cX13_init 1342 = .ok (.putfield 532, 3) := by decide +kernel
theorem dX13_init_1345 : decode cX13_init 1345 = .ok (.aload_n 0, 1) := by decide +kernel
theorem dX13_init_1346 : decode cX13_init 1346 = .ok (.sipush 2000, 3) := by decide +kernel
theorem dX13_init_1349 : decode cX13_init 1349 = .ok (.newarray .long, 2) := by decide +kernel
theorem dX13_init_135 : decode cX13_init 135 = .ok (.putfield 65, 3) := by decide +kernel
theorem dX13_init_1351 : decode cX13_init 1351 = .ok (.putfield 535, 3) := by decide +kernel
theorem dX13_init_1354 : decode cX13_init 1354 = .ok (.aload_n 0, 1) := by decide +kernel
theorem dX13_init_1355 : decode cX13_init 1355 = .ok (.sipush 400, 3) := by decide +kernel
theorem dX13_init_1358 : decode cX13_init 1358 = .ok (.newarray .int, 2) := by decide +kernel
theorem dX13_init_1360 : decode cX13_init 1360 = .ok (.putfield 538, 3) := by decide +kernel
theorem dX13_init_1363 : decode cX13_init 1363 = .ok (.aload_n 0, 1) := by decide +kernel
theorem dX13_init_1364 : decode cX13_init 1364 = .ok (.ldc_w 541, 3) := by decide +kernel
theorem dX13_init_1367 : decode cX13_init 1367 = .ok (.invokestatic 199, 3) := by decide +kernel
theorem dX13_init_1370 : decode cX13_init 1370 = .ok (.putfield 543, 3) := by decide +kernel
theorem dX13_init_1373 : decode cX13_init 1373 = .ok (.aload_n 0, 1) := by decide +kernel
theorem dX13_init_1374 : decode cX13_init 1374 = .ok (.ldc_w 546, 3) := by decide +kernel
theorem dX13_init_1377 : decode cX13_init 1377 = .ok (.invokestatic 199, 3) := by decide +kernel
theorem dX13_init_138 : decode cX13_init 138 = .ok (.aload_n 0, 1) := by decide +kernel
theorem dX13_init_1380 : decode cX13_init 1380 = .ok (.putfield 548, 3) := by decide +kernel
theorem dX13_init_1383 : decode cX13_init 1383 = .ok (.aload_n 0, 1) := by decide +kernel
theorem dX13_init_1384 : decode cX13_init 1384 = .ok (.ldc_w 551, 3) := by decide +kernel
theorem dX13_init_1387 : decode cX13_init 1387 = .ok (.invokestatic 199, 3) := by decide +kernel
theorem dX13_init_139 : decode cX13_init 139 = .ok (.bipush 8, 2) := by decide +kernel
theorem dX13_init_1390 : decode cX13_init 1390 = .ok (.putfield 553, 3) := by decide +kernel
theorem dX13_init_1393 : decode cX13_init 1393 = .ok (.aload_n 0, 1) := by decide +kernel
theorem dX13_init_1394 : decode cX13_init 1394 = .ok (.ldc_w 556, 3) := by decide +kernel
theorem dX13_init_1397 : decode cX13_init 1397 = .ok (.invokestatic 199, 3) := by decide +kernel
theorem dX13_init_14 : decode cX13_init 14 = .ok (.putfield 18, 3) := by decide +kernel
theorem dX13_init_1400 : decode cX13_init 1400 = .ok (.putfield 558, 3) := by decide +kernel
theorem dX13_init_1403 : decode cX13_init 1403 = .ok (.aload_n 0, 1) := by decide +kernel
theorem dX13_init_1404 : decode cX13_init 1404 = .ok (.ldc_w 561, 3) := by decide +kernel
theorem dX13_init_1407 : decode cX13_init 1407 = .ok (.invokestatic 199, 3) := by decide +kernel
theorem dX13_init_141 : decode cX13_init 141 = .ok (.newarray .int, 2) := by decide +kernel
theorem dX13_init_1410 : decode cX13_init 1410 = .ok (.putfield 563, 3) := by decide +kernel
theorem dX13_init_1413 : decode cX13_init 1413 = .ok (.aload_n 0, 1) := by decide +kernel
theorem dX13_init_1414 : decode cX13_init 1414 = .ok (.ldc_w 566, 3) := by decide +kernel
theorem dX13_init_1417 : decode cX13_init 1417 = .ok (.invokestatic 199, 3) := by decide +kernel
theorem dX13_init_1420 : decode cX13_init 1420 = .ok (.putfield 568, 3) := by decide +kernel
theorem dX13_init_1423 : decode cX13_init 1423 = .ok (.aload_n 0, 1) := by decide +kernel
theorem dX13_init_1424 : decode cX13_init 1424 = .ok (.ldc_w 571, 3) := by decide +kernel
theorem dX13_init_1427 : decode cX13_init 1427 = .ok (.invokestatic 199, 3) := by decide +kernel
theorem dX13_init_143 : decode cX13_init 143 = .ok (.putfield 68, 3) := by decide +kernel
theorem dX13_init_1430 : decode cX13_init 1430 = .ok (.putfield 573, 3) := by decide +kernel
theorem dX13_init_1433 : decode cX13_init 1433 = .ok (.iconst 0, 1) := by decide +kernel
theorem dX13_init_1434 : decode cX13_init 1434 = .ok (.istore_n 1, 1) := by decide +kernel
theorem dX13_init_1435 : decode cX13_init 1435 = .ok (.iload_n 1, 1) := by decide +kernel
theorem dX13_init_1436 : decode cX13_init 1436 = .ok (.bipush 96, 2) := by decide +kernel
theorem dX13_init_1438 : decode cX13_init 1438 = .ok (.if_icmp .ge 16, 3) := by decide +kernel
theorem dX13_init_1441 : decode cX13_init 1441 = .ok (.aload_n 0, 1) := by decide +kernel
theorem dX13_init_1442 : decode cX13_init 1442 = .ok (.getfield 47, 3) := by decide +kernel
theorem dX13_init_1445 : decode cX13_init 1445 = .ok (.iload_n 1, 1) := by decide +kernel
theorem dX13_init_1446 : decode cX13_init 1446 = .ok (.iconst (-1), 1) := by decide +kernel
theorem dX13_init_1447 : decode cX13_init 1447 = .ok (.iastore, 1) := by decide +kernel
theorem dX13_init_1448 : decode cX13_init 1448 = .ok (.iinc 1 1, 3) := by decide +kernel
theorem dX13_init_1451 : decode cX13_init 1451 = .ok (.goto (-16), 3) := by decide +kernel
theorem dX13_init_1454 : decode cX13_init 1454 = .ok (.return_, 1) := by decide +kernel
theorem dX13_init_146 : decode cX13_init 146 = .ok (.aload_n 0, 1) := by decide +kernel
theorem dX13_init_147 : decode cX13_init 147 = .ok (.bipush 8, 2) := by decide +kernel
theorem dX13_init_149 : decode cX13_init 149 = .ok (.newarray .int, 2) := by decide +kernel
theorem dX13_init_151 : decode cX13_init 151 = .ok (.putfield 71, 3) := by decide +kernel
theorem dX13_init_154 : decode cX13_init 154 = .ok (.aload_n 0, 1) := by decide +kernel
theorem dX13_init_155 : decode cX13_init 155 = .ok (.bipush 8, 2) := by decide +kernel
theorem dX13_init_157 : decode cX13_init 157 = .ok (.newarray .int, 2) := by decide +kernel
theorem dX13_init_159 : decode cX13_init 159 = .ok (.putfield 74, 3) := by decide +kernel
theorem dX13_init_162 : decode cX13_init 162 = .ok (.aload_n 0, 1) := by decide +kernel
theorem dX13_init_163 : decode cX13_init 163 = .ok (.bipush 64, 2) := by decide +kernel
theorem dX13_init_165 : decode cX13_init 165 = .ok (.newarray .long, 2) := by decide +kernel
theorem dX13_init_167 : decode cX13_init 167 = .ok (.putfield 77, 3) := by decide +kernel
theorem dX13_init_17 : decode cX13_init 17 = .ok (.aload_n 0, 1) := by decide +kernel
theorem dX13_init_170 : decode cX13_init 170 = .ok (.aload_n 0, 1) := by decide +kernel
theorem dX13_init_171 : decode cX13_init 171 = .ok (.sipush 384, 3) := by decide +kernel
theorem dX13_init_174 : decode cX13_init 174 = .ok (.newarray .long, 2) := by decide +kernel
theorem dX13_init_176 : decode cX13_init 176 = .ok (.putfield 80, 3) := by decide +kernel
theorem dX13_init_179 : decode cX13_init 179 = .ok (.aload_n 0, 1) := by decide +kernel
theorem dX13_init_18 : decode cX13_init 18 = .ok (.bipush 32, 2) := by decide +kernel
theorem dX13_init_180 : decode cX13_init 180 = .ok (.sipush 128, 3) := by decide +kernel
theorem dX13_init_183 : decode cX13_init 183 = .ok (.newarray .long, 2) := by decide +kernel
theorem dX13_init_185 : decode cX13_init 185 = .ok (.putfield 83, 3) := by decide +kernel
theorem dX13_init_188 : decode cX13_init 188 = .ok (.aload_n 0, 1) := by decide +kernel
theorem dX13_init_189 : decode cX13_init 189 = .ok (.sipush 192, 3) := by decide +kernel
theorem dX13_init_192 : decode cX13_init 192 = .ok (.newarray .long, 2) := by decide +kernel
theorem dX13_init_194 : decode cX13_init 194 = .ok (.putfield 86, 3) := by decide +kernel
theorem dX13_init_197 : decode cX13_init 197 = .ok (.aload_n 0, 1) := by decide +kernel
theorem dX13_init_198 : decode cX13_init 198 = .ok (.sipush 384, 3) := by decide +kernel
theorem dX13_init_20 : decode cX13_init 20 = .ok (.newarray .long, 2) := by decide +kernel
theorem dX13_init_201 : decode cX13_init 201 = .ok (.newarray .int, 2) := by decide +kernel
theorem dX13_init_203 : decode cX13_init 203 = .ok (.putfield 89, 3) := by decide +kernel
theorem dX13_init_206 : decode cX13_init 206 = .ok (.aload_n 0, 1) := by decide +kernel
theorem dX13_init_207 : decode cX13_init 207 = .ok (.sipush 384, 3) := by decide +kernel
theorem dX13_init_210 : decode cX13_init 210 = .ok (.newarray .int, 2) := by decide +kernel
theorem dX13_init_212 : decode cX13_init 212 = .ok (.putfield 92, 3) := by decide +kernel
theorem dX13_init_215 : decode cX13_init 215 = .ok (.aload_n 0, 1) := by decide +kernel
theorem dX13_init_216 : decode cX13_init 216 = .ok (.sipush 128, 3) := by decide +kernel
theorem dX13_init_219 : decode cX13_init 219 = .ok (.newarray .int, 2) := by decide +kernel
theorem dX13_init_22 : decode cX13_init 22 = .ok (.putfield 22, 3) := by decide +kernel
theorem dX13_init_221 : decode cX13_init 221 = .ok (.putfield 95, 3) := by decide +kernel
theorem dX13_init_224 : decode cX13_init 224 = .ok (.aload_n 0, 1) := by decide +kernel
theorem dX13_init_225 : decode cX13_init 225 = .ok (.sipush 192, 3) := by decide +kernel
theorem dX13_init_228 : decode cX13_init 228 = .ok (.newarray .int, 2) := by decide +kernel
theorem dX13_init_230 : decode cX13_init 230 = .ok (.putfield 98, 3) := by decide +kernel
theorem dX13_init_233 : decode cX13_init 233 = .ok (.aload_n 0, 1) := by decide +kernel
theorem dX13_init_234 : decode cX13_init 234 = .ok (.sipush 192, 3) := by decide +kernel
theorem dX13_init_237 : decode cX13_init 237 = .ok (.newarray .int, 2) := by decide +kernel
theorem dX13_init_239 : decode cX13_init 239 = .ok (.putfield 101, 3) := by decide +kernel
theorem dX13_init_242 : decode cX13_init 242 = .ok (.aload_n 0, 1) := by decide +kernel
theorem dX13_init_243 : decode cX13_init 243 = .ok (.sipush 576, 3) := by decide +kernel
theorem dX13_init_246 : decode cX13_init 246 = .ok (.newarray .int, 2) := by decide +kernel
theorem dX13_init_248 : decode cX13_init 248 = .ok (.putfield 104, 3) := by decide +kernel
theorem dX13_init_25 : decode cX13_init 25 = .ok (.aload_n 0, 1) := by decide +kernel
theorem dX13_init_251 : decode cX13_init 251 = .ok (.aload_n 0, 1) := by decide +kernel
theorem dX13_init_252 : decode cX13_init 252 = .ok (.sipush 576, 3) := by decide +kernel
theorem dX13_init_255 : decode cX13_init 255 = .ok (.newarray .int, 2) := by decide +kernel
theorem dX13_init_257 : decode cX13_init 257 = .ok (.putfield 107, 3) := by decide +kernel
theorem dX13_init_26 : decode cX13_init 26 = .ok (.bipush 96, 2) := by decide +kernel
theorem dX13_init_260 : decode cX13_init 260 = .ok (.aload_n 0, 1) := by decide +kernel
theorem dX13_init_261 : decode cX13_init 261 = .ok (.sipush 192, 3) := by decide +kernel
theorem dX13_init_264 : decode cX13_init 264 = .ok (.newarray .int, 2) := by decide +kernel
theorem dX13_init_266 : decode cX13_init 266 = .ok (.putfield 110, 3) := by decide +kernel
theorem dX13_init_269 : decode cX13_init 269 = .ok (.aload_n 0, 1) := by decide +kernel
theorem dX13_init_270 : decode cX13_init 270 = .ok (.sipush 4608, 3) := by decide +kernel
theorem dX13_init_273 : decode cX13_init 273 = .ok (.newarray .int, 2) := by decide +kernel
theorem dX13_init_275 : decode cX13_init 275 = .ok (.putfield 113, 3) := by decide +kernel
theorem dX13_init_278 : decode cX13_init 278 = .ok (.aload_n 0, 1) := by decide +kernel
theorem dX13_init_279 : decode cX13_init 279 = .ok (.sipush 4608, 3) := by decide +kernel
theorem dX13_init_28 : decode cX13_init 28 = .ok (.newarray .long, 2) := by decide +kernel
theorem dX13_init_282 : decode cX13_init 282 = .ok (.newarray .int, 2) := by decide +kernel
theorem dX13_init_284 : decode cX13_init 284 = .ok (.putfield 116, 3) := by decide +kernel
theorem dX13_init_287 : decode cX13_init 287 = .ok (.aload_n 0, 1) := by decide +kernel
theorem dX13_init_288 : decode cX13_init 288 = .ok (.sipush 4608, 3) := by decide +kernel
theorem dX13_init_291 : decode cX13_init 291 = .ok (.newarray .int, 2) := by decide +kernel
theorem dX13_init_293 : decode cX13_init 293 = .ok (.putfield 119, 3) := by decide +kernel
theorem dX13_init_296 : decode cX13_init 296 = .ok (.aload_n 0, 1) := by decide +kernel
theorem dX13_init_297 : decode cX13_init 297 = .ok (.ldc 122, 2) := by decide +kernel
theorem dX13_init_299 : decode cX13_init 299 = .ok (.newarray .int, 2) := by decide +kernel
theorem dX13_init_30 : decode cX13_init 30 = .ok (.putfield 25, 3) := by decide +kernel
theorem dX13_init_301 : decode cX13_init 301 = .ok (.putfield 123, 3) := by decide +kernel
theorem dX13_init_304 : decode cX13_init 304 = .ok (.aload_n 0, 1) := by decide +kernel
theorem dX13_init_305 : decode cX13_init 305 = .ok (.sipush 512, 3) := by decide +kernel
theorem dX13_init_308 : decode cX13_init 308 = .ok (.newarray .int, 2) := by decide +kernel
theorem dX13_init_310 : decode cX13_init 310 = .ok (.putfield 126, 3) := by decide +kernel
theorem dX13_init_313 : decode cX13_init 313 = .ok (.aload_n 0, 1) := by decide +kernel
theorem dX13_init_314 : decode cX13_init 314 = .ok (.sipush 512, 3) := by decide +kernel
theorem dX13_init_317 : decode cX13_init 317 = .ok (.newarray .int, 2) := by decide +kernel
theorem dX13_init_319 : decode cX13_init 319 = .ok (.putfield 129, 3) := by decide +kernel
theorem dX13_init_322 : decode cX13_init 322 = .ok (.aload_n 0, 1) := by decide +kernel
theorem dX13_init_323 : decode cX13_init 323 = .ok (.sipush 1536, 3) := by decide +kernel
theorem dX13_init_326 : decode cX13_init 326 = .ok (.newarray .int, 2) := by decide +kernel
theorem dX13_init_328 : decode cX13_init 328 = .ok (.putfield 132, 3) := by decide +kernel
theorem dX13_init_33 : decode cX13_init 33 = .ok (.aload_n 0, 1) := by decide +kernel
theorem dX13_init_331 : decode cX13_init 331 = .ok (.aload_n 0, 1) := by decide +kernel
theorem dX13_init_332 : decode cX13_init 332 = .ok (.sipush 512, 3) := by decide +kernel
theorem dX13_init_335 : decode cX13_init 335 = .ok (.newarray .int, 2) := by decide +kernel
theorem dX13_init_337 : decode cX13_init 337 = .ok (.putfield 135, 3) := by decide +kernel
theorem dX13_init_34 : decode cX13_init 34 = .ok (.bipush 8, 2) := by decide +kernel
theorem dX13_init_340 : decode cX13_init 340 = .ok (.aload_n 0, 1) := by decide +kernel
theorem dX13_init_341 : decode cX13_init 341 = .ok (.sipush 512, 3) := by decide +kernel
theorem dX13_init_344 : decode cX13_init 344 = .ok (.newarray .int, 2) := by decide +kernel
theorem dX13_init_346 : decode cX13_init 346 = .ok (.putfield 138, 3) := by decide +kernel
theorem dX13_init_349 : decode cX13_init 349 = .ok (.aload_n 0, 1) := by decide +kernel
theorem dX13_init_350 : decode cX13_init 350 = .ok (.sipush 3072, 3) := by decide +kernel
theorem dX13_init_353 : decode cX13_init 353 = .ok (.newarray .int, 2) := by decide +kernel
theorem dX13_init_355 : decode cX13_init 355 = .ok (.putfield 141, 3) := by decide +kernel
theorem dX13_init_358 : decode cX13_init 358 = .ok (.aload_n 0, 1) := by decide +kernel
theorem dX13_init_359 : decode cX13_init 359 = .ok (.sipush 3072, 3) := by decide +kernel
theorem dX13_init_36 : decode cX13_init 36 = .ok (.newarray .long, 2) := by decide +kernel
theorem dX13_init_362 : decode cX13_init 362 = .ok (.newarray .int, 2) := by decide +kernel
theorem dX13_init_364 : decode cX13_init 364 = .ok (.putfield 144, 3) := by decide +kernel
theorem dX13_init_367 : decode cX13_init 367 = .ok (.aload_n 0, 1) := by decide +kernel
theorem dX13_init_368 : decode cX13_init 368 = .ok (.sipush 18432, 3) := by decide +kernel
theorem dX13_init_371 : decode cX13_init 371 = .ok (.newarray .int, 2) := by decide +kernel
theorem dX13_init_373 : decode cX13_init 373 = .ok (.putfield 147, 3) := by decide +kernel
theorem dX13_init_376 : decode cX13_init 376 = .ok (.aload_n 0, 1) := by decide +kernel
theorem dX13_init_377 : decode cX13_init 377 = .ok (.sipush 18432, 3) := by decide +kernel
theorem dX13_init_38 : decode cX13_init 38 = .ok (.putfield 28, 3) := by decide +kernel
theorem dX13_init_380 : decode cX13_init 380 = .ok (.newarray .int, 2) := by decide +kernel
theorem dX13_init_382 : decode cX13_init 382 = .ok (.putfield 150, 3) := by decide +kernel
theorem dX13_init_385 : decode cX13_init 385 = .ok (.aload_n 0, 1) := by decide +kernel
theorem dX13_init_386 : decode cX13_init 386 = .ok (.sipush 3072, 3) := by decide +kernel
theorem dX13_init_389 : decode cX13_init 389 = .ok (.newarray .int, 2) := by decide +kernel
theorem dX13_init_391 : decode cX13_init 391 = .ok (.putfield 153, 3) := by decide +kernel
theorem dX13_init_394 : decode cX13_init 394 = .ok (.aload_n 0, 1) := by decide +kernel
theorem dX13_init_395 : decode cX13_init 395 = .ok (.sipush 18432, 3) := by decide +kernel
theorem dX13_init_398 : decode cX13_init 398 = .ok (.newarray .int, 2) := by decide +kernel
theorem dX13_init_4 : decode cX13_init 4 = .ok (.aload_n 0, 1) := by decide +kernel
theorem dX13_init_400 : decode cX13_init 400 = .ok (.putfield 156, 3) := by decide +kernel
theorem dX13_init_403 : decode cX13_init 403 = .ok (.aload_n 0, 1) := by decide +kernel
theorem dX13_init_404 : decode cX13_init 404 = .ok (.sipush 18432, 3) := by decide +kernel
theorem dX13_init_407 : decode cX13_init 407 = .ok (.newarray .int, 2) := by decide +kernel
theorem dX13_init_409 : decode cX13_init 409 = .ok (.putfield 159, 3) := by decide +kernel
theorem dX13_init_41 : decode cX13_init 41 = .ok (.aload_n 0, 1) := by decide +kernel
theorem dX13_init_412 : decode cX13_init 412 = .ok (.aload_n 0, 1) := by decide +kernel
theorem dX13_init_413 : decode cX13_init 413 = .ok (.sipush 18432, 3) := by decide +kernel
theorem dX13_init_416 : decode cX13_init 416 = .ok (.newarray .int, 2) := by decide +kernel
theorem dX13_init_418 : decode cX13_init 418 = .ok (.putfield 162, 3) := by decide +kernel
theorem dX13_init_42 : decode cX13_init 42 = .ok (.bipush 64, 2) := by decide +kernel
theorem dX13_init_421 : decode cX13_init 421 = .ok (.aload_n 0, 1) := by decide +kernel
theorem dX13_init_422 : decode cX13_init 422 = .ok (.sipush 18432, 3) := by decide +kernel
theorem dX13_init_425 : decode cX13_init 425 = .ok (.newarray .int, 2) := by decide +kernel
theorem dX13_init_427 : decode cX13_init 427 = .ok (.putfield 165, 3) := by decide +kernel
theorem dX13_init_430 : decode cX13_init 430 = .ok (.aload_n 0, 1) := by decide +kernel
theorem dX13_init_431 : decode cX13_init 431 = .ok (.sipush 3072, 3) := by decide +kernel
theorem dX13_init_434 : decode cX13_init 434 = .ok (.newarray .int, 2) := by decide +kernel
theorem dX13_init_436 : decode cX13_init 436 = .ok (.putfield 168, 3) := by decide +kernel
theorem dX13_init_439 : decode cX13_init 439 = .ok (.aload_n 0, 1) := by decide +kernel
theorem dX13_init_44 : decode cX13_init 44 = .ok (.newarray .long, 2) := by decide +kernel
theorem dX13_init_440 : decode cX13_init 440 = .ok (.ldc 171, 2) := by decide +kernel
theorem dX13_init_442 : decode cX13_init 442 = .ok (.newarray .byte, 2) := by decide +kernel
theorem dX13_init_444 : decode cX13_init 444 = .ok (.putfield 172, 3) := by decide +kernel
theorem dX13_init_447 : decode cX13_init 447 = .ok (.aload_n 0, 1) := by decide +kernel
theorem dX13_init_448 : decode cX13_init 448 = .ok (.sipush 5000, 3) := by decide +kernel
theorem dX13_init_451 : decode cX13_init 451 = .ok (.newarray .int, 2) := by decide +kernel
theorem dX13_init_453 : decode cX13_init 453 = .ok (.putfield 176, 3) := by decide +kernel
theorem dX13_init_456 : decode cX13_init 456 = .ok (.aload_n 0, 1) := by decide +kernel
theorem dX13_init_457 : decode cX13_init 457 = .ok (.sipush 5000, 3) := by decide +kernel
theorem dX13_init_46 : decode cX13_init 46 = .ok (.putfield 31, 3) := by decide +kernel
theorem dX13_init_460 : decode cX13_init 460 = .ok (.newarray .int, 2) := by decide +kernel
theorem dX13_init_462 : decode cX13_init 462 = .ok (.putfield 179, 3) := by decide +kernel
theorem dX13_init_465 : decode cX13_init 465 = .ok (.aload_n 0, 1) := by decide +kernel
theorem dX13_init_466 : decode cX13_init 466 = .ok (.sipush 5000, 3) := by decide +kernel
theorem dX13_init_469 : decode cX13_init 469 = .ok (.newarray .int, 2) := by decide +kernel
theorem dX13_init_471 : decode cX13_init 471 = .ok (.putfield 182, 3) := by decide +kernel
theorem dX13_init_474 : decode cX13_init 474 = .ok (.aload_n 0, 1) := by decide +kernel
theorem dX13_init_475 : decode cX13_init 475 = .ok (.sipush 5000, 3) := by decide +kernel
theorem dX13_init_478 : decode cX13_init 478 = .ok (.newarray .long, 2) := by decide +kernel
theorem dX13_init_480 : decode cX13_init 480 = .ok (.putfield 185, 3) := by decide +kernel
theorem dX13_init_483 : decode cX13_init 483 = .ok (.aload_n 0, 1) := by decide +kernel
theorem dX13_init_484 : decode cX13_init 484 = .ok (.sipush 1000, 3) := by decide +kernel
theorem dX13_init_487 : decode cX13_init 487 = .ok (.newarray .byte, 2) := by decide +kernel
theorem dX13_init_489 : decode cX13_init 489 = .ok (.putfield 188, 3) := by decide +kernel
theorem dX13_init_49 : decode cX13_init 49 = .ok (.aload_n 0, 1) := by decide +kernel
theorem dX13_init_492 : decode cX13_init 492 = .ok (.aload_n 0, 1) := by decide +kernel
theorem dX13_init_493 : decode cX13_init 493 = .ok (.sipush 1000, 3) := by decide +kernel
theorem dX13_init_496 : decode cX13_init 496 = .ok (.newarray .byte, 2) := by decide +kernel
theorem dX13_init_498 : decode cX13_init 498 = .ok (.putfield 191, 3) := by decide +kernel
theorem dX13_init_5 : decode cX13_init 5 = .ok (.iconst (-1), 1) := by decide +kernel
theorem dX13_init_50 : decode cX13_init 50 = .ok (.bipush 96, 2) := by decide +kernel
theorem dX13_init_501 : decode cX13_init 501 = .ok (.aload_n 0, 1) := by decide +kernel
theorem dX13_init_502 : decode cX13_init 502 = .ok (.sipush 1000, 3) := by decide +kernel
theorem dX13_init_505 : decode cX13_init 505 = .ok (.newarray .byte, 2) := by decide +kernel
theorem dX13_init_507 : decode cX13_init 507 = .ok (.putfield 194, 3) := by decide +kernel
theorem dX13_init_510 : decode cX13_init 510 = .ok (.aload_n 0, 1) := by decide +kernel
theorem dX13_init_511 : decode cX13_init 511 = .ok (.ldc 197, 2) := by decide +kernel
theorem dX13_init_513 : decode cX13_init 513 = .ok (.invokestatic 199, 3) := by decide +kernel
theorem dX13_init_516 : decode cX13_init 516 = .ok (.putfield 203, 3) := by decide +kernel
theorem dX13_init_519 : decode cX13_init 519 = .ok (.aload_n 0, 1) := by decide +kernel
theorem dX13_init_52 : decode cX13_init 52 = .ok (.newarray .int, 2) := by decide +kernel
theorem dX13_init_520 : decode cX13_init 520 = .ok (.ldc 207, 2) := by decide +kernel
theorem dX13_init_522 : decode cX13_init 522 = .ok (.invokestatic 199, 3) := by decide +kernel
theorem dX13_init_525 : decode cX13_init 525 = .ok (.putfield 209, 3) := by decide +kernel
theorem dX13_init_528 : decode cX13_init 528 = .ok (.aload_n 0, 1) := by decide +kernel
theorem dX13_init_529 : decode cX13_init 529 = .ok (.ldc 212, 2) := by decide +kernel
theorem dX13_init_531 : decode cX13_init 531 = .ok (.invokestatic 199, 3) := by decide +kernel
theorem dX13_init_534 : decode cX13_init 534 = .ok (.putfield 214, 3) := by decide +kernel
theorem dX13_init_537 : decode cX13_init 537 = .ok (.aload_n 0, 1) := by decide +kernel
theorem dX13_init_538 : decode cX13_init 538 = .ok (.ldc 217, 2) := by decide +kernel
theorem dX13_init_54 : decode cX13_init 54 = .ok (.putfield 34, 3) := by decide +kernel
theorem dX13_init_540 : decode cX13_init 540 = .ok (.invokestatic 199, 3) := by decide +kernel
theorem dX13_init_543 : decode cX13_init 543 = .ok (.putfield 219, 3) := by decide +kernel
theorem dX13_init_546 : decode cX13_init 546 = .ok (.aload_n 0, 1) := by decide +kernel
theorem dX13_init_547 : decode cX13_init 547 = .ok (.ldc 222, 2) := by decide +kernel
theorem dX13_init_549 : decode cX13_init 549 = .ok (.invokestatic 199, 3) := by decide +kernel
theorem dX13_init_552 : decode cX13_init 552 = .ok (.putfield 224, 3) := by decide +kernel
theorem dX13_init_555 : decode cX13_init 555 = .ok (.aload_n 0, 1) := by decide +kernel
theorem dX13_init_556 : decode cX13_init 556 = .ok (.ldc 227, 2) := by decide +kernel
theorem dX13_init_558 : decode cX13_init 558 = .ok (.invokestatic 199, 3) := by decide +kernel
theorem dX13_init_561 : decode cX13_init 561 = .ok (.putfield 229, 3) := by decide +kernel
theorem dX13_init_564 : decode cX13_init 564 = .ok (.aload_n 0, 1) := by decide +kernel
theorem dX13_init_565 : decode cX13_init 565 = .ok (.ldc 232, 2) := by decide +kernel
theorem dX13_init_567 : decode cX13_init 567 = .ok (.invokestatic 199, 3) := by decide +kernel
theorem dX13_init_57 : decode cX13_init 57 = .ok (.aload_n 0, 1) := by decide +kernel
theorem dX13_init_570 : decode cX13_init 570 = .ok (.putfield 234, 3) := by decide +kernel
theorem dX13_init_573 : decode cX13_init 573 = .ok (.aload_n 0, 1) := by decide +kernel
theorem dX13_init_574 : decode cX13_init 574 = .ok (.ldc 237, 2) := by decide +kernel
theorem dX13_init_576 : decode cX13_init 576 = .ok (.invokestatic 199, 3) := by decide +kernel
theorem dX13_init_579 : decode cX13_init 579 = .ok (.putfield 238, 3) := by decide +kernel
theorem dX13_init_58 : decode cX13_init 58 = .ok (.sipush 384, 3) := by decide +kernel
theorem dX13_init_582 : decode cX13_init 582 = .ok (.aload_n 0, 1) := by decide +kernel
theorem dX13_init_583 : decode cX13_init 583 = .ok (.ldc 241, 2) := by decide +kernel
theorem dX13_init_585 : decode cX13_init 585 = .ok (.invokestatic 199, 3) := by decide +kernel
theorem dX13_init_588 : decode cX13_init 588 = .ok (.putfield 243, 3) := by decide +kernel
theorem dX13_init_591 : decode cX13_init 591 = .ok (.aload_n 0, 1) := by decide +kernel
theorem dX13_init_592 : decode cX13_init 592 = .ok (.ldc 246, 2) := by decide +kernel
theorem dX13_init_594 : decode cX13_init 594 = .ok (.invokestatic 199, 3) := by decide +kernel
theorem dX13_init_597 : decode cX13_init 597 = .ok (.putfield 248, 3) := by decide +kernel
theorem dX13_init_6 : decode cX13_init 6 = .ok (.putfield 15, 3) := by decide +kernel
theorem dX13_init_600 : decode cX13_init 600 = .ok (.aload_n 0, 1) := by decide +kernel
theorem dX13_init_601 : decode cX13_init 601 = .ok (.ldc 251, 2) := by decide +kernel
theorem dX13_init_603 : decode cX13_init 603 = .ok (.invokestatic 199, 3) := by decide +kernel
theorem dX13_init_606 : decode cX13_init 606 = .ok (.putfield 253, 3) := by decide +kernel
theorem dX13_init_609 : decode cX13_init 609 = .ok (.aload_n 0, 1) := by decide +kernel
theorem dX13_init_61 : decode cX13_init 61 = .ok (.newarray .int, 2) := by decide +kernel
theorem dX13_init_610 : decode cX13_init 610 = .ok (.ldc_w 256, 3) := by decide +kernel
theorem dX13_init_613 : decode cX13_init 613 = .ok (.invokestatic 199, 3) := by decide +kernel
theorem dX13_init_616 : decode cX13_init 616 = .ok (.putfield 258, 3) := by decide +kernel
theorem dX13_init_619 : decode cX13_init 619 = .ok (.aload_n 0, 1) := by decide +kernel
theorem dX13_init_620 : decode cX13_init 620 = .ok (.ldc_w 261, 3) := by decide +kernel
theorem dX13_init_623 : decode cX13_init 623 = .ok (.invokestatic 199, 3) := by decide +kernel
theorem dX13_init_626 : decode cX13_init 626 = .ok (.putfield 263, 3) := by decide +kernel
theorem dX13_init_629 : decode cX13_init 629 = .ok (.aload_n 0, 1) := by decide +kernel
theorem dX13_init_63 : decode cX13_init 63 = .ok (.putfield 38, 3) := by decide +kernel
theorem dX13_init_630 : decode cX13_init 630 = .ok (.ldc_w 266, 3) := by decide +kernel
theorem dX13_init_633 : decode cX13_init 633 = .ok (.invokestatic 199, 3) := by decide +kernel
theorem dX13_init_636 : decode cX13_init 636 = .ok (.putfield 268, 3) := by decide +kernel
theorem dX13_init_639 : decode cX13_init 639 = .ok (.aload_n 0, 1) := by decide +kernel
theorem dX13_init_640 : decode cX13_init 640 = .ok (.ldc_w 271, 3) := by decide +kernel
theorem dX13_init_643 : decode cX13_init 643 = .ok (.invokestatic 199, 3) := by decide +kernel
theorem dX13_init_646 : decode cX13_init 646 = .ok (.putfield 273, 3) := by decide +kernel
theorem dX13_init_649 : decode cX13_init 649 = .ok (.aload_n 0, 1) := by decide +kernel
theorem dX13_init_650 : decode cX13_init 650 = .ok (.ldc_w 276, 3) := by decide +kernel
theorem dX13_init_653 : decode cX13_init 653 = .ok (.invokestatic 199, 3) := by decide +kernel
theorem dX13_init_656 : decode cX13_init 656 = .ok (.putfield 278, 3) := by decide +kernel
theorem dX13_init_659 : decode cX13_init 659 = .ok (.aload_n 0, 1) := by decide +kernel
theorem dX13_init_66 : decode cX13_init 66 = .ok (.aload_n 0, 1) := by decide +kernel
theorem dX13_init_660 : decode cX13_init 660 = .ok (.ldc_w 281, 3) := by decide +kernel
theorem dX13_init_663 : decode cX13_init 663 = .ok (.invokestatic 199, 3) := by decide +kernel
theorem dX13_init_666 : decode cX13_init 666 = .ok (.putfield 283, 3) := by decide +kernel
theorem dX13_init_669 : decode cX13_init 669 = .ok (.aload_n 0, 1) := by decide +kernel
theorem dX13_init_67 : decode cX13_init 67 = .ok (.bipush 96, 2) := by decide +kernel
theorem dX13_init_670 : decode cX13_init 670 = .ok (.bipush 80, 2) := by decide +kernel
theorem dX13_init_672 : decode cX13_init 672 = .ok (.newarray .int, 2) := by decide +kernel
theorem dX13_init_674 : decode cX13_init 674 = .ok (.putfield 286, 3) := by decide +kernel
theorem dX13_init_677 : decode cX13_init 677 = .ok (.aload_n 0, 1) := by decide +kernel
theorem dX13_init_678 : decode cX13_init 678 = .ok (.sipush 1000, 3) := by decide +kernel
theorem dX13_init_681 : decode cX13_init 681 = .ok (.newarray .int, 2) := by decide +kernel
theorem dX13_init_683 : decode cX13_init 683 = .ok (.putfield 289, 3) := by decide +kernel
theorem dX13_init_686 : decode cX13_init 686 = .ok (.aload_n 0, 1) := by decide +kernel
theorem dX13_init_687 : decode cX13_init 687 = .ok (.iconst 4, 1) := by decide +kernel
theorem dX13_init_688 : decode cX13_init 688 = .ok (.newarray .int, 2) := by decide +kernel
theorem dX13_init_69 : decode cX13_init 69 = .ok (.newarray .int, 2) := by decide +kernel
theorem dX13_init_690 : decode cX13_init 690 = .ok (.putfield 292, 3) := by decide +kernel
theorem dX13_init_693 : decode cX13_init 693 = .ok (.aload_n 0, 1) := by decide +kernel
theorem dX13_init_694 : decode cX13_init 694 = .ok (.bipush 6, 2) := by decide +kernel
theorem dX13_init_696 : decode cX13_init 696 = .ok (.newarray .long, 2) := by decide +kernel
theorem dX13_init_698 : decode cX13_init 698 = .ok (.putfield 295, 3) := by decide +kernel
theorem dX13_init_701 : decode cX13_init 701 = .ok (.aload_n 0, 1) := by decide +kernel
theorem dX13_init_702 : decode cX13_init 702 = .ok (.bipush 6, 2) := by decide +kernel
theorem dX13_init_704 : decode cX13_init 704 = .ok (.newarray .int, 2) := by decide +kernel
theorem dX13_init_706 : decode cX13_init 706 = .ok (.putfield 298, 3) := by decide +kernel
theorem dX13_init_709 : decode cX13_init 709 = .ok (.aload_n 0, 1) := by decide +kernel
theorem dX13_init_71 : decode cX13_init 71 = .ok (.putfield 41, 3) := by decide +kernel
theorem dX13_init_710 : decode cX13_init 710 = .ok (.sipush 420, 3) := by decide +kernel
theorem dX13_init_713 : decode cX13_init 713 = .ok (.newarray .int, 2) := by decide +kernel
theorem dX13_init_715 : decode cX13_init 715 = .ok (.putfield 301, 3) := by decide +kernel
theorem dX13_init_718 : decode cX13_init 718 = .ok (.aload_n 0, 1) := by decide +kernel
theorem dX13_init_719 : decode cX13_init 719 = .ok (.sipush 420, 3) := by decide +kernel
theorem dX13_init_722 : decode cX13_init 722 = .ok (.newarray .int, 2) := by decide +kernel
theorem dX13_init_724 : decode cX13_init 724 = .ok (.putfield 304, 3) := by decide +kernel
theorem dX13_init_727 : decode cX13_init 727 = .ok (.aload_n 0, 1) := by decide +kernel
theorem dX13_init_728 : decode cX13_init 728 = .ok (.sipush 420, 3) := by decide +kernel
theorem dX13_init_731 : decode cX13_init 731 = .ok (.newarray .int, 2) := by decide +kernel
theorem dX13_init_733 : decode cX13_init 733 = .ok (.putfield 307, 3) := by decide +kernel
theorem dX13_init_736 : decode cX13_init 736 = .ok (.aload_n 0, 1) := by decide +kernel
theorem dX13_init_737 : decode cX13_init 737 = .ok (.iconst 3, 1) := by decide +kernel
theorem dX13_init_738 : decode cX13_init 738 = .ok (.newarray .int, 2) := by decide +kernel
theorem dX13_init_74 : decode cX13_init 74 = .ok (.aload_n 0, 1) := by decide +kernel
theorem dX13_init_740 : decode cX13_init 740 = .ok (.putfield 310, 3) := by decide +kernel
theorem dX13_init_743 : decode cX13_init 743 = .ok (.aload_n 0, 1) := by decide +kernel
theorem dX13_init_744 : decode cX13_init 744 = .ok (.bipush 6, 2) := by decide +kernel
theorem dX13_init_746 : decode cX13_init 746 = .ok (.newarray .int, 2) := by decide +kernel
theorem dX13_init_748 : decode cX13_init 748 = .ok (.putfield 313, 3) := by decide +kernel
theorem dX13_init_75 : decode cX13_init 75 = .ok (.bipush 96, 2) := by decide +kernel
theorem dX13_init_751 : decode cX13_init 751 = .ok (.aload_n 0, 1) := by decide +kernel
theorem dX13_init_752 : decode cX13_init 752 = .ok (.bipush 6, 2) := by decide +kernel
theorem dX13_init_754 : decode cX13_init 754 = .ok (.newarray .int, 2) := by decide +kernel
theorem dX13_init_756 : decode cX13_init 756 = .ok (.putfield 316, 3) := by decide +kernel
theorem dX13_init_759 : decode cX13_init 759 = .ok (.aload_n 0, 1) := by decide +kernel
theorem dX13_init_760 : decode cX13_init 760 = .ok (.bipush 6, 2) := by decide +kernel
theorem dX13_init_762 : decode cX13_init 762 = .ok (.newarray .int, 2) := by decide +kernel
theorem dX13_init_764 : decode cX13_init 764 = .ok (.putfield 319, 3) := by decide +kernel
theorem dX13_init_767 : decode cX13_init 767 = .ok (.aload_n 0, 1) := by decide +kernel
theorem dX13_init_768 : decode cX13_init 768 = .ok (.bipush 6, 2) := by decide +kernel
theorem dX13_init_77 : decode cX13_init 77 = .ok (.newarray .int, 2) := by decide +kernel
theorem dX13_init_770 : decode cX13_init 770 = .ok (.newarray .int, 2) := by decide +kernel
theorem dX13_init_772 : decode cX13_init 772 = .ok (.putfield 322, 3) := by decide +kernel
theorem dX13_init_775 : decode cX13_init 775 = .ok (.aload_n 0, 1) := by decide +kernel
theorem dX13_init_776 : decode cX13_init 776 = .ok (.bipush 6, 2) := by decide +kernel
theorem dX13_init_778 : decode cX13_init 778 = .ok (.newarray .int, 2) := by decide +kernel
theorem dX13_init_780 : decode cX13_init 780 = .ok (.putfield 325, 3) := by decide +kernel
theorem dX13_init_783 : decode cX13_init 783 = .ok (.aload_n 0, 1) := by decide +kernel
theorem dX13_init_784 : decode cX13_init 784 = .ok (.bipush 6, 2) := by decide +kernel
theorem dX13_init_786 : decode cX13_init 786 = .ok (.newarray .int, 2) := by decide +kernel
theorem dX13_init_788 : decode cX13_init 788 = .ok (.putfield 328, 3) := by decide +kernel
theorem dX13_init_79 : decode cX13_init 79 = .ok (.putfield 44, 3) := by decide +kernel
theorem dX13_init_791 : decode cX13_init 791 = .ok (.aload_n 0, 1) := by decide +kernel
theorem dX13_init_792 : decode cX13_init 792 = .ok (.iconst 4, 1) := by decide +kernel
theorem dX13_init_793 : decode cX13_init 793 = .ok (.newarray .int, 2) := by decide +kernel
theorem dX13_init_795 : decode cX13_init 795 = .ok (.putfield 331, 3) := by decide +kernel
theorem dX13_init_798 : decode cX13_init 798 = .ok (.aload_n 0, 1) := by decide +kernel
theorem dX13_init_799 : decode cX13_init 799 = .ok (.bipush 48, 2) := by decide +kernel
theorem dX13_init_801 : decode cX13_init 801 = .ok (.newarray .long, 2) := by decide +kernel
theorem dX13_init_803 : decode cX13_init 803 = .ok (.putfield 334, 3) := by decide +kernel
theorem dX13_init_806 : decode cX13_init 806 = .ok (.aload_n 0, 1) := by decide +kernel
theorem dX13_init_807 : decode cX13_init 807 = .ok (.bipush 64, 2) := by decide +kernel
theorem dX13_init_809 : decode cX13_init 809 = .ok (.newarray .byte, 2) := by decide +kernel
theorem dX13_init_811 : decode cX13_init 811 = .ok (.putfield 337, 3) := by decide +kernel
theorem dX13_init_814 : decode cX13_init 814 = .ok (.aload_n 0, 1) := by decide +kernel
theorem dX13_init_815 : decode cX13_init 815 = .ok (.bipush 64, 2) := by decide +kernel
theorem dX13_init_817 : decode cX13_init 817 = .ok (.newarray .byte, 2) := by decide +kernel
theorem dX13_init_819 : decode cX13_init 819 = .ok (.putfield 340, 3) := by decide +kernel
theorem dX13_init_82 : decode cX13_init 82 = .ok (.aload_n 0, 1) := by decide +kernel
theorem dX13_init_822 : decode cX13_init 822 = .ok (.aload_n 0, 1) := by decide +kernel
theorem dX13_init_823 : decode cX13_init 823 = .ok (.iconst (-1), 1) := by decide +kernel
theorem dX13_init_824 : decode cX13_init 824 = .ok (.putfield 343, 3) := by decide +kernel
theorem dX13_init_827 : decode cX13_init 827 = .ok (.aload_n 0, 1) := by decide +kernel
theorem dX13_init_828 : decode cX13_init 828 = .ok (.iconst (-1), 1) := by decide +kernel
theorem dX13_init_829 : decode cX13_init 829 = .ok (.putfield 346, 3) := by decide +kernel
theorem dX13_init_83 : decode cX13_init 83 = .ok (.bipush 96, 2) := by decide +kernel
theorem dX13_init_832 : decode cX13_init 832 = .ok (.aload_n 0, 1) := by decide +kernel
theorem dX13_init_833 : decode cX13_init 833 = .ok (.ldc_w 349, 3) := by decide +kernel
theorem dX13_init_836 : decode cX13_init 836 = .ok (.newarray .byte, 2) := by decide +kernel
theorem dX13_init_838 : decode cX13_init 838 = .ok (.putfield 350, 3) := by decide +kernel
theorem dX13_init_841 : decode cX13_init 841 = .ok (.aload_n 0, 1) := by decide +kernel
theorem dX13_init_842 : decode cX13_init 842 = .ok (.sipush 1536, 3) := by decide +kernel
theorem dX13_init_845 : decode cX13_init 845 = .ok (.newarray .int, 2) := by decide +kernel
theorem dX13_init_847 : decode cX13_init 847 = .ok (.putfield 353, 3) := by decide +kernel
theorem dX13_init_85 : decode cX13_init 85 = .ok (.newarray .int, 2) := by decide +kernel
theorem dX13_init_850 : decode cX13_init 850 = .ok (.aload_n 0, 1) := by decide +kernel
theorem dX13_init_851 : decode cX13_init 851 = .ok (.sipush 1536, 3) := by decide +kernel
theorem dX13_init_854 : decode cX13_init 854 = .ok (.newarray .int, 2) := by decide +kernel
theorem dX13_init_856 : decode cX13_init 856 = .ok (.putfield 356, 3) := by decide +kernel
theorem dX13_init_859 : decode cX13_init 859 = .ok (.aload_n 0, 1) := by decide +kernel
theorem dX13_init_860 : decode cX13_init 860 = .ok (.bipush 24, 2) := by decide +kernel
theorem dX13_init_862 : decode cX13_init 862 = .ok (.newarray .int, 2) := by decide +kernel
theorem dX13_init_864 : decode cX13_init 864 = .ok (.putfield 359, 3) := by decide +kernel
theorem dX13_init_867 : decode cX13_init 867 = .ok (.aload_n 0, 1) := by decide +kernel
theorem dX13_init_868 : decode cX13_init 868 = .ok (.bipush 24, 2) := by decide +kernel
theorem dX13_init_87 : decode cX13_init 87 = .ok (.putfield 47, 3) := by decide +kernel
theorem dX13_init_870 : decode cX13_init 870 = .ok (.newarray .int, 2) := by decide +kernel
theorem dX13_init_872 : decode cX13_init 872 = .ok (.putfield 362, 3) := by decide +kernel
theorem dX13_init_875 : decode cX13_init 875 = .ok (.aload_n 0, 1) := by decide +kernel
theorem dX13_init_876 : decode cX13_init 876 = .ok (.sipush 576, 3) := by decide +kernel
theorem dX13_init_879 : decode cX13_init 879 = .ok (.newarray .byte, 2) := by decide +kernel
theorem dX13_init_881 : decode cX13_init 881 = .ok (.putfield 365, 3) := by decide +kernel
theorem dX13_init_884 : decode cX13_init 884 = .ok (.aload_n 0, 1) := by decide +kernel
theorem dX13_init_885 : decode cX13_init 885 = .ok (.sipush 576, 3) := by decide +kernel
theorem dX13_init_888 : decode cX13_init 888 = .ok (.newarray .byte, 2) := by decide +kernel
theorem dX13_init_890 : decode cX13_init 890 = .ok (.putfield 368, 3) := by decide +kernel
theorem dX13_init_893 : decode cX13_init 893 = .ok (.aload_n 0, 1) := by decide +kernel
theorem dX13_init_894 : decode cX13_init 894 = .ok (.bipush 24, 2) := by decide +kernel
theorem dX13_init_896 : decode cX13_init 896 = .ok (.newarray .int, 2) := by decide +kernel
theorem dX13_init_898 : decode cX13_init 898 = .ok (.putfield 371, 3) := by decide +kernel
theorem dX13_init_9 : decode cX13_init 9 = .ok (.aload_n 0, 1) := by decide +kernel
theorem dX13_init_90 : decode cX13_init 90 = .ok (.aload_n 0, 1) := by decide +kernel
theorem dX13_init_901 : decode cX13_init 901 = .ok (.aload_n 0, 1) := by decide +kernel
theorem dX13_init_902 : decode cX13_init 902 = .ok (.bipush 24, 2) := by decide +kernel
theorem dX13_init_904 : decode cX13_init 904 = .ok (.newarray .int, 2) := by decide +kernel
theorem dX13_init_906 : decode cX13_init 906 = .ok (.putfield 374, 3) := by decide +kernel
theorem dX13_init_909 : decode cX13_init 909 = .ok (.aload_n 0, 1) := by decide +kernel
theorem dX13_init_91 : decode cX13_init 91 = .ok (.bipush 64, 2) := by decide +kernel
theorem dX13_init_910 : decode cX13_init 910 = .ok (.sipush 3000, 3) := by decide +kernel
theorem dX13_init_913 : decode cX13_init 913 = .ok (.newarray .int, 2) := by decide +kernel
theorem dX13_init_915 : decode cX13_init 915 = .ok (.putfield 377, 3) := by decide +kernel
theorem dX13_init_918 : decode cX13_init 918 = .ok (.aload_n 0, 1) := by decide +kernel
theorem dX13_init_919 : decode cX13_init 919 = .ok (.sipush 3000, 3) := by decide +kernel
theorem dX13_init_922 : decode cX13_init 922 = .ok (.newarray .int, 2) := by decide +kernel
theorem dX13_init_924 : decode cX13_init 924 = .ok (.putfield 380, 3) := by decide +kernel
theorem dX13_init_927 : decode cX13_init 927 = .ok (.aload_n 0, 1) := by decide +kernel
theorem dX13_init_928 : decode cX13_init 928 = .ok (.sipush 3000, 3) := by decide +kernel
theorem dX13_init_93 : decode cX13_init 93 = .ok (.newarray .int, 2) := by decide +kernel
theorem dX13_init_931 : decode cX13_init 931 = .ok (.newarray .int, 2) := by decide +kernel
theorem dX13_init_933 : decode cX13_init 933 = .ok (.putfield 383, 3) := by decide +kernel
theorem dX13_init_936 : decode cX13_init 936 = .ok (.aload_n 0, 1) := by decide +kernel
theorem dX13_init_937 : decode cX13_init 937 = .ok (.sipush 3000, 3) := by decide +kernel
theorem dX13_init_940 : decode cX13_init 940 = .ok (.newarray .int, 2) := by decide +kernel
theorem dX13_init_942 : decode cX13_init 942 = .ok (.putfield 386, 3) := by decide +kernel
theorem dX13_init_945 : decode cX13_init 945 = .ok (.aload_n 0, 1) := by decide +kernel
theorem dX13_init_946 : decode cX13_init 946 = .ok (.sipush 3001, 3) := by decide +kernel
theorem dX13_init_949 : decode cX13_init 949 = .ok (.newarray .int, 2) := by decide +kernel
theorem dX13_init_95 : decode cX13_init 95 = .ok (.putfield 50, 3) := by decide +kernel
theorem dX13_init_951 : decode cX13_init 951 = .ok (.putfield 389, 3) := by decide +kernel
theorem dX13_init_954 : decode cX13_init 954 = .ok (.aload_n 0, 1) := by decide +kernel
theorem dX13_init_955 : decode cX13_init 955 = .ok (.sipush 3000, 3) := by decide +kernel
theorem dX13_init_958 : decode cX13_init 958 = .ok (.newarray .int, 2) := by decide +kernel
theorem dX13_init_960 : decode cX13_init 960 = .ok (.putfield 392, 3) := by decide +kernel
theorem dX13_init_963 : decode cX13_init 963 = .ok (.aload_n 0, 1) := by decide +kernel
theorem dX13_init_964 : decode cX13_init 964 = .ok (.sipush 20000, 3) := by decide +kernel
theorem dX13_init_967 : decode cX13_init 967 = .ok (.newarray .int, 2) := by decide +kernel
theorem dX13_init_969 : decode cX13_init 969 = .ok (.putfield 395, 3) := by decide +kernel
theorem dX13_init_972 : decode cX13_init 972 = .ok (.aload_n 0, 1) := by decide +kernel
theorem dX13_init_973 : decode cX13_init 973 = .ok (.sipush 9000, 3) := by decide +kernel
theorem dX13_init_976 : decode cX13_init 976 = .ok (.newarray .int, 2) := by decide +kernel
theorem dX13_init_978 : decode cX13_init 978 = .ok (.putfield 398, 3) := by decide +kernel
theorem dX13_init_98 : decode cX13_init 98 = .ok (.aload_n 0, 1) := by decide +kernel
theorem dX13_init_981 : decode cX13_init 981 = .ok (.aload_n 0, 1) := by decide +kernel
theorem dX13_init_982 : decode cX13_init 982 = .ok (.sipush 9000, 3) := by decide +kernel
theorem dX13_init_985 : decode cX13_init 985 = .ok (.newarray .int, 2) := by decide +kernel
theorem dX13_init_987 : decode cX13_init 987 = .ok (.putfield 401, 3) := by decide +kernel
theorem dX13_init_99 : decode cX13_init 99 = .ok (.bipush 64, 2) := by decide +kernel
theorem dX13_init_990 : decode cX13_init 990 = .ok (.aload_n 0, 1) := by decide +kernel
theorem dX13_init_991 : decode cX13_init 991 = .ok (.sipush 9000, 3) := by decide +kernel
theorem dX13_init_994 : decode cX13_init 994 = .ok (.newarray .int, 2) := by decide +kernel
theorem dX13_init_996 : decode cX13_init 996 = .ok (.putfield 404, 3) := by decide +kernel
theorem dX13_init_999 : decode cX13_init 999 = .ok (.aload_n 0, 1) := by decide +kernel
theorem dX13_mean__0 : decode cX13_mean_ 0 = .ok (.aload_n 0, 1) := by decide +kernel
theorem dX13_mean__1 : decode cX13_mean_ 1 = .ok (.iload_n 1, 1) := by decide +kernel
theorem dX13_mean__10 : decode cX13_mean_ 10 = .ok (.aload_n 0, 1) := by decide +kernel
theorem dX13_mean__11 : decode cX13_mean_ 11 = .ok (.iconst 0, 1) := by decide +kernel
theorem dX13_mean__12 : decode cX13_mean_ 12 = .ok (.putfield 589, 3) := by decide +kernel
theorem dX13_mean__15 : decode cX13_mean_ 15 = .ok (.aload_n 0, 1) := by decide +kernel
theorem dX13_mean__16 : decode cX13_mean_ 16 = .ok (.iload_n 1, 1) := by decide +kernel
theorem dX13_mean__17 : decode cX13_mean_ 17 = .ok (.invokevirtual 1030, 3) := by decide +kernel
theorem dX13_mean__2 : decode cX13_mean_ 2 = .ok (.invokevirtual 1017, 3) := by decide +kernel
theorem dX13_mean__20 : decode cX13_mean_ 20 = .ok (.ifCond .ne 6, 3) := by decide +kernel
theorem dX13_mean__23 : decode cX13_mean_ 23 = .ok (.bipush (-4), 2) := by decide +kernel
theorem dX13_mean__25 : decode cX13_mean_ 25 = .ok (.ireturn, 1) := by decide +kernel
theorem dX13_mean__5 : decode cX13_mean_ 5 = .ok (.ifCond .eq 5, 3) := by decide +kernel
theorem dX13_mean__8 : decode cX13_mean_ 8 = .ok (.iconst 0, 1) := by decide +kernel
theorem dX13_mean__9 : decode cX13_mean_ 9 = .ok (.ireturn, 1) := by decide +kernel
theorem dX13_mend_0 : decode cX13_mend 0 = .ok (.aload_n 0, 1) := by decide +kernel
theorem dX13_mend_1 : decode cX13_mend 1 = .ok (.iload_n 1, 1) := by decide +kernel
theorem dX13_mend_16 : decode cX13_mend 16 = .ok (.iconst 0, 1) := by decide +kernel
theorem dX13_mend_17 : decode cX13_mend 17 = .ok (.ireturn, 1) := by decide +kernel
theorem dX13_mend_2 : decode cX13_mend 2 = .ok (.invokevirtual 845, 3) := by decide +kernel
theorem dX13_mend_5 : decode cX13_mend 5 = .ok (.ifCond .ne 11, 3) := by decide +kernel
theorem dX13_module_0 : decode cX13_module 0 = .ok (.aload_n 0, 1) := by decide +kernel
theorem dX13_module_1 : decode cX13_module 1 = .ok (.iconst 0, 1) := by decide +kernel
theorem dX13_module_10 : decode cX13_module 10 = .ok (.invokevirtual 685, 3) := by decide +kernel
theorem dX13_module_13 : decode cX13_module 13 = .ok (.aload_n 0, 1) := by decide +kernel
theorem dX13_module_14 : decode cX13_module 14 = .ok (.iconst 0, 1) := by decide +kernel
theorem dX13_module_15 : decode cX13_module 15 = .ok (.putfield 597, 3) := by decide +kernel
theorem dX13_module_18 : decode cX13_module 18 = .ok (.aload_n 0, 1) := by decide +kernel
theorem dX13_module_19 : decode cX13_module 19 = .ok (.iconst 0, 1) := by decide +kernel
theorem dX13_module_2 : decode cX13_module 2 = .ok (.putfield 3, 3) := by decide +kernel
theorem dX13_module_20 : decode cX13_module 20 = .ok (.putfield 639, 3) := by decide +kernel
theorem dX13_module_23 : decode cX13_module 23 = .ok (.aload_n 0, 1) := by decide +kernel
theorem dX13_module_24 : decode cX13_module 24 = .ok (.invokevirtual 655, 3) := by decide +kernel
theorem dX13_module_27 : decode cX13_module 27 = .ok (.iconst 0, 1) := by decide +kernel
theorem dX13_module_28 : decode cX13_module 28 = .ok (.istore_n 1, 1) := by decide +kernel
theorem dX13_module_29 : decode cX13_module 29 = .ok (.aload_n 0, 1) := by decide +kernel
theorem dX13_module_30 : decode cX13_module 30 = .ok (.getfield 609, 3) := by decide +kernel
theorem dX13_module_33 : decode cX13_module 33 = .ok (.ifCond .eq 35, 3) := by decide +kernel
theorem dX13_module_5 : decode cX13_module 5 = .ok (.aload_n 0, 1) := by decide +kernel
theorem dX13_module_6 : decode cX13_module 6 = .ok (.invokevirtual 682, 3) := by decide +kernel
theorem dX13_module_68 : decode cX13_module 68 = .ok (.aload_n 0, 1) := by decide +kernel
theorem dX13_module_69 : decode cX13_module 69 = .ok (.iconst 0, 1) := by decide +kernel
theorem dX13_module_70 : decode cX13_module 70 = .ok (.putfield 695, 3) := by decide +kernel
theorem dX13_module_73 : decode cX13_module 73 = .ok (.aload_n 0, 1) := by decide +kernel
theorem dX13_module_74 : decode cX13_module 74 = .ok (.dup, 1) := by decide +kernel
theorem dX13_module_75 : decode cX13_module 75 = .ok (.getfield 698, 3) := by decide +kernel
theorem dX13_module_78 : decode cX13_module 78 = .ok (.iconst 1, 1) := by decide +kernel
theorem dX13_module_79 : decode cX13_module 79 = .ok (.iadd, 1) := by decide +kernel
theorem dX13_module_80 : decode cX13_module 80 = .ok (.putfield 698, 3) := by decide +kernel
theorem dX13_module_83 : decode cX13_module 83 = .ok (.iload_n 1, 1) := by decide +kernel
theorem dX13_module_84 : decode cX13_module 84 = .ok (.ireturn, 1) := by decide +kernel
theorem dX13_module_9 : decode cX13_module 9 = .ok (.aload_n 0, 1) := by decide +kernel
theorem dX13_next_0 : decode cX13_next 0 = .ok (.aload_n 0, 1) := by decide +kernel
theorem dX13_next_1 : decode cX13_next 1 = .ok (.getfield 597, 3) := by decide +kernel
theorem dX13_next_10 : decode cX13_next 10 = .ok (.if_icmp .ge 20, 3) := by decide +kernel
theorem dX13_next_30 : decode cX13_next 30 = .ok (.aload_n 0, 1) := by decide +kernel
theorem dX13_next_309 : decode cX13_next 309 = .ok (.aload_n 0, 1) := by decide +kernel
theorem dX13_next_31 : decode cX13_next 31 = .ok (.iload_n 1, 1) := by decide +kernel
theorem dX13_next_310 : decode cX13_next 310 = .ok (.iload_n 1, 1) := by decide +kernel
theorem dX13_next_311 : decode cX13_next 311 = .ok (.putfield 597, 3) := by decide +kernel
theorem dX13_next_314 : decode cX13_next 314 = .ok (.return_, 1) := by decide +kernel
theorem dX13_next_32 : decode cX13_next 32 = .ok (.putfield 600, 3) := by decide +kernel
theorem dX13_next_35 : decode cX13_next 35 = .ok (.aload_n 0, 1) := by decide +kernel
theorem dX13_next_36 : decode cX13_next 36 = .ok (.iconst 0, 1) := by decide +kernel
theorem dX13_next_37 : decode cX13_next 37 = .ok (.putfield 603, 3) := by decide +kernel
theorem dX13_next_4 : decode cX13_next 4 = .ok (.istore_n 1, 1) := by decide +kernel
theorem dX13_next_40 : decode cX13_next 40 = .ok (.aload_n 0, 1) := by decide +kernel
theorem dX13_next_41 : decode cX13_next 41 = .ok (.lconst 0, 1) := by decide +kernel
theorem dX13_next_42 : decode cX13_next 42 = .ok (.putfield 606, 3) := by decide +kernel
theorem dX13_next_45 : decode cX13_next 45 = .ok (.iload_n 1, 1) := by decide +kernel
theorem dX13_next_46 : decode cX13_next 46 = .ok (.aload_n 0, 1) := by decide +kernel
theorem dX13_next_47 : decode cX13_next 47 = .ok (.getfield 586, 3) := by decide +kernel
theorem dX13_next_5 : decode cX13_next 5 = .ok (.iload_n 1, 1) := by decide +kernel
theorem dX13_next_50 : decode cX13_next 50 = .ok (.if_icmp .ne 11, 3) := by decide +kernel
theorem dX13_next_53 : decode cX13_next 53 = .ok (.aload_n 0, 1) := by decide +kernel
theorem dX13_next_54 : decode cX13_next 54 = .ok (.iconst 0, 1) := by decide +kernel
theorem dX13_next_55 : decode cX13_next 55 = .ok (.putfield 609, 3) := by decide +kernel
theorem dX13_next_58 : decode cX13_next 58 = .ok (.goto 251, 3) := by decide +kernel
theorem dX13_next_6 : decode cX13_next 6 = .ok (.aload_n 0, 1) := by decide +kernel
theorem dX13_next_7 : decode cX13_next 7 = .ok (.getfield 586, 3) := by decide +kernel
theorem dX13_noPlace_0 : decode cX13_noPlace 0 = .ok (.aload_n 0, 1) := by decide +kernel
theorem dX13_noPlace_1 : decode cX13_noPlace 1 = .ok (.iload_n 1, 1) := by decide +kernel
theorem dX13_noPlace_11 : decode cX13_noPlace 11 = .ok (.iconst 1, 1) := by decide +kernel
theorem dX13_noPlace_12 : decode cX13_noPlace 12 = .ok (.goto 4, 3) := by decide +kernel
theorem dX13_noPlace_15 : decode cX13_noPlace 15 = .ok (.iconst 0, 1) := by decide +kernel
theorem dX13_noPlace_16 : decode cX13_noPlace 16 = .ok (.putfield 3, 3) := by decide +kernel
theorem dX13_noPlace_19 : decode cX13_noPlace 19 = .ok (.aload_n 0, 1) := by decide +kernel
theorem dX13_noPlace_2 : decode cX13_noPlace 2 = .ok (.ifCond .lt 9, 3) := by decide +kernel
theorem dX13_noPlace_20 : decode cX13_noPlace 20 = .ok (.getfield 3, 3) := by decide +kernel
theorem dX13_noPlace_23 : decode cX13_noPlace 23 = .ok (.ifCond .eq 7, 3) := by decide +kernel
theorem dX13_noPlace_26 : decode cX13_noPlace 26 = .ok (.iconst 1, 1) := by decide +kernel
theorem dX13_noPlace_27 : decode cX13_noPlace 27 = .ok (.goto 4, 3) := by decide +kernel
theorem dX13_noPlace_30 : decode cX13_noPlace 30 = .ok (.iconst 0, 1) := by decide +kernel
theorem dX13_noPlace_31 : decode cX13_noPlace 31 = .ok (.ireturn, 1) := by decide +kernel
theorem dX13_noPlace_5 : decode cX13_noPlace 5 = .ok (.iload_n 1, 1) := by decide +kernel
theorem dX13_noPlace_6 : decode cX13_noPlace 6 = .ok (.bipush 7, 2) := by decide +kernel
theorem dX13_noPlace_8 : decode cX13_noPlace 8 = .ok (.if_icmp .le 7, 3) := by decide +kernel
theorem dX13_noTongue_0 : decode cX13_noTongue 0 = .ok (.aload_n 0, 1) := by decide +kernel
theorem dX13_noTongue_1 : decode cX13_noTongue 1 = .ok (.iload_n 1, 1) := by decide +kernel
theorem dX13_noTongue_10 : decode cX13_noTongue 10 = .ok (.if_icmp .lt 7, 3) := by decide +kernel
theorem dX13_noTongue_13 : decode cX13_noTongue 13 = .ok (.iconst 1, 1) := by decide +kernel
theorem dX13_noTongue_14 : decode cX13_noTongue 14 = .ok (.goto 4, 3) := by decide +kernel
theorem dX13_noTongue_18 : decode cX13_noTongue 18 = .ok (.putfield 3, 3) := by decide +kernel
theorem dX13_noTongue_2 : decode cX13_noTongue 2 = .ok (.ifCond .lt 11, 3) := by decide +kernel
theorem dX13_noTongue_21 : decode cX13_noTongue 21 = .ok (.aload_n 0, 1) := by decide +kernel
theorem dX13_noTongue_22 : decode cX13_noTongue 22 = .ok (.getfield 3, 3) := by decide +kernel
theorem dX13_noTongue_25 : decode cX13_noTongue 25 = .ok (.ifCond .eq 7, 3) := by decide +kernel
theorem dX13_noTongue_28 : decode cX13_noTongue 28 = .ok (.iconst 1, 1) := by decide +kernel
theorem dX13_noTongue_29 : decode cX13_noTongue 29 = .ok (.goto 4, 3) := by decide +kernel
theorem dX13_noTongue_33 : decode cX13_noTongue 33 = .ok (.ireturn, 1) := by decide +kernel
theorem dX13_noTongue_5 : decode cX13_noTongue 5 = .ok (.iload_n 1, 1) := by decide +kernel
theorem dX13_noTongue_6 : decode cX13_noTongue 6 = .ok (.aload_n 0, 1) := by decide +kernel
theorem dX13_noTongue_7 : decode cX13_noTongue 7 = .ok (.getfield 658, 3) := by decide +kernel
theorem dX13_noTree_0 : decode cX13_noTree 0 = .ok (.aload_n 0, 1) := by decide +kernel
theorem dX13_noTree_1 : decode cX13_noTree 1 = .ok (.getfield 609, 3) := by decide +kernel
theorem dX13_noTree_4 : decode cX13_noTree 4 = .ok (.iconst 1, 1) := by decide +kernel
theorem dX13_noTree_5 : decode cX13_noTree 5 = .ok (.if_icmp .eq 5, 3) := by decide +kernel
theorem dX13_noTree_8 : decode cX13_noTree 8 = .ok (.iconst 1, 1) := by decide +kernel
theorem dX13_noTree_9 : decode cX13_noTree 9 = .ok (.ireturn, 1) := by decide +kernel
theorem dX13_number_0 : decode cX13_number 0 = .ok (.aload_n 0, 1) := by decide +kernel
theorem dX13_number_1 : decode cX13_number 1 = .ok (.iconst 0, 1) := by decide +kernel
theorem dX13_number_10 : decode cX13_number 10 = .ok (.iconst 5, 1) := by decide +kernel
theorem dX13_number_11 : decode cX13_number 11 = .ok (.if_icmp .gt 20, 3) := by decide +kernel
theorem dX13_number_14 : decode cX13_number 14 = .ok (.iload_n 2, 1) := by decide +kernel
theorem dX13_number_15 : decode cX13_number 15 = .ok (.iconst 2, 1) := by decide +kernel
theorem dX13_number_16 : decode cX13_number 16 = .ok (.if_icmp .le 20, 3) := by decide +kernel
theorem dX13_number_19 : decode cX13_number 19 = .ok (.iload_n 1, 1) := by decide +kernel
theorem dX13_number_2 : decode cX13_number 2 = .ok (.putfield 3, 3) := by decide +kernel
theorem dX13_number_20 : decode cX13_number 20 = .ok (.ifCond .lt 11, 3) := by decide +kernel
theorem dX13_number_23 : decode cX13_number 23 = .ok (.iload_n 1, 1) := by decide +kernel
theorem dX13_number_24 : decode cX13_number 24 = .ok (.aload_n 0, 1) := by decide +kernel
theorem dX13_number_25 : decode cX13_number 25 = .ok (.getfield 658, 3) := by decide +kernel
theorem dX13_number_28 : decode cX13_number 28 = .ok (.if_icmp .lt 8, 3) := by decide +kernel
theorem dX13_number_31 : decode cX13_number 31 = .ok (.aload_n 0, 1) := by decide +kernel
theorem dX13_number_32 : decode cX13_number 32 = .ok (.invokevirtual 579, 3) := by decide +kernel
theorem dX13_number_35 : decode cX13_number 35 = .ok (.ireturn, 1) := by decide +kernel
theorem dX13_number_36 : decode cX13_number 36 = .ok (.aload_n 0, 1) := by decide +kernel
theorem dX13_number_37 : decode cX13_number 37 = .ok (.invokevirtual 682, 3) := by decide +kernel
theorem dX13_number_40 : decode cX13_number 40 = .ok (.aload_n 0, 1) := by decide +kernel
theorem dX13_number_41 : decode cX13_number 41 = .ok (.iconst 0, 1) := by decide +kernel
theorem dX13_number_42 : decode cX13_number 42 = .ok (.putfield 597, 3) := by decide +kernel
theorem dX13_number_45 : decode cX13_number 45 = .ok (.aload_n 0, 1) := by decide +kernel
theorem dX13_number_46 : decode cX13_number 46 = .ok (.invokevirtual 655, 3) := by decide +kernel
theorem dX13_number_49 : decode cX13_number 49 = .ok (.aload_n 0, 1) := by decide +kernel
theorem dX13_number_5 : decode cX13_number 5 = .ok (.iload_n 2, 1) := by decide +kernel
theorem dX13_number_50 : decode cX13_number 50 = .ok (.getfield 609, 3) := by decide +kernel
theorem dX13_number_53 : decode cX13_number 53 = .ok (.iconst 1, 1) := by decide +kernel
theorem dX13_number_54 : decode cX13_number 54 = .ok (.if_icmp .eq 5, 3) := by decide +kernel
theorem dX13_number_57 : decode cX13_number 57 = .ok (.iconst (-1), 1) := by decide +kernel
theorem dX13_number_58 : decode cX13_number 58 = .ok (.ireturn, 1) := by decide +kernel
theorem dX13_number_6 : decode cX13_number 6 = .ok (.ifCond .lt 25, 3) := by decide +kernel
theorem dX13_number_9 : decode cX13_number 9 = .ok (.iload_n 2, 1) := by decide +kernel
theorem dX13_out_0 : decode cX13_out 0 = .ok (.aload_n 0, 1) := by decide +kernel
theorem dX13_out_1 : decode cX13_out 1 = .ok (.iconst 0, 1) := by decide +kernel
theorem dX13_out_10 : decode cX13_out 10 = .ok (.aload_n 0, 1) := by decide +kernel
theorem dX13_out_11 : decode cX13_out 11 = .ok (.getfield 589, 3) := by decide +kernel
theorem dX13_out_14 : decode cX13_out 14 = .ok (.if_icmp .lt 7, 3) := by decide +kernel
theorem dX13_out_17 : decode cX13_out 17 = .ok (.iconst (-1), 1) := by decide +kernel
theorem dX13_out_18 : decode cX13_out 18 = .ok (.goto 13, 3) := by decide +kernel
theorem dX13_out_2 : decode cX13_out 2 = .ok (.putfield 3, 3) := by decide +kernel
theorem dX13_out_31 : decode cX13_out 31 = .ok (.ireturn, 1) := by decide +kernel
theorem dX13_out_5 : decode cX13_out 5 = .ok (.iload_n 1, 1) := by decide +kernel
theorem dX13_out_6 : decode cX13_out 6 = .ok (.ifCond .lt 11, 3) := by decide +kernel
theorem dX13_out_9 : decode cX13_out 9 = .ok (.iload_n 1, 1) := by decide +kernel
theorem dX13_parse_0 : decode cX13_parse 0 = .ok (.aload_n 0, 1) := by decide +kernel
theorem dX13_parse_1 : decode cX13_parse 1 = .ok (.iload_n 1, 1) := by decide +kernel
theorem dX13_parse_16 : decode cX13_parse 16 = .ok (.iconst 0, 1) := by decide +kernel
theorem dX13_parse_17 : decode cX13_parse 17 = .ok (.ireturn, 1) := by decide +kernel
theorem dX13_parse_2 : decode cX13_parse 2 = .ok (.invokevirtual 845, 3) := by decide +kernel
theorem dX13_parse_5 : decode cX13_parse 5 = .ok (.ifCond .ne 11, 3) := by decide +kernel
theorem dX13_price_0 : decode cX13_price 0 = .ok (.aload_n 0, 1) := by decide +kernel
theorem dX13_price_1 : decode cX13_price 1 = .ok (.iconst 0, 1) := by decide +kernel
theorem dX13_price_10 : decode cX13_price 10 = .ok (.aload_n 0, 1) := by decide +kernel
theorem dX13_price_11 : decode cX13_price 11 = .ok (.getfield 977, 3) := by decide +kernel
theorem dX13_price_14 : decode cX13_price 14 = .ok (.if_icmp .lt 7, 3) := by decide +kernel
theorem dX13_price_17 : decode cX13_price 17 = .ok (.iconst (-1), 1) := by decide +kernel
theorem dX13_price_18 : decode cX13_price 18 = .ok (.goto 9, 3) := by decide +kernel
theorem dX13_price_2 : decode cX13_price 2 = .ok (.putfield 3, 3) := by decide +kernel
theorem dX13_price_27 : decode cX13_price 27 = .ok (.ireturn, 1) := by decide +kernel
theorem dX13_price_5 : decode cX13_price 5 = .ok (.iload_n 1, 1) := by decide +kernel
theorem dX13_price_6 : decode cX13_price 6 = .ok (.ifCond .lt 11, 3) := by decide +kernel
theorem dX13_price_9 : decode cX13_price 9 = .ok (.iload_n 1, 1) := by decide +kernel
theorem dX13_reading_0 : decode cX13_reading 0 = .ok (.aload_n 0, 1) := by decide +kernel
theorem dX13_reading_1 : decode cX13_reading 1 = .ok (.iload_n 2, 1) := by decide +kernel
theorem dX13_reading_10 : decode cX13_reading 10 = .ok (.iload_n 1, 1) := by decide +kernel
theorem dX13_reading_11 : decode cX13_reading 11 = .ok (.ifCond .lt 11, 3) := by decide +kernel
theorem dX13_reading_14 : decode cX13_reading 14 = .ok (.iload_n 1, 1) := by decide +kernel
theorem dX13_reading_15 : decode cX13_reading 15 = .ok (.aload_n 0, 1) := by decide +kernel
theorem dX13_reading_16 : decode cX13_reading 16 = .ok (.getfield 977, 3) := by decide +kernel
theorem dX13_reading_19 : decode cX13_reading 19 = .ok (.if_icmp .lt 5, 3) := by decide +kernel
theorem dX13_reading_2 : decode cX13_reading 2 = .ok (.invokevirtual 1017, 3) := by decide +kernel
theorem dX13_reading_22 : decode cX13_reading 22 = .ok (.iconst (-1), 1) := by decide +kernel
theorem dX13_reading_23 : decode cX13_reading 23 = .ok (.ireturn, 1) := by decide +kernel
theorem dX13_reading_5 : decode cX13_reading 5 = .ok (.ifCond .eq 5, 3) := by decide +kernel
theorem dX13_reading_8 : decode cX13_reading 8 = .ok (.iconst 0, 1) := by decide +kernel
theorem dX13_reading_9 : decode cX13_reading 9 = .ok (.ireturn, 1) := by decide +kernel
theorem dX13_reads_0 : decode cX13_reads 0 = .ok (.aload_n 0, 1) := by decide +kernel
theorem dX13_reads_1 : decode cX13_reads 1 = .ok (.aload_n 0, 1) := by decide +kernel
theorem dX13_reads_10 : decode cX13_reads 10 = .ok (.iload_n 1, 1) := by decide +kernel
theorem dX13_reads_11 : decode cX13_reads 11 = .ok (.aload_n 0, 1) := by decide +kernel
theorem dX13_reads_12 : decode cX13_reads 12 = .ok (.getfield 576, 3) := by decide +kernel
theorem dX13_reads_15 : decode cX13_reads 15 = .ok (.if_icmp .ge 21, 3) := by decide +kernel
theorem dX13_reads_2 : decode cX13_reads 2 = .ok (.getfield 576, 3) := by decide +kernel
theorem dX13_reads_36 : decode cX13_reads 36 = .ok (.aload_n 0, 1) := by decide +kernel
theorem dX13_reads_37 : decode cX13_reads 37 = .ok (.iconst 0, 1) := by decide +kernel
theorem dX13_reads_38 : decode cX13_reads 38 = .ok (.putfield 576, 3) := by decide +kernel
theorem dX13_reads_41 : decode cX13_reads 41 = .ok (.return_, 1) := by decide +kernel
theorem dX13_reads_5 : decode cX13_reads 5 = .ok (.putfield 586, 3) := by decide +kernel
theorem dX13_reads_8 : decode cX13_reads 8 = .ok (.iconst 0, 1) := by decide +kernel
theorem dX13_reads_9 : decode cX13_reads 9 = .ok (.istore_n 1, 1) := by decide +kernel
theorem dX13_remember_0 : decode cX13_remember 0 = .ok (.iconst 0, 1) := by decide +kernel
theorem dX13_remember_1 : decode cX13_remember 1 = .ok (.istore_n 1, 1) := by decide +kernel
theorem dX13_remember_10 : decode cX13_remember 10 = .ok (.aload_n 0, 1) := by decide +kernel
theorem dX13_remember_101 : decode cX13_remember 101 = .ok (.aload_n 0, 1) := by decide +kernel
theorem dX13_remember_102 : decode cX13_remember 102 = .ok (.getfield 637, 3) := by decide +kernel
theorem dX13_remember_105 : decode cX13_remember 105 = .ok (.iastore, 1) := by decide +kernel
theorem dX13_remember_106 : decode cX13_remember 106 = .ok (.aload_n 0, 1) := by decide +kernel
theorem dX13_remember_107 : decode cX13_remember 107 = .ok (.getfield 286, 3) := by decide +kernel
theorem dX13_remember_11 : decode cX13_remember 11 = .ok (.getfield 658, 3) := by decide +kernel
theorem dX13_remember_110 : decode cX13_remember 110 = .ok (.iload_n 1, 1) := by decide +kernel
theorem dX13_remember_111 : decode cX13_remember 111 = .ok (.iinc 1 1, 3) := by decide +kernel
theorem dX13_remember_114 : decode cX13_remember 114 = .ok (.aload_n 0, 1) := by decide +kernel
theorem dX13_remember_115 : decode cX13_remember 115 = .ok (.getfield 676, 3) := by decide +kernel
theorem dX13_remember_118 : decode cX13_remember 118 = .ok (.iastore, 1) := by decide +kernel
theorem dX13_remember_119 : decode cX13_remember 119 = .ok (.iconst 0, 1) := by decide +kernel
theorem dX13_remember_120 : decode cX13_remember 120 = .ok (.istore_n 2, 1) := by decide +kernel
theorem dX13_remember_121 : decode cX13_remember 121 = .ok (.iload_n 2, 1) := by decide +kernel
theorem dX13_remember_122 : decode cX13_remember 122 = .ok (.bipush 8, 2) := by decide +kernel
theorem dX13_remember_124 : decode cX13_remember 124 = .ok (.if_icmp .ge 114, 3) := by decide +kernel
theorem dX13_remember_127 : decode cX13_remember 127 = .ok (.aload_n 0, 1) := by decide +kernel
theorem dX13_remember_128 : decode cX13_remember 128 = .ok (.getfield 286, 3) := by decide +kernel
theorem dX13_remember_131 : decode cX13_remember 131 = .ok (.iload_n 1, 1) := by decide +kernel
theorem dX13_remember_132 : decode cX13_remember 132 = .ok (.iinc 1 1, 3) := by decide +kernel
theorem dX13_remember_135 : decode cX13_remember 135 = .ok (.aload_n 0, 1) := by decide +kernel
theorem dX13_remember_136 : decode cX13_remember 136 = .ok (.getfield 56, 3) := by decide +kernel
theorem dX13_remember_139 : decode cX13_remember 139 = .ok (.iload_n 2, 1) := by decide +kernel
theorem dX13_remember_14 : decode cX13_remember 14 = .ok (.iastore, 1) := by decide +kernel
theorem dX13_remember_140 : decode cX13_remember 140 = .ok (.iaload, 1) := by decide +kernel
theorem dX13_remember_141 : decode cX13_remember 141 = .ok (.iastore, 1) := by decide +kernel
theorem dX13_remember_142 : decode cX13_remember 142 = .ok (.aload_n 0, 1) := by decide +kernel
theorem dX13_remember_143 : decode cX13_remember 143 = .ok (.getfield 286, 3) := by decide +kernel
theorem dX13_remember_146 : decode cX13_remember 146 = .ok (.iload_n 1, 1) := by decide +kernel
theorem dX13_remember_147 : decode cX13_remember 147 = .ok (.iinc 1 1, 3) := by decide +kernel
theorem dX13_remember_15 : decode cX13_remember 15 = .ok (.aload_n 0, 1) := by decide +kernel
theorem dX13_remember_150 : decode cX13_remember 150 = .ok (.aload_n 0, 1) := by decide +kernel
theorem dX13_remember_151 : decode cX13_remember 151 = .ok (.getfield 59, 3) := by decide +kernel
theorem dX13_remember_154 : decode cX13_remember 154 = .ok (.iload_n 2, 1) := by decide +kernel
theorem dX13_remember_155 : decode cX13_remember 155 = .ok (.iaload, 1) := by decide +kernel
theorem dX13_remember_156 : decode cX13_remember 156 = .ok (.iastore, 1) := by decide +kernel
theorem dX13_remember_157 : decode cX13_remember 157 = .ok (.aload_n 0, 1) := by decide +kernel
theorem dX13_remember_158 : decode cX13_remember 158 = .ok (.getfield 286, 3) := by decide +kernel
theorem dX13_remember_16 : decode cX13_remember 16 = .ok (.getfield 286, 3) := by decide +kernel
theorem dX13_remember_161 : decode cX13_remember 161 = .ok (.iload_n 1, 1) := by decide +kernel
theorem dX13_remember_162 : decode cX13_remember 162 = .ok (.iinc 1 1, 3) := by decide +kernel
theorem dX13_remember_165 : decode cX13_remember 165 = .ok (.aload_n 0, 1) := by decide +kernel
theorem dX13_remember_166 : decode cX13_remember 166 = .ok (.getfield 62, 3) := by decide +kernel
theorem dX13_remember_169 : decode cX13_remember 169 = .ok (.iload_n 2, 1) := by decide +kernel
theorem dX13_remember_170 : decode cX13_remember 170 = .ok (.iaload, 1) := by decide +kernel
theorem dX13_remember_171 : decode cX13_remember 171 = .ok (.iastore, 1) := by decide +kernel
theorem dX13_remember_172 : decode cX13_remember 172 = .ok (.aload_n 0, 1) := by decide +kernel
theorem dX13_remember_173 : decode cX13_remember 173 = .ok (.getfield 286, 3) := by decide +kernel
theorem dX13_remember_176 : decode cX13_remember 176 = .ok (.iload_n 1, 1) := by decide +kernel
theorem dX13_remember_177 : decode cX13_remember 177 = .ok (.iinc 1 1, 3) := by decide +kernel
theorem dX13_remember_180 : decode cX13_remember 180 = .ok (.aload_n 0, 1) := by decide +kernel
theorem dX13_remember_181 : decode cX13_remember 181 = .ok (.getfield 65, 3) := by decide +kernel
theorem dX13_remember_184 : decode cX13_remember 184 = .ok (.iload_n 2, 1) := by decide +kernel
theorem dX13_remember_185 : decode cX13_remember 185 = .ok (.iaload, 1) := by decide +kernel
theorem dX13_remember_186 : decode cX13_remember 186 = .ok (.iastore, 1) := by decide +kernel
theorem dX13_remember_187 : decode cX13_remember 187 = .ok (.aload_n 0, 1) := by decide +kernel
theorem dX13_remember_188 : decode cX13_remember 188 = .ok (.getfield 286, 3) := by decide +kernel
theorem dX13_remember_19 : decode cX13_remember 19 = .ok (.iload_n 1, 1) := by decide +kernel
theorem dX13_remember_191 : decode cX13_remember 191 = .ok (.iload_n 1, 1) := by decide +kernel
theorem dX13_remember_192 : decode cX13_remember 192 = .ok (.iinc 1 1, 3) := by decide +kernel
theorem dX13_remember_195 : decode cX13_remember 195 = .ok (.aload_n 0, 1) := by decide +kernel
theorem dX13_remember_196 : decode cX13_remember 196 = .ok (.getfield 68, 3) := by decide +kernel
theorem dX13_remember_199 : decode cX13_remember 199 = .ok (.iload_n 2, 1) := by decide +kernel
theorem dX13_remember_2 : decode cX13_remember 2 = .ok (.aload_n 0, 1) := by decide +kernel
theorem dX13_remember_20 : decode cX13_remember 20 = .ok (.iinc 1 1, 3) := by decide +kernel
theorem dX13_remember_200 : decode cX13_remember 200 = .ok (.iaload, 1) := by decide +kernel
theorem dX13_remember_201 : decode cX13_remember 201 = .ok (.iastore, 1) := by decide +kernel
theorem dX13_remember_202 : decode cX13_remember 202 = .ok (.aload_n 0, 1) := by decide +kernel
theorem dX13_remember_203 : decode cX13_remember 203 = .ok (.getfield 286, 3) := by decide +kernel
theorem dX13_remember_206 : decode cX13_remember 206 = .ok (.iload_n 1, 1) := by decide +kernel
theorem dX13_remember_207 : decode cX13_remember 207 = .ok (.iinc 1 1, 3) := by decide +kernel
theorem dX13_remember_210 : decode cX13_remember 210 = .ok (.aload_n 0, 1) := by decide +kernel
theorem dX13_remember_211 : decode cX13_remember 211 = .ok (.getfield 71, 3) := by decide +kernel
theorem dX13_remember_214 : decode cX13_remember 214 = .ok (.iload_n 2, 1) := by decide +kernel
theorem dX13_remember_215 : decode cX13_remember 215 = .ok (.iaload, 1) := by decide +kernel
theorem dX13_remember_216 : decode cX13_remember 216 = .ok (.iastore, 1) := by decide +kernel
theorem dX13_remember_217 : decode cX13_remember 217 = .ok (.aload_n 0, 1) := by decide +kernel
theorem dX13_remember_218 : decode cX13_remember 218 = .ok (.getfield 286, 3) := by decide +kernel
theorem dX13_remember_221 : decode cX13_remember 221 = .ok (.iload_n 1, 1) := by decide +kernel
theorem dX13_remember_222 : decode cX13_remember 222 = .ok (.iinc 1 1, 3) := by decide +kernel
theorem dX13_remember_225 : decode cX13_remember 225 = .ok (.aload_n 0, 1) := by decide +kernel
theorem dX13_remember_226 : decode cX13_remember 226 = .ok (.getfield 74, 3) := by decide +kernel
theorem dX13_remember_229 : decode cX13_remember 229 = .ok (.iload_n 2, 1) := by decide +kernel
theorem dX13_remember_23 : decode cX13_remember 23 = .ok (.aload_n 0, 1) := by decide +kernel
theorem dX13_remember_230 : decode cX13_remember 230 = .ok (.iaload, 1) := by decide +kernel
theorem dX13_remember_231 : decode cX13_remember 231 = .ok (.iastore, 1) := by decide +kernel
theorem dX13_remember_232 : decode cX13_remember 232 = .ok (.iinc 2 1, 3) := by decide +kernel
theorem dX13_remember_235 : decode cX13_remember 235 = .ok (.goto (-114), 3) := by decide +kernel
theorem dX13_remember_238 : decode cX13_remember 238 = .ok (.aload_n 0, 1) := by decide +kernel
theorem dX13_remember_239 : decode cX13_remember 239 = .ok (.iconst 0, 1) := by decide +kernel
theorem dX13_remember_24 : decode cX13_remember 24 = .ok (.getfield 661, 3) := by decide +kernel
theorem dX13_remember_240 : decode cX13_remember 240 = .ok (.putfield 679, 3) := by decide +kernel
theorem dX13_remember_243 : decode cX13_remember 243 = .ok (.return_, 1) := by decide +kernel
theorem dX13_remember_27 : decode cX13_remember 27 = .ok (.iastore, 1) := by decide +kernel
theorem dX13_remember_28 : decode cX13_remember 28 = .ok (.aload_n 0, 1) := by decide +kernel
theorem dX13_remember_29 : decode cX13_remember 29 = .ok (.getfield 286, 3) := by decide +kernel
theorem dX13_remember_3 : decode cX13_remember 3 = .ok (.getfield 286, 3) := by decide +kernel
theorem dX13_remember_32 : decode cX13_remember 32 = .ok (.iload_n 1, 1) := by decide +kernel
theorem dX13_remember_33 : decode cX13_remember 33 = .ok (.iinc 1 1, 3) := by decide +kernel
theorem dX13_remember_36 : decode cX13_remember 36 = .ok (.aload_n 0, 1) := by decide +kernel
theorem dX13_remember_37 : decode cX13_remember 37 = .ok (.getfield 664, 3) := by decide +kernel
theorem dX13_remember_40 : decode cX13_remember 40 = .ok (.iastore, 1) := by decide +kernel
theorem dX13_remember_41 : decode cX13_remember 41 = .ok (.aload_n 0, 1) := by decide +kernel
theorem dX13_remember_42 : decode cX13_remember 42 = .ok (.getfield 286, 3) := by decide +kernel
theorem dX13_remember_45 : decode cX13_remember 45 = .ok (.iload_n 1, 1) := by decide +kernel
theorem dX13_remember_46 : decode cX13_remember 46 = .ok (.iinc 1 1, 3) := by decide +kernel
theorem dX13_remember_49 : decode cX13_remember 49 = .ok (.aload_n 0, 1) := by decide +kernel
theorem dX13_remember_50 : decode cX13_remember 50 = .ok (.getfield 667, 3) := by decide +kernel
theorem dX13_remember_53 : decode cX13_remember 53 = .ok (.iastore, 1) := by decide +kernel
theorem dX13_remember_54 : decode cX13_remember 54 = .ok (.aload_n 0, 1) := by decide +kernel
theorem dX13_remember_55 : decode cX13_remember 55 = .ok (.getfield 286, 3) := by decide +kernel
theorem dX13_remember_58 : decode cX13_remember 58 = .ok (.iload_n 1, 1) := by decide +kernel
theorem dX13_remember_59 : decode cX13_remember 59 = .ok (.iinc 1 1, 3) := by decide +kernel
theorem dX13_remember_6 : decode cX13_remember 6 = .ok (.iload_n 1, 1) := by decide +kernel
theorem dX13_remember_62 : decode cX13_remember 62 = .ok (.aload_n 0, 1) := by decide +kernel
theorem dX13_remember_63 : decode cX13_remember 63 = .ok (.getfield 670, 3) := by decide +kernel
theorem dX13_remember_66 : decode cX13_remember 66 = .ok (.iastore, 1) := by decide +kernel
theorem dX13_remember_67 : decode cX13_remember 67 = .ok (.aload_n 0, 1) := by decide +kernel
theorem dX13_remember_68 : decode cX13_remember 68 = .ok (.getfield 286, 3) := by decide +kernel
theorem dX13_remember_7 : decode cX13_remember 7 = .ok (.iinc 1 1, 3) := by decide +kernel
theorem dX13_remember_71 : decode cX13_remember 71 = .ok (.iload_n 1, 1) := by decide +kernel
theorem dX13_remember_72 : decode cX13_remember 72 = .ok (.iinc 1 1, 3) := by decide +kernel
theorem dX13_remember_75 : decode cX13_remember 75 = .ok (.aload_n 0, 1) := by decide +kernel
theorem dX13_remember_76 : decode cX13_remember 76 = .ok (.getfield 15, 3) := by decide +kernel
theorem dX13_remember_79 : decode cX13_remember 79 = .ok (.iastore, 1) := by decide +kernel
theorem dX13_remember_80 : decode cX13_remember 80 = .ok (.aload_n 0, 1) := by decide +kernel
theorem dX13_remember_81 : decode cX13_remember 81 = .ok (.getfield 286, 3) := by decide +kernel
theorem dX13_remember_84 : decode cX13_remember 84 = .ok (.iload_n 1, 1) := by decide +kernel
theorem dX13_remember_85 : decode cX13_remember 85 = .ok (.iinc 1 1, 3) := by decide +kernel
theorem dX13_remember_88 : decode cX13_remember 88 = .ok (.aload_n 0, 1) := by decide +kernel
theorem dX13_remember_89 : decode cX13_remember 89 = .ok (.getfield 673, 3) := by decide +kernel
theorem dX13_remember_92 : decode cX13_remember 92 = .ok (.iastore, 1) := by decide +kernel
theorem dX13_remember_93 : decode cX13_remember 93 = .ok (.aload_n 0, 1) := by decide +kernel
theorem dX13_remember_94 : decode cX13_remember 94 = .ok (.getfield 286, 3) := by decide +kernel
theorem dX13_remember_97 : decode cX13_remember 97 = .ok (.iload_n 1, 1) := by decide +kernel
theorem dX13_remember_98 : decode cX13_remember 98 = .ok (.iinc 1 1, 3) := by decide +kernel
theorem dX13_rule_0 : decode cX13_rule 0 = .ok (.aload_n 0, 1) := by decide +kernel
theorem dX13_rule_1 : decode cX13_rule 1 = .ok (.iconst 0, 1) := by decide +kernel
theorem dX13_rule_2 : decode cX13_rule 2 = .ok (.putfield 3, 3) := by decide +kernel
theorem dX13_rule_5 : decode cX13_rule 5 = .ok (.aload_n 0, 1) := by decide +kernel
theorem dX13_rule_6 : decode cX13_rule 6 = .ok (.getfield 695, 3) := by decide +kernel
theorem dX13_rule_9 : decode cX13_rule 9 = .ok (.ireturn, 1) := by decide +kernel
theorem dX13_same_0 : decode cX13_same 0 = .ok (.aload_n 0, 1) := by decide +kernel
theorem dX13_same_1 : decode cX13_same 1 = .ok (.iload_n 1, 1) := by decide +kernel
theorem dX13_same_11 : decode cX13_same 11 = .ok (.iload_n 2, 1) := by decide +kernel
theorem dX13_same_12 : decode cX13_same 12 = .ok (.ifCond .lt 9, 3) := by decide +kernel
theorem dX13_same_15 : decode cX13_same 15 = .ok (.iload_n 2, 1) := by decide +kernel
theorem dX13_same_16 : decode cX13_same 16 = .ok (.bipush 7, 2) := by decide +kernel
theorem dX13_same_18 : decode cX13_same 18 = .ok (.if_icmp .le 7, 3) := by decide +kernel
theorem dX13_same_2 : decode cX13_same 2 = .ok (.ifCond .lt 19, 3) := by decide +kernel
theorem dX13_same_21 : decode cX13_same 21 = .ok (.iconst 1, 1) := by decide +kernel
theorem dX13_same_22 : decode cX13_same 22 = .ok (.goto 4, 3) := by decide +kernel
theorem dX13_same_25 : decode cX13_same 25 = .ok (.iconst 0, 1) := by decide +kernel
theorem dX13_same_26 : decode cX13_same 26 = .ok (.putfield 3, 3) := by decide +kernel
theorem dX13_same_29 : decode cX13_same 29 = .ok (.aload_n 0, 1) := by decide +kernel
theorem dX13_same_30 : decode cX13_same 30 = .ok (.getfield 3, 3) := by decide +kernel
theorem dX13_same_33 : decode cX13_same 33 = .ok (.ifCond .ne 18, 3) := by decide +kernel
theorem dX13_same_36 : decode cX13_same 36 = .ok (.aload_n 0, 1) := by decide +kernel
theorem dX13_same_37 : decode cX13_same 37 = .ok (.getfield 467, 3) := by decide +kernel
theorem dX13_same_40 : decode cX13_same 40 = .ok (.iload_n 1, 1) := by decide +kernel
theorem dX13_same_41 : decode cX13_same 41 = .ok (.iaload, 1) := by decide +kernel
theorem dX13_same_42 : decode cX13_same 42 = .ok (.aload_n 0, 1) := by decide +kernel
theorem dX13_same_43 : decode cX13_same 43 = .ok (.getfield 467, 3) := by decide +kernel
theorem dX13_same_46 : decode cX13_same 46 = .ok (.iload_n 2, 1) := by decide +kernel
theorem dX13_same_47 : decode cX13_same 47 = .ok (.iaload, 1) := by decide +kernel
theorem dX13_same_48 : decode cX13_same 48 = .ok (.if_icmp .eq 5, 3) := by decide +kernel
theorem dX13_same_5 : decode cX13_same 5 = .ok (.iload_n 1, 1) := by decide +kernel
theorem dX13_same_51 : decode cX13_same 51 = .ok (.iconst 0, 1) := by decide +kernel
theorem dX13_same_52 : decode cX13_same 52 = .ok (.ireturn, 1) := by decide +kernel
theorem dX13_same_53 : decode cX13_same 53 = .ok (.iconst 0, 1) := by decide +kernel
theorem dX13_same_54 : decode cX13_same 54 = .ok (.istore_n 3, 1) := by decide +kernel
theorem dX13_same_55 : decode cX13_same 55 = .ok (.iload_n 3, 1) := by decide +kernel
theorem dX13_same_56 : decode cX13_same 56 = .ok (.aload_n 0, 1) := by decide +kernel
theorem dX13_same_57 : decode cX13_same 57 = .ok (.getfield 467, 3) := by decide +kernel
theorem dX13_same_6 : decode cX13_same 6 = .ok (.bipush 7, 2) := by decide +kernel
theorem dX13_same_60 : decode cX13_same 60 = .ok (.iload_n 1, 1) := by decide +kernel
theorem dX13_same_61 : decode cX13_same 61 = .ok (.iaload, 1) := by decide +kernel
theorem dX13_same_62 : decode cX13_same 62 = .ok (.if_icmp .ge 36, 3) := by decide +kernel
theorem dX13_same_8 : decode cX13_same 8 = .ok (.if_icmp .gt 13, 3) := by decide +kernel
theorem dX13_same_98 : decode cX13_same 98 = .ok (.iconst 1, 1) := by decide +kernel
theorem dX13_same_99 : decode cX13_same 99 = .ok (.ireturn, 1) := by decide +kernel
theorem dX13_say_0 : decode cX13_say 0 = .ok (.aload_n 0, 1) := by decide +kernel
theorem dX13_say_1 : decode cX13_say 1 = .ok (.iload_n 1, 1) := by decide +kernel
theorem dX13_say_16 : decode cX13_say 16 = .ok (.iconst 0, 1) := by decide +kernel
theorem dX13_say_17 : decode cX13_say 17 = .ok (.ireturn, 1) := by decide +kernel
theorem dX13_say_2 : decode cX13_say 2 = .ok (.invokevirtual 845, 3) := by decide +kernel
theorem dX13_say_5 : decode cX13_say 5 = .ok (.ifCond .ne 11, 3) := by decide +kernel
theorem dX13_show_0 : decode cX13_show 0 = .ok (.aload_n 0, 1) := by decide +kernel
theorem dX13_show_1 : decode cX13_show 1 = .ok (.iload_n 1, 1) := by decide +kernel
theorem dX13_show_10 : decode cX13_show 10 = .ok (.aload_n 0, 1) := by decide +kernel
theorem dX13_show_11 : decode cX13_show 11 = .ok (.iconst 0, 1) := by decide +kernel
theorem dX13_show_12 : decode cX13_show 12 = .ok (.putfield 589, 3) := by decide +kernel
theorem dX13_show_15 : decode cX13_show 15 = .ok (.aload_n 0, 1) := by decide +kernel
theorem dX13_show_16 : decode cX13_show 16 = .ok (.iload_n 1, 1) := by decide +kernel
theorem dX13_show_17 : decode cX13_show 17 = .ok (.invokevirtual 1030, 3) := by decide +kernel
theorem dX13_show_2 : decode cX13_show 2 = .ok (.invokevirtual 1017, 3) := by decide +kernel
theorem dX13_show_20 : decode cX13_show 20 = .ok (.ifCond .ne 5, 3) := by decide +kernel
theorem dX13_show_23 : decode cX13_show 23 = .ok (.iconst (-1), 1) := by decide +kernel
theorem dX13_show_24 : decode cX13_show 24 = .ok (.ireturn, 1) := by decide +kernel
theorem dX13_show_5 : decode cX13_show 5 = .ok (.ifCond .eq 5, 3) := by decide +kernel
theorem dX13_show_8 : decode cX13_show 8 = .ok (.iconst 0, 1) := by decide +kernel
theorem dX13_show_9 : decode cX13_show 9 = .ok (.ireturn, 1) := by decide +kernel
theorem dX13_sounds_0 : decode cX13_sounds 0 = .ok (.aload_n 0, 1) := by decide +kernel
theorem dX13_sounds_1 : decode cX13_sounds 1 = .ok (.iload_n 1, 1) := by decide +kernel
theorem dX13_sounds_2 : decode cX13_sounds 2 = .ok (.invokevirtual 845, 3) := by decide +kernel
theorem dX13_sounds_5 : decode cX13_sounds 5 = .ok (.ifCond .eq 5, 3) := by decide +kernel
theorem dX13_sounds_8 : decode cX13_sounds 8 = .ok (.iconst 0, 1) := by decide +kernel
theorem dX13_sounds_9 : decode cX13_sounds 9 = .ok (.ireturn, 1) := by decide +kernel
theorem dX13_swap_0 : decode cX13_swap 0 = .ok (.aload_n 0, 1) := by decide +kernel
theorem dX13_swap_1 : decode cX13_swap 1 = .ok (.iload_n 1, 1) := by decide +kernel
theorem dX13_swap_2 : decode cX13_swap 2 = .ok (.invokevirtual 845, 3) := by decide +kernel
theorem dX13_swap_24 : decode cX13_swap 24 = .ok (.iconst 0, 1) := by decide +kernel
theorem dX13_swap_25 : decode cX13_swap 25 = .ok (.ireturn, 1) := by decide +kernel
theorem dX13_swap_5 : decode cX13_swap 5 = .ok (.ifCond .ne 19, 3) := by decide +kernel
theorem dX13_takes_0 : decode cX13_takes 0 = .ok (.iconst 0, 1) := by decide +kernel
theorem dX13_takes_1 : decode cX13_takes 1 = .ok (.istore_n 2, 1) := by decide +kernel
theorem dX13_takes_2 : decode cX13_takes 2 = .ok (.iload_n 2, 1) := by decide +kernel
theorem dX13_takes_3 : decode cX13_takes 3 = .ok (.aload_n 0, 1) := by decide +kernel
theorem dX13_takes_35 : decode cX13_takes 35 = .ok (.aload_n 0, 1) := by decide +kernel
theorem dX13_takes_36 : decode cX13_takes 36 = .ok (.aload_n 0, 1) := by decide +kernel
theorem dX13_takes_37 : decode cX13_takes 37 = .ok (.getfield 467, 3) := by decide +kernel
theorem dX13_takes_4 : decode cX13_takes 4 = .ok (.getfield 467, 3) := by decide +kernel
theorem dX13_takes_40 : decode cX13_takes 40 = .ok (.iload_n 1, 1) := by decide +kernel
theorem dX13_takes_41 : decode cX13_takes 41 = .ok (.iaload, 1) := by decide +kernel
theorem dX13_takes_42 : decode cX13_takes 42 = .ok (.putfield 1011, 3) := by decide +kernel
theorem dX13_takes_45 : decode cX13_takes 45 = .ok (.aload_n 0, 1) := by decide +kernel
theorem dX13_takes_46 : decode cX13_takes 46 = .ok (.getfield 1011, 3) := by decide +kernel
theorem dX13_takes_49 : decode cX13_takes 49 = .ok (.ireturn, 1) := by decide +kernel
theorem dX13_takes_7 : decode cX13_takes 7 = .ok (.iload_n 1, 1) := by decide +kernel
theorem dX13_takes_8 : decode cX13_takes 8 = .ok (.iaload, 1) := by decide +kernel
theorem dX13_takes_9 : decode cX13_takes 9 = .ok (.if_icmp .ge 26, 3) := by decide +kernel
theorem dX13_thrown_0 : decode cX13_thrown 0 = .ok (.aload_n 0, 1) := by decide +kernel
theorem dX13_thrown_1 : decode cX13_thrown 1 = .ok (.getfield 3, 3) := by decide +kernel
theorem dX13_thrown_4 : decode cX13_thrown 4 = .ok (.ireturn, 1) := by decide +kernel
theorem dX13_tree_0 : decode cX13_tree 0 = .ok (.aload_n 0, 1) := by decide +kernel
theorem dX13_tree_1 : decode cX13_tree 1 = .ok (.iload_n 1, 1) := by decide +kernel
theorem dX13_tree_10 : decode cX13_tree 10 = .ok (.aload_n 0, 1) := by decide +kernel
theorem dX13_tree_11 : decode cX13_tree 11 = .ok (.invokevirtual 682, 3) := by decide +kernel
theorem dX13_tree_14 : decode cX13_tree 14 = .ok (.aload_n 0, 1) := by decide +kernel
theorem dX13_tree_15 : decode cX13_tree 15 = .ok (.iconst 0, 1) := by decide +kernel
theorem dX13_tree_16 : decode cX13_tree 16 = .ok (.putfield 597, 3) := by decide +kernel
theorem dX13_tree_19 : decode cX13_tree 19 = .ok (.aload_n 0, 1) := by decide +kernel
theorem dX13_tree_2 : decode cX13_tree 2 = .ok (.invokevirtual 1017, 3) := by decide +kernel
theorem dX13_tree_20 : decode cX13_tree 20 = .ok (.invokevirtual 655, 3) := by decide +kernel
theorem dX13_tree_23 : decode cX13_tree 23 = .ok (.aload_n 0, 1) := by decide +kernel
theorem dX13_tree_24 : decode cX13_tree 24 = .ok (.iconst 0, 1) := by decide +kernel
theorem dX13_tree_25 : decode cX13_tree 25 = .ok (.putfield 1011, 3) := by decide +kernel
theorem dX13_tree_28 : decode cX13_tree 28 = .ok (.aload_n 0, 1) := by decide +kernel
theorem dX13_tree_29 : decode cX13_tree 29 = .ok (.iconst (-1), 1) := by decide +kernel
theorem dX13_tree_30 : decode cX13_tree 30 = .ok (.invokevirtual 1020, 3) := by decide +kernel
theorem dX13_tree_33 : decode cX13_tree 33 = .ok (.ifCond .ne 10, 3) := by decide +kernel
theorem dX13_tree_43 : decode cX13_tree 43 = .ok (.iconst (-1), 1) := by decide +kernel
theorem dX13_tree_44 : decode cX13_tree 44 = .ok (.aload_n 0, 1) := by decide +kernel
theorem dX13_tree_45 : decode cX13_tree 45 = .ok (.getfield 609, 3) := by decide +kernel
theorem dX13_tree_48 : decode cX13_tree 48 = .ok (.ifCond .ne 10, 3) := by decide +kernel
theorem dX13_tree_5 : decode cX13_tree 5 = .ok (.ifCond .eq 5, 3) := by decide +kernel
theorem dX13_tree_51 : decode cX13_tree 51 = .ok (.aload_n 0, 1) := by decide +kernel
theorem dX13_tree_52 : decode cX13_tree 52 = .ok (.getfield 586, 3) := by decide +kernel
theorem dX13_tree_55 : decode cX13_tree 55 = .ok (.goto 7, 3) := by decide +kernel
theorem dX13_tree_62 : decode cX13_tree 62 = .ok (.isub, 1) := by decide +kernel
theorem dX13_tree_63 : decode cX13_tree 63 = .ok (.ireturn, 1) := by decide +kernel
theorem dX13_tree_8 : decode cX13_tree 8 = .ok (.iconst 0, 1) := by decide +kernel
theorem dX13_tree_9 : decode cX13_tree 9 = .ok (.ireturn, 1) := by decide +kernel
theorem dX13_trees_0 : decode cX13_trees 0 = .ok (.aload_n 0, 1) := by decide +kernel
theorem dX13_trees_1 : decode cX13_trees 1 = .ok (.iconst 0, 1) := by decide +kernel
theorem dX13_trees_2 : decode cX13_trees 2 = .ok (.putfield 3, 3) := by decide +kernel
theorem dX13_trees_5 : decode cX13_trees 5 = .ok (.aload_n 0, 1) := by decide +kernel
theorem dX13_trees_6 : decode cX13_trees 6 = .ok (.getfield 984, 3) := by decide +kernel
theorem dX13_trees_9 : decode cX13_trees 9 = .ok (.lreturn, 1) := by decide +kernel
theorem dX13_truth_0 : decode cX13_truth 0 = .ok (.aload_n 0, 1) := by decide +kernel
theorem dX13_truth_1 : decode cX13_truth 1 = .ok (.iload_n 1, 1) := by decide +kernel
theorem dX13_truth_10 : decode cX13_truth 10 = .ok (.aload_n 0, 1) := by decide +kernel
theorem dX13_truth_11 : decode cX13_truth 11 = .ok (.iload_n 1, 1) := by decide +kernel
theorem dX13_truth_12 : decode cX13_truth 12 = .ok (.invokevirtual 1030, 3) := by decide +kernel
theorem dX13_truth_15 : decode cX13_truth 15 = .ok (.ifCond .ne 6, 3) := by decide +kernel
theorem dX13_truth_18 : decode cX13_truth 18 = .ok (.bipush (-4), 2) := by decide +kernel
theorem dX13_truth_2 : decode cX13_truth 2 = .ok (.invokevirtual 1017, 3) := by decide +kernel
theorem dX13_truth_20 : decode cX13_truth 20 = .ok (.ireturn, 1) := by decide +kernel
theorem dX13_truth_5 : decode cX13_truth 5 = .ok (.ifCond .eq 5, 3) := by decide +kernel
theorem dX13_truth_8 : decode cX13_truth 8 = .ok (.iconst 0, 1) := by decide +kernel
theorem dX13_truth_9 : decode cX13_truth 9 = .ok (.ireturn, 1) := by decide +kernel
theorem dX13_word_0 : decode cX13_word 0 = .ok (.lconst 0, 1) := by decide +kernel
theorem dX13_word_1 : decode cX13_word 1 = .ok (.lstore_n 1, 1) := by decide +kernel
theorem dX13_word_10 : decode cX13_word 10 = .ok (.lload_n 1, 1) := by decide +kernel
theorem dX13_word_11 : decode cX13_word 11 = .ok (.bipush 8, 2) := by decide +kernel
theorem dX13_word_13 : decode cX13_word 13 = .ok (.lshl, 1) := by decide +kernel
theorem dX13_word_14 : decode cX13_word 14 = .ok (.iload_n 3, 1) := by decide +kernel
theorem dX13_word_15 : decode cX13_word 15 = .ok (.aload_n 0, 1) := by decide +kernel
theorem dX13_word_16 : decode cX13_word 16 = .ok (.invokevirtual 627, 3) := by decide +kernel
theorem dX13_word_19 : decode cX13_word 19 = .ok (.if_icmp .ge 11, 3) := by decide +kernel
theorem dX13_word_2 : decode cX13_word 2 = .ok (.iconst 0, 1) := by decide +kernel
theorem dX13_word_22 : decode cX13_word 22 = .ok (.aload_n 0, 1) := by decide +kernel
theorem dX13_word_23 : decode cX13_word 23 = .ok (.iload_n 3, 1) := by decide +kernel
theorem dX13_word_24 : decode cX13_word 24 = .ok (.invokevirtual 630, 3) := by decide +kernel
theorem dX13_word_27 : decode cX13_word 27 = .ok (.goto 4, 3) := by decide +kernel
theorem dX13_word_3 : decode cX13_word 3 = .ok (.istore_n 3, 1) := by decide +kernel
theorem dX13_word_30 : decode cX13_word 30 = .ok (.iconst 0, 1) := by decide +kernel
theorem dX13_word_31 : decode cX13_word 31 = .ok (.i2l, 1) := by decide +kernel
theorem dX13_word_32 : decode cX13_word 32 = .ok (.lor, 1) := by decide +kernel
theorem dX13_word_33 : decode cX13_word 33 = .ok (.lstore_n 1, 1) := by decide +kernel
theorem dX13_word_34 : decode cX13_word 34 = .ok (.iinc 3 1, 3) := by decide +kernel
theorem dX13_word_37 : decode cX13_word 37 = .ok (.goto (-33), 3) := by decide +kernel
theorem dX13_word_4 : decode cX13_word 4 = .ok (.iload_n 3, 1) := by decide +kernel
theorem dX13_word_40 : decode cX13_word 40 = .ok (.lload_n 1, 1) := by decide +kernel
theorem dX13_word_41 : decode cX13_word 41 = .ok (.lreturn, 1) := by decide +kernel
theorem dX13_word_5 : decode cX13_word 5 = .ok (.bipush 8, 2) := by decide +kernel
theorem dX13_word_7 : decode cX13_word 7 = .ok (.if_icmp .ge 33, 3) := by decide +kernel
theorem dX1_tellAnalysis_0 : decode cX1_tellAnalysis 0 = .ok (.iload_n 1, 1) := by decide +kernel
theorem dX1_tellAnalysis_1 : decode cX1_tellAnalysis 1 = .ok (.ifCond .lt 11, 3) := by decide +kernel
theorem dX1_tellAnalysis_12 : decode cX1_tellAnalysis 12 = .ok (.iconst (-1), 1) := by decide +kernel
theorem dX1_tellAnalysis_13 : decode cX1_tellAnalysis 13 = .ok (.ireturn, 1) := by decide +kernel
theorem dX1_tellAnalysis_4 : decode cX1_tellAnalysis 4 = .ok (.iload_n 1, 1) := by decide +kernel
theorem dX1_tellAnalysis_5 : decode cX1_tellAnalysis 5 = .ok (.aload_n 0, 1) := by decide +kernel
theorem dX1_tellAnalysis_6 : decode cX1_tellAnalysis 6 = .ok (.getfield 53, 3) := by decide +kernel
theorem dX1_tellAnalysis_9 : decode cX1_tellAnalysis 9 = .ok (.if_icmp .lt 5, 3) := by decide +kernel
theorem dX1_tellGuess_0 : decode cX1_tellGuess 0 = .ok (.iload_n 1, 1) := by decide +kernel
theorem dX1_tellGuess_1 : decode cX1_tellGuess 1 = .ok (.ifCond .lt 11, 3) := by decide +kernel
theorem dX1_tellGuess_12 : decode cX1_tellGuess 12 = .ok (.iconst (-1), 1) := by decide +kernel
theorem dX1_tellGuess_13 : decode cX1_tellGuess 13 = .ok (.ireturn, 1) := by decide +kernel
theorem dX1_tellGuess_4 : decode cX1_tellGuess 4 = .ok (.iload_n 1, 1) := by decide +kernel
theorem dX1_tellGuess_5 : decode cX1_tellGuess 5 = .ok (.aload_n 0, 1) := by decide +kernel
theorem dX1_tellGuess_6 : decode cX1_tellGuess 6 = .ok (.getfield 113, 3) := by decide +kernel
theorem dX1_tellGuess_9 : decode cX1_tellGuess 9 = .ok (.if_icmp .lt 5, 3) := by decide +kernel
theorem dX1_tellHit_0 : decode cX1_tellHit 0 = .ok (.iload_n 1, 1) := by decide +kernel
theorem dX1_tellHit_1 : decode cX1_tellHit 1 = .ok (.ifCond .lt 11, 3) := by decide +kernel
theorem dX1_tellHit_12 : decode cX1_tellHit 12 = .ok (.iconst (-1), 1) := by decide +kernel
theorem dX1_tellHit_13 : decode cX1_tellHit 13 = .ok (.ireturn, 1) := by decide +kernel
theorem dX1_tellHit_4 : decode cX1_tellHit 4 = .ok (.iload_n 1, 1) := by decide +kernel
theorem dX1_tellHit_5 : decode cX1_tellHit 5 = .ok (.aload_n 0, 1) := by decide +kernel
theorem dX1_tellHit_6 : decode cX1_tellHit 6 = .ok (.getfield 165, 3) := by decide +kernel
theorem dX1_tellHit_9 : decode cX1_tellHit 9 = .ok (.if_icmp .lt 5, 3) := by decide +kernel
theorem dX5_priceOf_0 : decode cX5_priceOf 0 = .ok (.aload_n 0, 1) := by decide +kernel
theorem dX5_priceOf_1 : decode cX5_priceOf 1 = .ok (.invokevirtual 146, 3) := by decide +kernel
theorem dX5_priceOf_10 : decode cX5_priceOf 10 = .ok (.getfield 68, 3) := by decide +kernel
theorem dX5_priceOf_13 : decode cX5_priceOf 13 = .ok (.if_icmp .ge 12, 3) := by decide +kernel
theorem dX5_priceOf_25 : decode cX5_priceOf 25 = .ok (.iconst (-1), 1) := by decide +kernel
theorem dX5_priceOf_26 : decode cX5_priceOf 26 = .ok (.ireturn, 1) := by decide +kernel
theorem dX5_priceOf_4 : decode cX5_priceOf 4 = .ok (.iload_n 1, 1) := by decide +kernel
theorem dX5_priceOf_5 : decode cX5_priceOf 5 = .ok (.ifCond .lt 20, 3) := by decide +kernel
theorem dX5_priceOf_8 : decode cX5_priceOf 8 = .ok (.iload_n 1, 1) := by decide +kernel
theorem dX5_priceOf_9 : decode cX5_priceOf 9 = .ok (.aload_n 0, 1) := by decide +kernel
theorem dX5_rank_0 : decode cX5_rank 0 = .ok (.aload_n 0, 1) := by decide +kernel
theorem dX5_rank_1 : decode cX5_rank 1 = .ok (.getfield 61, 3) := by decide +kernel
theorem dX5_rank_14 : decode cX5_rank 14 = .ok (.return_, 1) := by decide +kernel
theorem dX5_rank_4 : decode cX5_rank 4 = .ok (.ifCond .eq 10, 3) := by decide +kernel
theorem dX5_spell_0 : decode cX5_spell 0 = .ok (.aload_n 0, 1) := by decide +kernel
theorem dX5_spell_1 : decode cX5_spell 1 = .ok (.invokevirtual 146, 3) := by decide +kernel
theorem dX5_spell_10 : decode cX5_spell 10 = .ok (.getfield 68, 3) := by decide +kernel
theorem dX5_spell_13 : decode cX5_spell 13 = .ok (.if_icmp .lt 5, 3) := by decide +kernel
theorem dX5_spell_16 : decode cX5_spell 16 = .ok (.iconst (-1), 1) := by decide +kernel
theorem dX5_spell_17 : decode cX5_spell 17 = .ok (.ireturn, 1) := by decide +kernel
theorem dX5_spell_4 : decode cX5_spell 4 = .ok (.iload_n 1, 1) := by decide +kernel
theorem dX5_spell_5 : decode cX5_spell 5 = .ok (.ifCond .lt 11, 3) := by decide +kernel
theorem dX5_spell_8 : decode cX5_spell 8 = .ok (.iload_n 1, 1) := by decide +kernel
theorem dX5_spell_9 : decode cX5_spell 9 = .ok (.aload_n 0, 1) := by decide +kernel
theorem dX5_total_0 : decode cX5_total 0 = .ok (.aload_n 0, 1) := by decide +kernel
theorem dX5_total_1 : decode cX5_total 1 = .ok (.getfield 61, 3) := by decide +kernel
theorem dX5_total_4 : decode cX5_total 4 = .ok (.ifCond .ne 5, 3) := by decide +kernel
theorem dX5_total_7 : decode cX5_total 7 = .ok (.lconst 0, 1) := by decide +kernel
theorem dX5_total_8 : decode cX5_total 8 = .ok (.lreturn, 1) := by decide +kernel
theorem dX6_begin_0 : decode cX6_begin 0 = .ok (.aload_n 0, 1) := by decide +kernel
theorem dX6_begin_1 : decode cX6_begin 1 = .ok (.iconst 0, 1) := by decide +kernel
theorem dX6_begin_12 : decode cX6_begin 12 = .ok (.aload_n 0, 1) := by decide +kernel
theorem dX6_begin_13 : decode cX6_begin 13 = .ok (.getfield 43, 3) := by decide +kernel
theorem dX6_begin_16 : decode cX6_begin 16 = .ok (.invokevirtual 56, 3) := by decide +kernel
theorem dX6_begin_19 : decode cX6_begin 19 = .ok (.return_, 1) := by decide +kernel
theorem dX6_begin_2 : decode cX6_begin 2 = .ok (.putfield 47, 3) := by decide +kernel
theorem dX6_begin_5 : decode cX6_begin 5 = .ok (.aload_n 0, 1) := by decide +kernel
theorem dX6_begin_6 : decode cX6_begin 6 = .ok (.getfield 39, 3) := by decide +kernel
theorem dX6_begin_9 : decode cX6_begin 9 = .ok (.invokevirtual 51, 3) := by decide +kernel
theorem dX6_readTree_0 : decode cX6_readTree 0 = .ok (.aload_n 0, 1) := by decide +kernel
theorem dX6_readTree_1 : decode cX6_readTree 1 = .ok (.getfield 43, 3) := by decide +kernel
theorem dX6_readTree_10 : decode cX6_readTree 10 = .ok (.istore_n 3, 1) := by decide +kernel
theorem dX6_readTree_11 : decode cX6_readTree 11 = .ok (.iload_n 2, 1) := by decide +kernel
theorem dX6_readTree_12 : decode cX6_readTree 12 = .ok (.bipush 60, 2) := by decide +kernel
theorem dX6_readTree_14 : decode cX6_readTree 14 = .ok (.if_icmp .ge 192, 3) := by decide +kernel
theorem dX6_readTree_17 : decode cX6_readTree 17 = .ok (.aload_n 0, 1) := by decide +kernel
theorem dX6_readTree_18 : decode cX6_readTree 18 = .ok (.getfield 43, 3) := by decide +kernel
theorem dX6_readTree_206 : decode cX6_readTree 206 = .ok (.iconst (-1), 1) := by decide +kernel
theorem dX6_readTree_207 : decode cX6_readTree 207 = .ok (.aload_n 0, 1) := by decide +kernel
theorem dX6_readTree_208 : decode cX6_readTree 208 = .ok (.getfield 43, 3) := by decide +kernel
theorem dX6_readTree_21 : decode cX6_readTree 21 = .ok (.getfield 67, 3) := by decide +kernel
theorem dX6_readTree_211 : decode cX6_readTree 211 = .ok (.getfield 61, 3) := by decide +kernel
theorem dX6_readTree_214 : decode cX6_readTree 214 = .ok (.isub, 1) := by decide +kernel
theorem dX6_readTree_215 : decode cX6_readTree 215 = .ok (.ireturn, 1) := by decide +kernel
theorem dX6_readTree_24 : decode cX6_readTree 24 = .ok (.iconst 1, 1) := by decide +kernel
theorem dX6_readTree_25 : decode cX6_readTree 25 = .ok (.if_icmp .ne 181, 3) := by decide +kernel
theorem dX6_readTree_4 : decode cX6_readTree 4 = .ok (.invokevirtual 56, 3) := by decide +kernel
theorem dX6_readTree_7 : decode cX6_readTree 7 = .ok (.iconst 0, 1) := by decide +kernel
theorem dX6_readTree_8 : decode cX6_readTree 8 = .ok (.istore_n 2, 1) := by decide +kernel
theorem dX6_readTree_9 : decode cX6_readTree 9 = .ok (.iconst 0, 1) := by decide +kernel
theorem dX8_mark_0 : decode cX8_mark 0 = .ok (.aload_n 0, 1) := by decide +kernel
theorem dX8_mark_1 : decode cX8_mark 1 = .ok (.iconst 0, 1) := by decide +kernel
theorem dX8_mark_10 : decode cX8_mark 10 = .ok (.aload_n 0, 1) := by decide +kernel
theorem dX8_mark_11 : decode cX8_mark 11 = .ok (.getfield 18, 3) := by decide +kernel
theorem dX8_mark_127 : decode cX8_mark 127 = .ok (.aload_n 0, 1) := by decide +kernel
theorem dX8_mark_128 : decode cX8_mark 128 = .ok (.getfield 52, 3) := by decide +kernel
theorem dX8_mark_131 : decode cX8_mark 131 = .ok (.iconst 0, 1) := by decide +kernel
theorem dX8_mark_132 : decode cX8_mark 132 = .ok (.aload_n 0, 1) := by decide +kernel
theorem dX8_mark_133 : decode cX8_mark 133 = .ok (.getfield 72, 3) := by decide +kernel
theorem dX8_mark_136 : decode cX8_mark 136 = .ok (.bipush 63, 2) := by decide +kernel
theorem dX8_mark_138 : decode cX8_mark 138 = .ok (.bipush 96, 2) := by decide +kernel
theorem dX8_mark_14 : decode cX8_mark 14 = .ok (.getfield 82, 3) := by decide +kernel
theorem dX8_mark_140 : decode cX8_mark 140 = .ok (.invokestatic 95, 3) := by decide +kernel
theorem dX8_mark_143 : decode cX8_mark 143 = .ok (.return_, 1) := by decide +kernel
theorem dX8_mark_17 : decode cX8_mark 17 = .ok (.iastore, 1) := by decide +kernel
theorem dX8_mark_18 : decode cX8_mark 18 = .ok (.aload_n 0, 1) := by decide +kernel
theorem dX8_mark_19 : decode cX8_mark 19 = .ok (.getfield 72, 3) := by decide +kernel
theorem dX8_mark_2 : decode cX8_mark 2 = .ok (.putfield 78, 3) := by decide +kernel
theorem dX8_mark_22 : decode cX8_mark 22 = .ok (.iconst 1, 1) := by decide +kernel
theorem dX8_mark_23 : decode cX8_mark 23 = .ok (.aload_n 0, 1) := by decide +kernel
theorem dX8_mark_24 : decode cX8_mark 24 = .ok (.getfield 22, 3) := by decide +kernel
theorem dX8_mark_27 : decode cX8_mark 27 = .ok (.getfield 82, 3) := by decide +kernel
theorem dX8_mark_30 : decode cX8_mark 30 = .ok (.iastore, 1) := by decide +kernel
theorem dX8_mark_31 : decode cX8_mark 31 = .ok (.aload_n 0, 1) := by decide +kernel
theorem dX8_mark_32 : decode cX8_mark 32 = .ok (.getfield 72, 3) := by decide +kernel
theorem dX8_mark_35 : decode cX8_mark 35 = .ok (.iconst 2, 1) := by decide +kernel
theorem dX8_mark_36 : decode cX8_mark 36 = .ok (.aload_n 0, 1) := by decide +kernel
theorem dX8_mark_37 : decode cX8_mark 37 = .ok (.getfield 25, 3) := by decide +kernel
theorem dX8_mark_40 : decode cX8_mark 40 = .ok (.getfield 82, 3) := by decide +kernel
theorem dX8_mark_43 : decode cX8_mark 43 = .ok (.iastore, 1) := by decide +kernel
theorem dX8_mark_44 : decode cX8_mark 44 = .ok (.aload_n 0, 1) := by decide +kernel
theorem dX8_mark_45 : decode cX8_mark 45 = .ok (.getfield 72, 3) := by decide +kernel
theorem dX8_mark_48 : decode cX8_mark 48 = .ok (.iconst 3, 1) := by decide +kernel
theorem dX8_mark_49 : decode cX8_mark 49 = .ok (.aload_n 0, 1) := by decide +kernel
theorem dX8_mark_5 : decode cX8_mark 5 = .ok (.aload_n 0, 1) := by decide +kernel
theorem dX8_mark_50 : decode cX8_mark 50 = .ok (.getfield 28, 3) := by decide +kernel
theorem dX8_mark_53 : decode cX8_mark 53 = .ok (.getfield 82, 3) := by decide +kernel
theorem dX8_mark_56 : decode cX8_mark 56 = .ok (.iastore, 1) := by decide +kernel
theorem dX8_mark_57 : decode cX8_mark 57 = .ok (.aload_n 0, 1) := by decide +kernel
theorem dX8_mark_58 : decode cX8_mark 58 = .ok (.getfield 72, 3) := by decide +kernel
theorem dX8_mark_6 : decode cX8_mark 6 = .ok (.getfield 72, 3) := by decide +kernel
theorem dX8_mark_61 : decode cX8_mark 61 = .ok (.iconst 4, 1) := by decide +kernel
theorem dX8_mark_62 : decode cX8_mark 62 = .ok (.aload_n 0, 1) := by decide +kernel
theorem dX8_mark_63 : decode cX8_mark 63 = .ok (.getfield 85, 3) := by decide +kernel
theorem dX8_mark_66 : decode cX8_mark 66 = .ok (.iastore, 1) := by decide +kernel
theorem dX8_mark_67 : decode cX8_mark 67 = .ok (.aload_n 0, 1) := by decide +kernel
theorem dX8_mark_68 : decode cX8_mark 68 = .ok (.getfield 72, 3) := by decide +kernel
theorem dX8_mark_71 : decode cX8_mark 71 = .ok (.iconst 5, 1) := by decide +kernel
theorem dX8_mark_72 : decode cX8_mark 72 = .ok (.aload_n 0, 1) := by decide +kernel
theorem dX8_mark_73 : decode cX8_mark 73 = .ok (.getfield 88, 3) := by decide +kernel
theorem dX8_mark_76 : decode cX8_mark 76 = .ok (.iastore, 1) := by decide +kernel
theorem dX8_mark_77 : decode cX8_mark 77 = .ok (.aload_n 0, 1) := by decide +kernel
theorem dX8_mark_78 : decode cX8_mark 78 = .ok (.getfield 72, 3) := by decide +kernel
theorem dX8_mark_81 : decode cX8_mark 81 = .ok (.bipush 6, 2) := by decide +kernel
theorem dX8_mark_83 : decode cX8_mark 83 = .ok (.aload_n 0, 1) := by decide +kernel
theorem dX8_mark_84 : decode cX8_mark 84 = .ok (.getfield 35, 3) := by decide +kernel
theorem dX8_mark_87 : decode cX8_mark 87 = .ok (.iastore, 1) := by decide +kernel
theorem dX8_mark_88 : decode cX8_mark 88 = .ok (.iconst 0, 1) := by decide +kernel
theorem dX8_mark_89 : decode cX8_mark 89 = .ok (.istore_n 1, 1) := by decide +kernel
theorem dX8_mark_9 : decode cX8_mark 9 = .ok (.iconst 0, 1) := by decide +kernel
theorem dX8_mark_90 : decode cX8_mark 90 = .ok (.iload_n 1, 1) := by decide +kernel
theorem dX8_mark_91 : decode cX8_mark 91 = .ok (.aload_n 0, 1) := by decide +kernel
theorem dX8_mark_92 : decode cX8_mark 92 = .ok (.getfield 28, 3) := by decide +kernel
theorem dX8_mark_95 : decode cX8_mark 95 = .ok (.getfield 82, 3) := by decide +kernel
theorem dX8_mark_98 : decode cX8_mark 98 = .ok (.if_icmp .ge 29, 3) := by decide +kernel
theorem dX8_sizeOf_0 : decode cX8_sizeOf 0 = .ok (.iload_n 1, 1) := by decide +kernel
theorem dX8_sizeOf_1 : decode cX8_sizeOf 1 = .ok (.tableswitch 63 0 3 #[31, 39, 47, 55], 31) := by decide +kernel
theorem dX8_sizeOf_32 : decode cX8_sizeOf 32 = .ok (.aload_n 0, 1) := by decide +kernel
theorem dX8_sizeOf_33 : decode cX8_sizeOf 33 = .ok (.getfield 28, 3) := by decide +kernel
theorem dX8_sizeOf_36 : decode cX8_sizeOf 36 = .ok (.getfield 82, 3) := by decide +kernel
theorem dX8_sizeOf_39 : decode cX8_sizeOf 39 = .ok (.ireturn, 1) := by decide +kernel
theorem dX8_sizeOf_40 : decode cX8_sizeOf 40 = .ok (.aload_n 0, 1) := by decide +kernel
theorem dX8_sizeOf_41 : decode cX8_sizeOf 41 = .ok (.getfield 18, 3) := by decide +kernel
theorem dX8_sizeOf_44 : decode cX8_sizeOf 44 = .ok (.getfield 82, 3) := by decide +kernel
theorem dX8_sizeOf_47 : decode cX8_sizeOf 47 = .ok (.ireturn, 1) := by decide +kernel
theorem dX8_sizeOf_48 : decode cX8_sizeOf 48 = .ok (.aload_n 0, 1) := by decide +kernel
theorem dX8_sizeOf_49 : decode cX8_sizeOf 49 = .ok (.getfield 22, 3) := by decide +kernel
theorem dX8_sizeOf_52 : decode cX8_sizeOf 52 = .ok (.getfield 82, 3) := by decide +kernel
theorem dX8_sizeOf_55 : decode cX8_sizeOf 55 = .ok (.ireturn, 1) := by decide +kernel
theorem dX8_sizeOf_56 : decode cX8_sizeOf 56 = .ok (.aload_n 0, 1) := by decide +kernel
theorem dX8_sizeOf_57 : decode cX8_sizeOf 57 = .ok (.getfield 25, 3) := by decide +kernel
theorem dX8_sizeOf_60 : decode cX8_sizeOf 60 = .ok (.getfield 82, 3) := by decide +kernel
theorem dX8_sizeOf_63 : decode cX8_sizeOf 63 = .ok (.ireturn, 1) := by decide +kernel
theorem dX8_sizeOf_64 : decode cX8_sizeOf 64 = .ok (.aload_n 0, 1) := by decide +kernel
theorem dX8_sizeOf_65 : decode cX8_sizeOf 65 = .ok (.getfield 85, 3) := by decide +kernel
theorem dX8_sizeOf_68 : decode cX8_sizeOf 68 = .ok (.ireturn, 1) := by decide +kernel
theorem dX9_advance_0 : decode cX9_advance 0 = .ok (.aload_n 0, 1) := by decide +kernel
theorem dX9_advance_1 : decode cX9_advance 1 = .ok (.getfield 49, 3) := by decide +kernel
theorem dX9_advance_10 : decode cX9_advance 10 = .ok (.if_icmp .ge 20, 3) := by decide +kernel
theorem dX9_advance_30 : decode cX9_advance 30 = .ok (.aload_n 0, 1) := by decide +kernel
theorem dX9_advance_31 : decode cX9_advance 31 = .ok (.iload_n 1, 1) := by decide +kernel
theorem dX9_advance_32 : decode cX9_advance 32 = .ok (.putfield 55, 3) := by decide +kernel
theorem dX9_advance_35 : decode cX9_advance 35 = .ok (.iload_n 1, 1) := by decide +kernel
theorem dX9_advance_36 : decode cX9_advance 36 = .ok (.aload_n 0, 1) := by decide +kernel
theorem dX9_advance_37 : decode cX9_advance 37 = .ok (.getfield 22, 3) := by decide +kernel
theorem dX9_advance_4 : decode cX9_advance 4 = .ok (.istore_n 1, 1) := by decide +kernel
theorem dX9_advance_40 : decode cX9_advance 40 = .ok (.if_icmp .lt 25, 3) := by decide +kernel
theorem dX9_advance_43 : decode cX9_advance 43 = .ok (.aload_n 0, 1) := by decide +kernel
theorem dX9_advance_44 : decode cX9_advance 44 = .ok (.iconst 4, 1) := by decide +kernel
theorem dX9_advance_45 : decode cX9_advance 45 = .ok (.putfield 58, 3) := by decide +kernel
theorem dX9_advance_48 : decode cX9_advance 48 = .ok (.aload_n 0, 1) := by decide +kernel
theorem dX9_advance_49 : decode cX9_advance 49 = .ok (.aload_n 0, 1) := by decide +kernel
theorem dX9_advance_5 : decode cX9_advance 5 = .ok (.iload_n 1, 1) := by decide +kernel
theorem dX9_advance_50 : decode cX9_advance 50 = .ok (.getfield 22, 3) := by decide +kernel
theorem dX9_advance_53 : decode cX9_advance 53 = .ok (.putfield 55, 3) := by decide +kernel
theorem dX9_advance_56 : decode cX9_advance 56 = .ok (.aload_n 0, 1) := by decide +kernel
theorem dX9_advance_57 : decode cX9_advance 57 = .ok (.aload_n 0, 1) := by decide +kernel
theorem dX9_advance_58 : decode cX9_advance 58 = .ok (.getfield 22, 3) := by decide +kernel
theorem dX9_advance_6 : decode cX9_advance 6 = .ok (.aload_n 0, 1) := by decide +kernel
theorem dX9_advance_61 : decode cX9_advance 61 = .ok (.putfield 49, 3) := by decide +kernel
theorem dX9_advance_64 : decode cX9_advance 64 = .ok (.return_, 1) := by decide +kernel
theorem dX9_advance_7 : decode cX9_advance 7 = .ok (.getfield 22, 3) := by decide +kernel
theorem dX9_onlyName_0 : decode cX9_onlyName 0 = .ok (.aload_n 0, 1) := by decide +kernel
theorem dX9_onlyName_1 : decode cX9_onlyName 1 = .ok (.invokevirtual 80, 3) := by decide +kernel
theorem dX9_onlyName_12 : decode cX9_onlyName 12 = .ok (.lconst 0, 1) := by decide +kernel
theorem dX9_onlyName_13 : decode cX9_onlyName 13 = .ok (.lreturn, 1) := by decide +kernel
theorem dX9_onlyName_4 : decode cX9_onlyName 4 = .ok (.aload_n 0, 1) := by decide +kernel
theorem dX9_onlyName_5 : decode cX9_onlyName 5 = .ok (.getfield 58, 3) := by decide +kernel
theorem dX9_onlyName_8 : decode cX9_onlyName 8 = .ok (.iconst 1, 1) := by decide +kernel
theorem dX9_onlyName_9 : decode cX9_onlyName 9 = .ok (.if_icmp .eq 5, 3) := by decide +kernel
theorem dX9_putFour_0 : decode cX9_putFour 0 = .ok (.aload_n 0, 1) := by decide +kernel
theorem dX9_putFour_1 : decode cX9_putFour 1 = .ok (.iload_n 1, 1) := by decide +kernel
theorem dX9_putFour_10 : decode cX9_putFour 10 = .ok (.bipush 16, 2) := by decide +kernel
theorem dX9_putFour_12 : decode cX9_putFour 12 = .ok (.ishr, 1) := by decide +kernel
theorem dX9_putFour_13 : decode cX9_putFour 13 = .ok (.invokevirtual 26, 3) := by decide +kernel
theorem dX9_putFour_16 : decode cX9_putFour 16 = .ok (.aload_n 0, 1) := by decide +kernel
theorem dX9_putFour_17 : decode cX9_putFour 17 = .ok (.iload_n 1, 1) := by decide +kernel
theorem dX9_putFour_18 : decode cX9_putFour 18 = .ok (.bipush 8, 2) := by decide +kernel
theorem dX9_putFour_2 : decode cX9_putFour 2 = .ok (.bipush 24, 2) := by decide +kernel
theorem dX9_putFour_20 : decode cX9_putFour 20 = .ok (.ishr, 1) := by decide +kernel
theorem dX9_putFour_21 : decode cX9_putFour 21 = .ok (.invokevirtual 26, 3) := by decide +kernel
theorem dX9_putFour_24 : decode cX9_putFour 24 = .ok (.aload_n 0, 1) := by decide +kernel
theorem dX9_putFour_25 : decode cX9_putFour 25 = .ok (.iload_n 1, 1) := by decide +kernel
theorem dX9_putFour_26 : decode cX9_putFour 26 = .ok (.invokevirtual 26, 3) := by decide +kernel
theorem dX9_putFour_29 : decode cX9_putFour 29 = .ok (.return_, 1) := by decide +kernel
theorem dX9_putFour_4 : decode cX9_putFour 4 = .ok (.ishr, 1) := by decide +kernel
theorem dX9_putFour_5 : decode cX9_putFour 5 = .ok (.invokevirtual 26, 3) := by decide +kernel
theorem dX9_putFour_8 : decode cX9_putFour 8 = .ok (.aload_n 0, 1) := by decide +kernel
theorem dX9_putFour_9 : decode cX9_putFour 9 = .ok (.iload_n 1, 1) := by decide +kernel
theorem dX9_put_0 : decode cX9_put 0 = .ok (.aload_n 0, 1) := by decide +kernel
theorem dX9_put_1 : decode cX9_put 1 = .ok (.getfield 22, 3) := by decide +kernel
theorem dX9_put_10 : decode cX9_put 10 = .ok (.aload_n 0, 1) := by decide +kernel
theorem dX9_put_11 : decode cX9_put 11 = .ok (.getfield 11, 3) := by decide +kernel
theorem dX9_put_14 : decode cX9_put 14 = .ok (.aload_n 0, 1) := by decide +kernel
theorem dX9_put_15 : decode cX9_put 15 = .ok (.dup, 1) := by decide +kernel
theorem dX9_put_16 : decode cX9_put 16 = .ok (.getfield 22, 3) := by decide +kernel
theorem dX9_put_19 : decode cX9_put 19 = .ok (.dup_x1, 1) := by decide +kernel
theorem dX9_put_20 : decode cX9_put 20 = .ok (.iconst 1, 1) := by decide +kernel
theorem dX9_put_21 : decode cX9_put 21 = .ok (.iadd, 1) := by decide +kernel
theorem dX9_put_22 : decode cX9_put 22 = .ok (.putfield 22, 3) := by decide +kernel
theorem dX9_put_25 : decode cX9_put 25 = .ok (.iload_n 1, 1) := by decide +kernel
theorem dX9_put_26 : decode cX9_put 26 = .ok (.i2b, 1) := by decide +kernel
theorem dX9_put_27 : decode cX9_put 27 = .ok (.bastore, 1) := by decide +kernel
theorem dX9_put_28 : decode cX9_put 28 = .ok (.return_, 1) := by decide +kernel
theorem dX9_put_4 : decode cX9_put 4 = .ok (.sipush 1000, 3) := by decide +kernel
theorem dX9_put_7 : decode cX9_put 7 = .ok (.if_icmp .ge 21, 3) := by decide +kernel
theorem dX9_rewind_0 : decode cX9_rewind 0 = .ok (.aload_n 0, 1) := by decide +kernel
theorem dX9_rewind_1 : decode cX9_rewind 1 = .ok (.iconst 0, 1) := by decide +kernel
theorem dX9_rewind_2 : decode cX9_rewind 2 = .ok (.putfield 49, 3) := by decide +kernel
theorem dX9_rewind_5 : decode cX9_rewind 5 = .ok (.aload_n 0, 1) := by decide +kernel
theorem dX9_rewind_6 : decode cX9_rewind 6 = .ok (.invokevirtual 52, 3) := by decide +kernel
theorem dX9_rewind_9 : decode cX9_rewind 9 = .ok (.return_, 1) := by decide +kernel
