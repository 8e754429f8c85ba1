theorem dX9_put_0 : decode cX9_put 0 = .ok (.aload_n 0, 1) := by decide +kernel
theorem dX9_put_1 : decode cX9_put 1 = .ok (.getfield 22, 3) := by decide +kernel
theorem dX9_put_4 : decode cX9_put 4 = .ok (.sipush 1000, 3) := by decide +kernel
theorem dX9_put_7 : decode cX9_put 7 = .ok (.if_icmp .ge 21, 3) := by decide +kernel
theorem dX9_put_10 : decode cX9_put 10 = .ok (.aload_n 0, 1) := by decide +kernel
theorem dX9_put_11 : decode cX9_put 11 = .ok (.getfield 11, 3) := by decide +kernel
theorem dX9_put_14 : decode cX9_put 14 = .ok (.aload_n 0, 1) := by decide +kernel
theorem dX9_put_15 : decode cX9_put 15 = .ok (.dup, 1) := by decide +kernel
theorem dX9_put_16 : decode cX9_put 16 = .ok (.getfield 22, 3) := by decide +kernel
theorem dX9_put_19 : decode cX9_put 19 = .ok (.dup_x1, 1) := by decide +kernel
theorem dX9_put_20 : decode cX9_put 20 = .ok (.iconst 1, 1) := by decide +kernel
theorem dX9_put_21 : decode cX9_put 21 = .ok (.iadd, 1) := by decide +kernel
theorem dX9_put_22 : decode cX9_put 22 = .ok (.putfield 22, 3) := by decide +kernel
theorem dX9_put_25 : decode cX9_put 25 = .ok (.iload_n 1, 1) := by decide +kernel
theorem dX9_put_26 : decode cX9_put 26 = .ok (.i2b, 1) := by decide +kernel
theorem dX9_put_27 : decode cX9_put 27 = .ok (.bastore, 1) := by decide +kernel
theorem dX9_put_28 : decode cX9_put 28 = .ok (.return_, 1) := by decide +kernel
set_option maxRecDepth 20000 in
theorem ggX9_putFour_X9_put : GoodIn wsX9_putFour wsX9_put := goodIn_r _ [5, 6, 7, 8, 9, 10, 11, 12, 13, 14, 15, 16, 17] (by decide +kernel) (by decide +kernel)
set_option maxRecDepth 20000 in
theorem gX9_putFour_X9_put : GoodIn wsX9_putFour (wsV RX9 26 RX9 yX9_put wsX9_put) := goodIn_app (goodIn_of _ (by decide +kernel)) ggX9_putFour_X9_put
theorem dX9_putFour_0 : decode cX9_putFour 0 = .ok (.aload_n 0, 1) := by decide +kernel
theorem dX9_putFour_1 : decode cX9_putFour 1 = .ok (.iload_n 1, 1) := by decide +kernel
theorem dX9_putFour_2 : decode cX9_putFour 2 = .ok (.bipush 24, 2) := by decide +kernel
theorem dX9_putFour_4 : decode cX9_putFour 4 = .ok (.ishr, 1) := by decide +kernel
theorem dX9_putFour_5 : decode cX9_putFour 5 = .ok (.invokevirtual 26, 3) := by decide +kernel
theorem dX9_putFour_8 : decode cX9_putFour 8 = .ok (.aload_n 0, 1) := by decide +kernel
theorem dX9_putFour_9 : decode cX9_putFour 9 = .ok (.iload_n 1, 1) := by decide +kernel
theorem dX9_putFour_10 : decode cX9_putFour 10 = .ok (.bipush 16, 2) := by decide +kernel
theorem dX9_putFour_12 : decode cX9_putFour 12 = .ok (.ishr, 1) := by decide +kernel
theorem dX9_putFour_13 : decode cX9_putFour 13 = .ok (.invokevirtual 26, 3) := by decide +kernel
theorem dX9_putFour_16 : decode cX9_putFour 16 = .ok (.aload_n 0, 1) := by decide +kernel
theorem dX9_putFour_17 : decode cX9_putFour 17 = .ok (.iload_n 1, 1) := by decide +kernel
theorem dX9_putFour_18 : decode cX9_putFour 18 = .ok (.bipush 8, 2) := by decide +kernel
theorem dX9_putFour_20 : decode cX9_putFour 20 = .ok (.ishr, 1) := by decide +kernel
theorem dX9_putFour_21 : decode cX9_putFour 21 = .ok (.invokevirtual 26, 3) := by decide +kernel
theorem dX9_putFour_24 : decode cX9_putFour 24 = .ok (.aload_n 0, 1) := by decide +kernel
theorem dX9_putFour_25 : decode cX9_putFour 25 = .ok (.iload_n 1, 1) := by decide +kernel
theorem dX9_putFour_26 : decode cX9_putFour 26 = .ok (.invokevirtual 26, 3) := by decide +kernel
theorem dX9_putFour_29 : decode cX9_putFour 29 = .ok (.return_, 1) := by decide +kernel
set_option maxRecDepth 20000 in
theorem ggX12_feed_X9_putFour : GoodIn wsX12_feed wsX9_putFour := goodIn_r _ [9, 10, 11, 12, 8, 13, 14, 15, 33, 34, 35, 36, 37, 38, 39, 40, 41, 42] (by decide +kernel) (by decide +kernel)
set_option maxRecDepth 20000 in
theorem gX12_feed_X9_putFour : GoodIn wsX12_feed (wsV RX12 111 RX9 yX9_putFour wsX9_putFour) := goodIn_app (goodIn_of _ (by decide +kernel)) ggX12_feed_X9_putFour
theorem dX12_feed_0 : decode cX12_feed 0 = .ok (.aload_n 0, 1) := by decide +kernel
theorem dX12_feed_1 : decode cX12_feed 1 = .ok (.getfield 19, 3) := by decide +kernel
theorem dX12_feed_4 : decode cX12_feed 4 = .ok (.getfield 100, 3) := by decide +kernel
theorem dX12_feed_7 : decode cX12_feed 7 = .ok (.bipush 20, 2) := by decide +kernel
theorem dX12_feed_9 : decode cX12_feed 9 = .ok (.iadd, 1) := by decide +kernel
theorem dX12_feed_10 : decode cX12_feed 10 = .ok (.sipush 1000, 3) := by decide +kernel
theorem dX12_feed_13 : decode cX12_feed 13 = .ok (.if_icmp .le 13, 3) := by decide +kernel
theorem dX12_feed_16 : decode cX12_feed 16 = .ok (.new 104, 3) := by decide +kernel
theorem dX12_feed_19 : decode cX12_feed 19 = .ok (.dup, 1) := by decide +kernel
theorem dX12_feed_20 : decode cX12_feed 20 = .ok (.ldc 106, 2) := by decide +kernel
theorem dX12_feed_22 : decode cX12_feed 22 = .ok (.invokespecial 108, 3) := by decide +kernel
theorem dX12_feed_25 : decode cX12_feed 25 = .ok (.athrow, 1) := by decide +kernel
theorem dX12_feed_26 : decode cX12_feed 26 = .ok (.aload_n 0, 1) := by decide +kernel
theorem dX12_feed_27 : decode cX12_feed 27 = .ok (.getfield 19, 3) := by decide +kernel
theorem dX12_feed_30 : decode cX12_feed 30 = .ok (.iload_n 1, 1) := by decide +kernel
theorem dX12_feed_31 : decode cX12_feed 31 = .ok (.invokevirtual 111, 3) := by decide +kernel
theorem dX12_feed_34 : decode cX12_feed 34 = .ok (.aload_n 0, 1) := by decide +kernel
theorem dX12_feed_35 : decode cX12_feed 35 = .ok (.getfield 19, 3) := by decide +kernel
theorem dX12_feed_38 : decode cX12_feed 38 = .ok (.iload_n 2, 1) := by decide +kernel
theorem dX12_feed_39 : decode cX12_feed 39 = .ok (.invokevirtual 111, 3) := by decide +kernel
theorem dX12_feed_42 : decode cX12_feed 42 = .ok (.aload_n 0, 1) := by decide +kernel
theorem dX12_feed_43 : decode cX12_feed 43 = .ok (.getfield 19, 3) := by decide +kernel
theorem dX12_feed_46 : decode cX12_feed 46 = .ok (.iload_n 3, 1) := by decide +kernel
theorem dX12_feed_47 : decode cX12_feed 47 = .ok (.invokevirtual 111, 3) := by decide +kernel
theorem dX12_feed_50 : decode cX12_feed 50 = .ok (.aload_n 0, 1) := by decide +kernel
theorem dX12_feed_51 : decode cX12_feed 51 = .ok (.getfield 19, 3) := by decide +kernel
theorem dX12_feed_54 : decode cX12_feed 54 = .ok (.iload 4, 2) := by decide +kernel
theorem dX12_feed_56 : decode cX12_feed 56 = .ok (.invokevirtual 111, 3) := by decide +kernel
theorem dX12_feed_59 : decode cX12_feed 59 = .ok (.aload_n 0, 1) := by decide +kernel
theorem dX12_feed_60 : decode cX12_feed 60 = .ok (.getfield 19, 3) := by decide +kernel
theorem dX12_feed_63 : decode cX12_feed 63 = .ok (.iload 5, 2) := by decide +kernel
theorem dX12_feed_65 : decode cX12_feed 65 = .ok (.invokevirtual 111, 3) := by decide +kernel
theorem dX12_feed_68 : decode cX12_feed 68 = .ok (.aload_n 0, 1) := by decide +kernel
theorem dX12_feed_69 : decode cX12_feed 69 = .ok (.getfield 19, 3) := by decide +kernel
theorem dX12_feed_72 : decode cX12_feed 72 = .ok (.getfield 100, 3) := by decide +kernel
theorem dX12_feed_75 : decode cX12_feed 75 = .ok (.ireturn, 1) := by decide +kernel
theorem dX12_end_0 : decode cX12_end 0 = .ok (.iload_n 1, 1) := by decide +kernel
theorem dX12_end_1 : decode cX12_end 1 = .ok (.ifCond .lt 14, 3) := by decide +kernel
theorem dX12_end_4 : decode cX12_end 4 = .ok (.iload_n 1, 1) := by decide +kernel
theorem dX12_end_5 : decode cX12_end 5 = .ok (.aload_n 0, 1) := by decide +kernel
theorem dX12_end_6 : decode cX12_end 6 = .ok (.getfield 19, 3) := by decide +kernel
theorem dX12_end_9 : decode cX12_end 9 = .ok (.getfield 100, 3) := by decide +kernel
theorem dX12_end_12 : decode cX12_end 12 = .ok (.if_icmp .le 13, 3) := by decide +kernel
theorem dX12_end_15 : decode cX12_end 15 = .ok (.new 115, 3) := by decide +kernel
theorem dX12_end_18 : decode cX12_end 18 = .ok (.dup, 1) := by decide +kernel
theorem dX12_end_19 : decode cX12_end 19 = .ok (.ldc 117, 2) := by decide +kernel
theorem dX12_end_21 : decode cX12_end 21 = .ok (.invokespecial 119, 3) := by decide +kernel
theorem dX12_end_24 : decode cX12_end 24 = .ok (.athrow, 1) := by decide +kernel
theorem dX12_end_25 : decode cX12_end 25 = .ok (.aload_n 0, 1) := by decide +kernel
theorem dX12_end_26 : decode cX12_end 26 = .ok (.getfield 19, 3) := by decide +kernel
theorem dX12_end_29 : decode cX12_end 29 = .ok (.iload_n 1, 1) := by decide +kernel
theorem dX12_end_30 : decode cX12_end 30 = .ok (.putfield 100, 3) := by decide +kernel
theorem dX12_end_33 : decode cX12_end 33 = .ok (.iload_n 1, 1) := by decide +kernel
theorem dX12_end_34 : decode cX12_end 34 = .ok (.ireturn, 1) := by decide +kernel
theorem dX12_rule_0 : decode cX12_rule 0 = .ok (.aload_n 0, 1) := by decide +kernel
theorem dX12_rule_1 : decode cX12_rule 1 = .ok (.getfield 37, 3) := by decide +kernel
theorem dX12_rule_4 : decode cX12_rule 4 = .ok (.getfield 136, 3) := by decide +kernel
theorem dX12_rule_7 : decode cX12_rule 7 = .ok (.ireturn, 1) := by decide +kernel
theorem dX12_out_0 : decode cX12_out 0 = .ok (.iload_n 1, 1) := by decide +kernel
theorem dX12_out_1 : decode cX12_out 1 = .ok (.ifCond .lt 30, 3) := by decide +kernel
theorem dX12_out_4 : decode cX12_out 4 = .ok (.iload_n 1, 1) := by decide +kernel
theorem dX12_out_5 : decode cX12_out 5 = .ok (.aload_n 0, 1) := by decide +kernel
theorem dX12_out_6 : decode cX12_out 6 = .ok (.getfield 23, 3) := by decide +kernel
theorem dX12_out_9 : decode cX12_out 9 = .ok (.getfield 100, 3) := by decide +kernel
theorem dX12_out_12 : decode cX12_out 12 = .ok (.if_icmp .ge 19, 3) := by decide +kernel
theorem dX12_out_15 : decode cX12_out 15 = .ok (.aload_n 0, 1) := by decide +kernel
theorem dX12_out_16 : decode cX12_out 16 = .ok (.getfield 23, 3) := by decide +kernel
theorem dX12_out_19 : decode cX12_out 19 = .ok (.getfield 139, 3) := by decide +kernel
theorem dX12_out_22 : decode cX12_out 22 = .ok (.iload_n 1, 1) := by decide +kernel
theorem dX12_out_23 : decode cX12_out 23 = .ok (.baload, 1) := by decide +kernel
theorem dX12_out_24 : decode cX12_out 24 = .ok (.sipush 255, 3) := by decide +kernel
theorem dX12_out_27 : decode cX12_out 27 = .ok (.iand, 1) := by decide +kernel
theorem dX12_out_28 : decode cX12_out 28 = .ok (.goto 4, 3) := by decide +kernel
theorem dX12_out_31 : decode cX12_out 31 = .ok (.iconst (-1), 1) := by decide +kernel
theorem dX12_out_32 : decode cX12_out 32 = .ok (.ireturn, 1) := by decide +kernel
theorem dX12_tongueAt_0 : decode cX12_tongueAt 0 = .ok (.iload_n 1, 1) := by decide +kernel
theorem dX12_tongueAt_1 : decode cX12_tongueAt 1 = .ok (.ifCond .lt 29, 3) := by decide +kernel
theorem dX12_tongueAt_4 : decode cX12_tongueAt 4 = .ok (.iload_n 1, 1) := by decide +kernel
theorem dX12_tongueAt_5 : decode cX12_tongueAt 5 = .ok (.aload_n 0, 1) := by decide +kernel
theorem dX12_tongueAt_6 : decode cX12_tongueAt 6 = .ok (.getfield 12, 3) := by decide +kernel
theorem dX12_tongueAt_9 : decode cX12_tongueAt 9 = .ok (.getfield 149, 3) := by decide +kernel
theorem dX12_tongueAt_12 : decode cX12_tongueAt 12 = .ok (.getfield 239, 3) := by decide +kernel
theorem dX12_tongueAt_15 : decode cX12_tongueAt 15 = .ok (.if_icmp .ge 15, 3) := by decide +kernel
theorem dX12_tongueAt_18 : decode cX12_tongueAt 18 = .ok (.aload_n 0, 1) := by decide +kernel
theorem dX12_tongueAt_19 : decode cX12_tongueAt 19 = .ok (.getfield 12, 3) := by decide +kernel
theorem dX12_tongueAt_22 : decode cX12_tongueAt 22 = .ok (.getfield 356, 3) := by decide +kernel
theorem dX12_tongueAt_25 : decode cX12_tongueAt 25 = .ok (.iload_n 1, 1) := by decide +kernel
theorem dX12_tongueAt_26 : decode cX12_tongueAt 26 = .ok (.aaload, 1) := by decide +kernel
theorem dX12_tongueAt_27 : decode cX12_tongueAt 27 = .ok (.ifnonnull 14, 3) := by decide +kernel
theorem dX12_tongueAt_30 : decode cX12_tongueAt 30 = .ok (.new 115, 3) := by decide +kernel
theorem dX12_tongueAt_33 : decode cX12_tongueAt 33 = .ok (.dup, 1) := by decide +kernel
theorem dX12_tongueAt_34 : decode cX12_tongueAt 34 = .ok (.ldc_w 360, 3) := by decide +kernel
theorem dX12_tongueAt_37 : decode cX12_tongueAt 37 = .ok (.invokespecial 119, 3) := by decide +kernel
theorem dX12_tongueAt_40 : decode cX12_tongueAt 40 = .ok (.athrow, 1) := by decide +kernel
theorem dX12_tongueAt_41 : decode cX12_tongueAt 41 = .ok (.aload_n 0, 1) := by decide +kernel
theorem dX12_tongueAt_42 : decode cX12_tongueAt 42 = .ok (.getfield 12, 3) := by decide +kernel
theorem dX12_tongueAt_45 : decode cX12_tongueAt 45 = .ok (.getfield 356, 3) := by decide +kernel
theorem dX12_tongueAt_48 : decode cX12_tongueAt 48 = .ok (.iload_n 1, 1) := by decide +kernel
theorem dX12_tongueAt_49 : decode cX12_tongueAt 49 = .ok (.aaload, 1) := by decide +kernel
theorem dX12_tongueAt_50 : decode cX12_tongueAt 50 = .ok (.areturn, 1) := by decide +kernel
theorem dX12_checkKind_0 : decode cX12_checkKind 0 = .ok (.iload_n 1, 1) := by decide +kernel
theorem dX12_checkKind_1 : decode cX12_checkKind 1 = .ok (.ifCond .lt 17, 3) := by decide +kernel
theorem dX12_checkKind_4 : decode cX12_checkKind 4 = .ok (.iload_n 1, 1) := by decide +kernel
theorem dX12_checkKind_5 : decode cX12_checkKind 5 = .ok (.aload_n 0, 1) := by decide +kernel
theorem dX12_checkKind_6 : decode cX12_checkKind 6 = .ok (.getfield 12, 3) := by decide +kernel
theorem dX12_checkKind_9 : decode cX12_checkKind 9 = .ok (.getfield 145, 3) := by decide +kernel
theorem dX12_checkKind_12 : decode cX12_checkKind 12 = .ok (.getfield 239, 3) := by decide +kernel
theorem dX12_checkKind_15 : decode cX12_checkKind 15 = .ok (.if_icmp .lt 14, 3) := by decide +kernel
theorem dX12_checkKind_18 : decode cX12_checkKind 18 = .ok (.new 115, 3) := by decide +kernel
theorem dX12_checkKind_21 : decode cX12_checkKind 21 = .ok (.dup, 1) := by decide +kernel
theorem dX12_checkKind_22 : decode cX12_checkKind 22 = .ok (.ldc_w 362, 3) := by decide +kernel
theorem dX12_checkKind_25 : decode cX12_checkKind 25 = .ok (.invokespecial 119, 3) := by decide +kernel
theorem dX12_checkKind_28 : decode cX12_checkKind 28 = .ok (.athrow, 1) := by decide +kernel
theorem dX12_checkKind_29 : decode cX12_checkKind 29 = .ok (.return_, 1) := by decide +kernel
theorem dX12_checkPlace_0 : decode cX12_checkPlace 0 = .ok (.iload_n 0, 1) := by decide +kernel
theorem dX12_checkPlace_1 : decode cX12_checkPlace 1 = .ok (.ifCond .lt 9, 3) := by decide +kernel
theorem dX12_checkPlace_4 : decode cX12_checkPlace 4 = .ok (.iload_n 0, 1) := by decide +kernel
theorem dX12_checkPlace_5 : decode cX12_checkPlace 5 = .ok (.bipush 8, 2) := by decide +kernel
theorem dX12_checkPlace_7 : decode cX12_checkPlace 7 = .ok (.if_icmp .lt 14, 3) := by decide +kernel
theorem dX12_checkPlace_10 : decode cX12_checkPlace 10 = .ok (.new 115, 3) := by decide +kernel
theorem dX12_checkPlace_13 : decode cX12_checkPlace 13 = .ok (.dup, 1) := by decide +kernel
theorem dX12_checkPlace_14 : decode cX12_checkPlace 14 = .ok (.ldc_w 364, 3) := by decide +kernel
theorem dX12_checkPlace_17 : decode cX12_checkPlace 17 = .ok (.invokespecial 119, 3) := by decide +kernel
theorem dX12_checkPlace_20 : decode cX12_checkPlace 20 = .ok (.athrow, 1) := by decide +kernel
theorem dX12_checkPlace_21 : decode cX12_checkPlace 21 = .ok (.return_, 1) := by decide +kernel
