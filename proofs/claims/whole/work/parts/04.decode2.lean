theorem dX5_plannedFirst_12 : decode cX5_plannedFirst 12 = .ok (.iaload, 1) := by decide +kernel
theorem dX5_plannedFirst_13 : decode cX5_plannedFirst 13 = .ok (.goto 4, 3) := by decide +kernel
theorem dX5_plannedFirst_16 : decode cX5_plannedFirst 16 = .ok (.iconst (-1), 1) := by decide +kernel
theorem dX5_plannedFirst_17 : decode cX5_plannedFirst 17 = .ok (.ireturn, 1) := by decide +kernel
theorem dX5_plannedDepth_0 : decode cX5_plannedDepth 0 = .ok (.iload_n 1, 1) := by decide +kernel
theorem dX5_plannedDepth_1 : decode cX5_plannedDepth 1 = .ok (.invokestatic 70, 3) := by decide +kernel
theorem dX5_plannedDepth_4 : decode cX5_plannedDepth 4 = .ok (.ifCond .eq 12, 3) := by decide +kernel
theorem dX5_plannedDepth_7 : decode cX5_plannedDepth 7 = .ok (.aload_n 0, 1) := by decide +kernel
theorem dX5_plannedDepth_8 : decode cX5_plannedDepth 8 = .ok (.getfield 24, 3) := by decide +kernel
theorem dX5_plannedDepth_11 : decode cX5_plannedDepth 11 = .ok (.iload_n 1, 1) := by decide +kernel
theorem dX5_plannedDepth_12 : decode cX5_plannedDepth 12 = .ok (.iaload, 1) := by decide +kernel
theorem dX5_plannedDepth_13 : decode cX5_plannedDepth 13 = .ok (.goto 4, 3) := by decide +kernel
theorem dX5_plannedDepth_16 : decode cX5_plannedDepth 16 = .ok (.iconst 0, 1) := by decide +kernel
theorem dX5_plannedDepth_17 : decode cX5_plannedDepth 17 = .ok (.ireturn, 1) := by decide +kernel
theorem dX5_weightOf_0 : decode cX5_weightOf 0 = .ok (.iconst 0, 1) := by decide +kernel
theorem dX5_weightOf_1 : decode cX5_weightOf 1 = .ok (.istore_n 2, 1) := by decide +kernel
theorem dX5_weightOf_2 : decode cX5_weightOf 2 = .ok (.iconst 0, 1) := by decide +kernel
theorem dX5_weightOf_3 : decode cX5_weightOf 3 = .ok (.istore_n 3, 1) := by decide +kernel
theorem dX5_weightOf_4 : decode cX5_weightOf 4 = .ok (.iload_n 3, 1) := by decide +kernel
theorem dX5_weightOf_5 : decode cX5_weightOf 5 = .ok (.aload_n 0, 1) := by decide +kernel
theorem dX5_weightOf_6 : decode cX5_weightOf 6 = .ok (.getfield 11, 3) := by decide +kernel
theorem dX5_weightOf_9 : decode cX5_weightOf 9 = .ok (.arraylength, 1) := by decide +kernel
theorem dX5_weightOf_10 : decode cX5_weightOf 10 = .ok (.if_icmp .ge 30, 3) := by decide +kernel
theorem dX5_weightOf_13 : decode cX5_weightOf 13 = .ok (.iload_n 2, 1) := by decide +kernel
theorem dX5_weightOf_14 : decode cX5_weightOf 14 = .ok (.iload_n 1, 1) := by decide +kernel
theorem dX5_weightOf_15 : decode cX5_weightOf 15 = .ok (.iload_n 3, 1) := by decide +kernel
theorem dX5_weightOf_16 : decode cX5_weightOf 16 = .ok (.invokestatic 62, 3) := by decide +kernel
theorem dX5_weightOf_19 : decode cX5_weightOf 19 = .ok (.ifCond .eq 12, 3) := by decide +kernel
theorem dX5_weightOf_22 : decode cX5_weightOf 22 = .ok (.aload_n 0, 1) := by decide +kernel
theorem dX5_weightOf_23 : decode cX5_weightOf 23 = .ok (.getfield 11, 3) := by decide +kernel
theorem dX5_weightOf_26 : decode cX5_weightOf 26 = .ok (.iload_n 3, 1) := by decide +kernel
theorem dX5_weightOf_27 : decode cX5_weightOf 27 = .ok (.iaload, 1) := by decide +kernel
theorem dX5_weightOf_28 : decode cX5_weightOf 28 = .ok (.goto 4, 3) := by decide +kernel
theorem dX5_weightOf_31 : decode cX5_weightOf 31 = .ok (.iconst 0, 1) := by decide +kernel
theorem dX5_weightOf_32 : decode cX5_weightOf 32 = .ok (.iadd, 1) := by decide +kernel
theorem dX5_weightOf_33 : decode cX5_weightOf 33 = .ok (.istore_n 2, 1) := by decide +kernel
theorem dX5_weightOf_34 : decode cX5_weightOf 34 = .ok (.iinc 3 1, 3) := by decide +kernel
theorem dX5_weightOf_37 : decode cX5_weightOf 37 = .ok (.goto (-33), 3) := by decide +kernel
theorem dX5_weightOf_40 : decode cX5_weightOf 40 = .ok (.iload_n 2, 1) := by decide +kernel
theorem dX5_weightOf_41 : decode cX5_weightOf 41 = .ok (.ireturn, 1) := by decide +kernel
theorem dX5_yesSetOf_0 : decode cX5_yesSetOf 0 = .ok (.iload_n 1, 1) := by decide +kernel
theorem dX5_yesSetOf_1 : decode cX5_yesSetOf 1 = .ok (.ifCond .lt 21, 3) := by decide +kernel
theorem dX5_yesSetOf_4 : decode cX5_yesSetOf 4 = .ok (.iload_n 1, 1) := by decide +kernel
theorem dX5_yesSetOf_5 : decode cX5_yesSetOf 5 = .ok (.aload_n 0, 1) := by decide +kernel
theorem dX5_yesSetOf_6 : decode cX5_yesSetOf 6 = .ok (.getfield 15, 3) := by decide +kernel
theorem dX5_yesSetOf_9 : decode cX5_yesSetOf 9 = .ok (.arraylength, 1) := by decide +kernel
theorem dX5_yesSetOf_10 : decode cX5_yesSetOf 10 = .ok (.if_icmp .ge 12, 3) := by decide +kernel
theorem dX5_yesSetOf_13 : decode cX5_yesSetOf 13 = .ok (.aload_n 0, 1) := by decide +kernel
theorem dX5_yesSetOf_14 : decode cX5_yesSetOf 14 = .ok (.getfield 15, 3) := by decide +kernel
theorem dX5_yesSetOf_17 : decode cX5_yesSetOf 17 = .ok (.iload_n 1, 1) := by decide +kernel
theorem dX5_yesSetOf_18 : decode cX5_yesSetOf 18 = .ok (.iaload, 1) := by decide +kernel
theorem dX5_yesSetOf_19 : decode cX5_yesSetOf 19 = .ok (.goto 4, 3) := by decide +kernel
theorem dX5_yesSetOf_22 : decode cX5_yesSetOf 22 = .ok (.iconst 0, 1) := by decide +kernel
theorem dX5_yesSetOf_23 : decode cX5_yesSetOf 23 = .ok (.ireturn, 1) := by decide +kernel
theorem dX5_isSet_0 : decode cX5_isSet 0 = .ok (.iload_n 0, 1) := by decide +kernel
theorem dX5_isSet_1 : decode cX5_isSet 1 = .ok (.ifCond .lt 14, 3) := by decide +kernel
theorem dX5_isSet_4 : decode cX5_isSet 4 = .ok (.iload_n 0, 1) := by decide +kernel
theorem dX5_isSet_5 : decode cX5_isSet 5 = .ok (.sipush 256, 3) := by decide +kernel
theorem dX5_isSet_8 : decode cX5_isSet 8 = .ok (.if_icmp .ge 7, 3) := by decide +kernel
theorem dX5_isSet_11 : decode cX5_isSet 11 = .ok (.iconst 1, 1) := by decide +kernel
theorem dX5_isSet_12 : decode cX5_isSet 12 = .ok (.goto 4, 3) := by decide +kernel
theorem dX5_isSet_15 : decode cX5_isSet 15 = .ok (.iconst 0, 1) := by decide +kernel
theorem dX5_isSet_16 : decode cX5_isSet 16 = .ok (.ireturn, 1) := by decide +kernel
theorem dX6_init_0 : decode cX6_init 0 = .ok (.aload_n 0, 1) := by decide +kernel
theorem dX6_init_1 : decode cX6_init 1 = .ok (.invokespecial 3, 3) := by decide +kernel
theorem dX6_init_4 : decode cX6_init 4 = .ok (.aload_n 0, 1) := by decide +kernel
theorem dX6_init_5 : decode cX6_init 5 = .ok (.bipush 72, 2) := by decide +kernel
theorem dX6_init_7 : decode cX6_init 7 = .ok (.newarray .int, 2) := by decide +kernel
theorem dX6_init_9 : decode cX6_init 9 = .ok (.putfield 9, 3) := by decide +kernel
theorem dX6_init_12 : decode cX6_init 12 = .ok (.aload_n 0, 1) := by decide +kernel
theorem dX6_init_13 : decode cX6_init 13 = .ok (.bipush 96, 2) := by decide +kernel
theorem dX6_init_15 : decode cX6_init 15 = .ok (.newarray .int, 2) := by decide +kernel
theorem dX6_init_17 : decode cX6_init 17 = .ok (.putfield 15, 3) := by decide +kernel
theorem dX6_init_20 : decode cX6_init 20 = .ok (.aload_n 0, 1) := by decide +kernel
theorem dX6_init_21 : decode cX6_init 21 = .ok (.iconst 3, 1) := by decide +kernel
theorem dX6_init_22 : decode cX6_init 22 = .ok (.newarray .int, 2) := by decide +kernel
theorem dX6_init_24 : decode cX6_init 24 = .ok (.putfield 18, 3) := by decide +kernel
theorem dX6_init_27 : decode cX6_init 27 = .ok (.aload_n 0, 1) := by decide +kernel
theorem dX6_init_28 : decode cX6_init 28 = .ok (.bipush 72, 2) := by decide +kernel
theorem dX6_init_30 : decode cX6_init 30 = .ok (.newarray .long, 2) := by decide +kernel
theorem dX6_init_32 : decode cX6_init 32 = .ok (.putfield 21, 3) := by decide +kernel
theorem dX6_init_35 : decode cX6_init 35 = .ok (.aload_n 0, 1) := by decide +kernel
theorem dX6_init_36 : decode cX6_init 36 = .ok (.bipush 96, 2) := by decide +kernel
theorem dX6_init_38 : decode cX6_init 38 = .ok (.newarray .int, 2) := by decide +kernel
theorem dX6_init_40 : decode cX6_init 40 = .ok (.putfield 25, 3) := by decide +kernel
theorem dX6_init_43 : decode cX6_init 43 = .ok (.aload_n 0, 1) := by decide +kernel
theorem dX6_init_44 : decode cX6_init 44 = .ok (.invokevirtual 28, 3) := by decide +kernel
theorem dX6_init_47 : decode cX6_init 47 = .ok (.return_, 1) := by decide +kernel
theorem dX6_rounds_0 : decode cX6_rounds 0 = .ok (.aload_n 0, 1) := by decide +kernel
theorem dX6_rounds_1 : decode cX6_rounds 1 = .ok (.getfield 31, 3) := by decide +kernel
theorem dX6_rounds_4 : decode cX6_rounds 4 = .ok (.ireturn, 1) := by decide +kernel
theorem dX6_oddsOf_0 : decode cX6_oddsOf 0 = .ok (.iload_n 1, 1) := by decide +kernel
theorem dX6_oddsOf_1 : decode cX6_oddsOf 1 = .ok (.iload_n 2, 1) := by decide +kernel
theorem dX6_oddsOf_2 : decode cX6_oddsOf 2 = .ok (.invokestatic 35, 3) := by decide +kernel
theorem dX6_oddsOf_5 : decode cX6_oddsOf 5 = .ok (.ifCond .eq 16, 3) := by decide +kernel
theorem dX6_oddsOf_8 : decode cX6_oddsOf 8 = .ok (.aload_n 0, 1) := by decide +kernel
theorem dX6_oddsOf_9 : decode cX6_oddsOf 9 = .ok (.getfield 9, 3) := by decide +kernel
theorem dX6_oddsOf_12 : decode cX6_oddsOf 12 = .ok (.iload_n 1, 1) := by decide +kernel
theorem dX6_oddsOf_13 : decode cX6_oddsOf 13 = .ok (.iconst 3, 1) := by decide +kernel
theorem dX6_oddsOf_14 : decode cX6_oddsOf 14 = .ok (.imul, 1) := by decide +kernel
theorem dX6_oddsOf_15 : decode cX6_oddsOf 15 = .ok (.iload_n 2, 1) := by decide +kernel
theorem dX6_oddsOf_16 : decode cX6_oddsOf 16 = .ok (.iadd, 1) := by decide +kernel
theorem dX6_oddsOf_17 : decode cX6_oddsOf 17 = .ok (.iaload, 1) := by decide +kernel
theorem dX6_oddsOf_18 : decode cX6_oddsOf 18 = .ok (.goto 4, 3) := by decide +kernel
theorem dX6_oddsOf_21 : decode cX6_oddsOf 21 = .ok (.iconst 0, 1) := by decide +kernel
theorem dX6_oddsOf_22 : decode cX6_oddsOf 22 = .ok (.ireturn, 1) := by decide +kernel
theorem dX6_greatestOddsOf_0 : decode cX6_greatestOddsOf 0 = .ok (.iload_n 1, 1) := by decide +kernel
theorem dX6_greatestOddsOf_1 : decode cX6_greatestOddsOf 1 = .ok (.iconst 2, 1) := by decide +kernel
theorem dX6_greatestOddsOf_2 : decode cX6_greatestOddsOf 2 = .ok (.invokestatic 35, 3) := by decide +kernel
theorem dX6_greatestOddsOf_5 : decode cX6_greatestOddsOf 5 = .ok (.ifCond .ne 5, 3) := by decide +kernel
theorem dX6_greatestOddsOf_8 : decode cX6_greatestOddsOf 8 = .ok (.iconst 0, 1) := by decide +kernel
theorem dX6_greatestOddsOf_9 : decode cX6_greatestOddsOf 9 = .ok (.ireturn, 1) := by decide +kernel
theorem dX6_greatestOddsOf_10 : decode cX6_greatestOddsOf 10 = .ok (.iload_n 1, 1) := by decide +kernel
theorem dX6_greatestOddsOf_11 : decode cX6_greatestOddsOf 11 = .ok (.iconst 3, 1) := by decide +kernel
theorem dX6_greatestOddsOf_12 : decode cX6_greatestOddsOf 12 = .ok (.imul, 1) := by decide +kernel
theorem dX6_greatestOddsOf_13 : decode cX6_greatestOddsOf 13 = .ok (.istore_n 2, 1) := by decide +kernel
theorem dX6_greatestOddsOf_14 : decode cX6_greatestOddsOf 14 = .ok (.aload_n 0, 1) := by decide +kernel
theorem dX6_greatestOddsOf_15 : decode cX6_greatestOddsOf 15 = .ok (.getfield 9, 3) := by decide +kernel
theorem dX6_greatestOddsOf_18 : decode cX6_greatestOddsOf 18 = .ok (.iload_n 2, 1) := by decide +kernel
theorem dX6_greatestOddsOf_19 : decode cX6_greatestOddsOf 19 = .ok (.iconst 0, 1) := by decide +kernel
theorem dX6_greatestOddsOf_20 : decode cX6_greatestOddsOf 20 = .ok (.iadd, 1) := by decide +kernel
theorem dX6_greatestOddsOf_21 : decode cX6_greatestOddsOf 21 = .ok (.iaload, 1) := by decide +kernel
theorem dX6_greatestOddsOf_22 : decode cX6_greatestOddsOf 22 = .ok (.aload_n 0, 1) := by decide +kernel
theorem dX6_greatestOddsOf_23 : decode cX6_greatestOddsOf 23 = .ok (.getfield 9, 3) := by decide +kernel
theorem dX6_greatestOddsOf_26 : decode cX6_greatestOddsOf 26 = .ok (.iload_n 2, 1) := by decide +kernel
theorem dX6_greatestOddsOf_27 : decode cX6_greatestOddsOf 27 = .ok (.iconst 1, 1) := by decide +kernel
theorem dX6_greatestOddsOf_28 : decode cX6_greatestOddsOf 28 = .ok (.iadd, 1) := by decide +kernel
theorem dX6_greatestOddsOf_29 : decode cX6_greatestOddsOf 29 = .ok (.iaload, 1) := by decide +kernel
theorem dX6_greatestOddsOf_30 : decode cX6_greatestOddsOf 30 = .ok (.aload_n 0, 1) := by decide +kernel
theorem dX6_greatestOddsOf_31 : decode cX6_greatestOddsOf 31 = .ok (.getfield 9, 3) := by decide +kernel
theorem dX6_greatestOddsOf_34 : decode cX6_greatestOddsOf 34 = .ok (.iload_n 2, 1) := by decide +kernel
theorem dX6_greatestOddsOf_35 : decode cX6_greatestOddsOf 35 = .ok (.iconst 2, 1) := by decide +kernel
theorem dX6_greatestOddsOf_36 : decode cX6_greatestOddsOf 36 = .ok (.iadd, 1) := by decide +kernel
theorem dX6_greatestOddsOf_37 : decode cX6_greatestOddsOf 37 = .ok (.iaload, 1) := by decide +kernel
theorem dX6_greatestOddsOf_38 : decode cX6_greatestOddsOf 38 = .ok (.invokestatic 39, 3) := by decide +kernel
theorem dX6_greatestOddsOf_41 : decode cX6_greatestOddsOf 41 = .ok (.invokestatic 39, 3) := by decide +kernel
theorem dX6_greatestOddsOf_44 : decode cX6_greatestOddsOf 44 = .ok (.ireturn, 1) := by decide +kernel
theorem dX6_tableOf_0 : decode cX6_tableOf 0 = .ok (.iload_n 1, 1) := by decide +kernel
theorem dX6_tableOf_1 : decode cX6_tableOf 1 = .ok (.iload_n 2, 1) := by decide +kernel
theorem dX6_tableOf_2 : decode cX6_tableOf 2 = .ok (.iload_n 3, 1) := by decide +kernel
theorem dX6_tableOf_3 : decode cX6_tableOf 3 = .ok (.invokestatic 45, 3) := by decide +kernel
theorem dX6_tableOf_6 : decode cX6_tableOf 6 = .ok (.ifCond .eq 17, 3) := by decide +kernel
theorem dX6_tableOf_9 : decode cX6_tableOf 9 = .ok (.aload_n 0, 1) := by decide +kernel
theorem dX6_tableOf_10 : decode cX6_tableOf 10 = .ok (.getfield 15, 3) := by decide +kernel
theorem dX6_tableOf_13 : decode cX6_tableOf 13 = .ok (.iload_n 1, 1) := by decide +kernel
theorem dX6_tableOf_14 : decode cX6_tableOf 14 = .ok (.iload_n 2, 1) := by decide +kernel
theorem dX6_tableOf_15 : decode cX6_tableOf 15 = .ok (.iload_n 3, 1) := by decide +kernel
theorem dX6_tableOf_16 : decode cX6_tableOf 16 = .ok (.invokestatic 49, 3) := by decide +kernel
theorem dX6_tableOf_19 : decode cX6_tableOf 19 = .ok (.iaload, 1) := by decide +kernel
theorem dX6_tableOf_20 : decode cX6_tableOf 20 = .ok (.goto 4, 3) := by decide +kernel
theorem dX6_tableOf_23 : decode cX6_tableOf 23 = .ok (.iconst 0, 1) := by decide +kernel
theorem dX6_tableOf_24 : decode cX6_tableOf 24 = .ok (.ireturn, 1) := by decide +kernel
theorem dX6_skyOf_0 : decode cX6_skyOf 0 = .ok (.iload_n 1, 1) := by decide +kernel
theorem dX6_skyOf_1 : decode cX6_skyOf 1 = .ok (.ifCond .lt 21, 3) := by decide +kernel
theorem dX6_skyOf_4 : decode cX6_skyOf 4 = .ok (.iload_n 1, 1) := by decide +kernel
theorem dX6_skyOf_5 : decode cX6_skyOf 5 = .ok (.aload_n 0, 1) := by decide +kernel
theorem dX6_skyOf_6 : decode cX6_skyOf 6 = .ok (.getfield 18, 3) := by decide +kernel
theorem dX6_skyOf_9 : decode cX6_skyOf 9 = .ok (.arraylength, 1) := by decide +kernel
theorem dX6_skyOf_10 : decode cX6_skyOf 10 = .ok (.if_icmp .ge 12, 3) := by decide +kernel
theorem dX6_skyOf_13 : decode cX6_skyOf 13 = .ok (.aload_n 0, 1) := by decide +kernel
theorem dX6_skyOf_14 : decode cX6_skyOf 14 = .ok (.getfield 18, 3) := by decide +kernel
theorem dX6_skyOf_17 : decode cX6_skyOf 17 = .ok (.iload_n 1, 1) := by decide +kernel
theorem dX6_skyOf_18 : decode cX6_skyOf 18 = .ok (.iaload, 1) := by decide +kernel
theorem dX6_skyOf_19 : decode cX6_skyOf 19 = .ok (.goto 4, 3) := by decide +kernel
theorem dX6_skyOf_22 : decode cX6_skyOf 22 = .ok (.iconst 0, 1) := by decide +kernel
theorem dX6_skyOf_23 : decode cX6_skyOf 23 = .ok (.ireturn, 1) := by decide +kernel
theorem dX6_settle_0 : decode cX6_settle 0 = .ok (.aload_n 0, 1) := by decide +kernel
theorem dX6_settle_1 : decode cX6_settle 1 = .ok (.invokevirtual 28, 3) := by decide +kernel
theorem dX6_settle_4 : decode cX6_settle 4 = .ok (.iconst 1, 1) := by decide +kernel
theorem dX6_settle_5 : decode cX6_settle 5 = .ok (.istore_n 3, 1) := by decide +kernel
theorem dX6_settle_6 : decode cX6_settle 6 = .ok (.iload_n 3, 1) := by decide +kernel
theorem dX6_settle_7 : decode cX6_settle 7 = .ok (.bipush 40, 2) := by decide +kernel
theorem dX6_settle_9 : decode cX6_settle 9 = .ok (.if_icmp .gt 47, 3) := by decide +kernel
theorem dX6_settle_12 : decode cX6_settle 12 = .ok (.aload_n 0, 1) := by decide +kernel
theorem dX6_settle_13 : decode cX6_settle 13 = .ok (.iload_n 3, 1) := by decide +kernel
theorem dX6_settle_14 : decode cX6_settle 14 = .ok (.putfield 31, 3) := by decide +kernel
theorem dX6_settle_17 : decode cX6_settle 17 = .ok (.aload_n 0, 1) := by decide +kernel
theorem dX6_settle_18 : decode cX6_settle 18 = .ok (.iconst 0, 1) := by decide +kernel
theorem dX6_settle_19 : decode cX6_settle 19 = .ok (.putfield 53, 3) := by decide +kernel
theorem dX6_settle_22 : decode cX6_settle 22 = .ok (.aload_n 0, 1) := by decide +kernel
theorem dX6_settle_23 : decode cX6_settle 23 = .ok (.aload_n 1, 1) := by decide +kernel
theorem dX6_settle_24 : decode cX6_settle 24 = .ok (.aload_n 2, 1) := by decide +kernel
theorem dX6_settle_25 : decode cX6_settle 25 = .ok (.invokevirtual 57, 3) := by decide +kernel
theorem dX6_settle_28 : decode cX6_settle 28 = .ok (.aload_n 0, 1) := by decide +kernel
theorem dX6_settle_29 : decode cX6_settle 29 = .ok (.aload_n 2, 1) := by decide +kernel
theorem dX6_settle_30 : decode cX6_settle 30 = .ok (.invokevirtual 61, 3) := by decide +kernel
theorem dX6_settle_33 : decode cX6_settle 33 = .ok (.aload_n 0, 1) := by decide +kernel
theorem dX6_settle_34 : decode cX6_settle 34 = .ok (.aload_n 1, 1) := by decide +kernel
theorem dX6_settle_35 : decode cX6_settle 35 = .ok (.invokevirtual 65, 3) := by decide +kernel
theorem dX6_settle_38 : decode cX6_settle 38 = .ok (.invokevirtual 71, 3) := by decide +kernel
theorem dX6_settle_41 : decode cX6_settle 41 = .ok (.aload_n 0, 1) := by decide +kernel
theorem dX6_settle_42 : decode cX6_settle 42 = .ok (.getfield 53, 3) := by decide +kernel
theorem dX6_settle_45 : decode cX6_settle 45 = .ok (.ifCond .ne 5, 3) := by decide +kernel
theorem dX6_settle_48 : decode cX6_settle 48 = .ok (.iload_n 3, 1) := by decide +kernel
theorem dX6_settle_49 : decode cX6_settle 49 = .ok (.ireturn, 1) := by decide +kernel
theorem dX6_settle_50 : decode cX6_settle 50 = .ok (.iinc 3 1, 3) := by decide +kernel
theorem dX6_settle_53 : decode cX6_settle 53 = .ok (.goto (-47), 3) := by decide +kernel
theorem dX6_settle_56 : decode cX6_settle 56 = .ok (.bipush (-41), 2) := by decide +kernel
theorem dX6_settle_58 : decode cX6_settle 58 = .ok (.ireturn, 1) := by decide +kernel
theorem dX6_begin_0 : decode cX6_begin 0 = .ok (.iconst 0, 1) := by decide +kernel
theorem dX6_begin_1 : decode cX6_begin 1 = .ok (.istore_n 1, 1) := by decide +kernel
theorem dX6_begin_2 : decode cX6_begin 2 = .ok (.iload_n 1, 1) := by decide +kernel
theorem dX6_begin_3 : decode cX6_begin 3 = .ok (.aload_n 0, 1) := by decide +kernel
theorem dX6_begin_4 : decode cX6_begin 4 = .ok (.getfield 9, 3) := by decide +kernel
theorem dX6_begin_7 : decode cX6_begin 7 = .ok (.arraylength, 1) := by decide +kernel
theorem dX6_begin_8 : decode cX6_begin 8 = .ok (.if_icmp .ge 30, 3) := by decide +kernel
theorem dX6_begin_11 : decode cX6_begin 11 = .ok (.aload_n 0, 1) := by decide +kernel
theorem dX6_begin_12 : decode cX6_begin 12 = .ok (.getfield 9, 3) := by decide +kernel
theorem dX6_begin_15 : decode cX6_begin 15 = .ok (.iload_n 1, 1) := by decide +kernel
theorem dX6_begin_16 : decode cX6_begin 16 = .ok (.iload_n 1, 1) := by decide +kernel
theorem dX6_begin_17 : decode cX6_begin 17 = .ok (.iconst 3, 1) := by decide +kernel
theorem dX6_begin_18 : decode cX6_begin 18 = .ok (.irem, 1) := by decide +kernel
theorem dX6_begin_19 : decode cX6_begin 19 = .ok (.ifCond .ne 9, 3) := by decide +kernel
theorem dX6_begin_22 : decode cX6_begin 22 = .ok (.sipush 334, 3) := by decide +kernel
theorem dX6_begin_25 : decode cX6_begin 25 = .ok (.goto 6, 3) := by decide +kernel
theorem dX6_begin_28 : decode cX6_begin 28 = .ok (.sipush 333, 3) := by decide +kernel
theorem dX6_begin_31 : decode cX6_begin 31 = .ok (.iastore, 1) := by decide +kernel
theorem dX6_begin_32 : decode cX6_begin 32 = .ok (.iinc 1 1, 3) := by decide +kernel
theorem dX6_begin_35 : decode cX6_begin 35 = .ok (.goto (-33), 3) := by decide +kernel
theorem dX6_begin_38 : decode cX6_begin 38 = .ok (.iconst 0, 1) := by decide +kernel
theorem dX6_begin_39 : decode cX6_begin 39 = .ok (.istore_n 1, 1) := by decide +kernel
theorem dX6_begin_40 : decode cX6_begin 40 = .ok (.iload_n 1, 1) := by decide +kernel
theorem dX6_begin_41 : decode cX6_begin 41 = .ok (.aload_n 0, 1) := by decide +kernel
theorem dX6_begin_42 : decode cX6_begin 42 = .ok (.getfield 15, 3) := by decide +kernel
theorem dX6_begin_45 : decode cX6_begin 45 = .ok (.arraylength, 1) := by decide +kernel
theorem dX6_begin_46 : decode cX6_begin 46 = .ok (.if_icmp .ge 33, 3) := by decide +kernel
theorem dX6_begin_49 : decode cX6_begin 49 = .ok (.aload_n 0, 1) := by decide +kernel
theorem dX6_begin_50 : decode cX6_begin 50 = .ok (.getfield 15, 3) := by decide +kernel
theorem dX6_begin_53 : decode cX6_begin 53 = .ok (.iload_n 1, 1) := by decide +kernel
theorem dX6_begin_54 : decode cX6_begin 54 = .ok (.iload_n 1, 1) := by decide +kernel
theorem dX6_begin_55 : decode cX6_begin 55 = .ok (.iconst 4, 1) := by decide +kernel
theorem dX6_begin_56 : decode cX6_begin 56 = .ok (.idiv, 1) := by decide +kernel
theorem dX6_begin_57 : decode cX6_begin 57 = .ok (.iconst 3, 1) := by decide +kernel
theorem dX6_begin_58 : decode cX6_begin 58 = .ok (.irem, 1) := by decide +kernel
theorem dX6_begin_59 : decode cX6_begin 59 = .ok (.iload_n 1, 1) := by decide +kernel
theorem dX6_begin_60 : decode cX6_begin 60 = .ok (.iconst 4, 1) := by decide +kernel
theorem dX6_begin_61 : decode cX6_begin 61 = .ok (.irem, 1) := by decide +kernel
theorem dX6_begin_62 : decode cX6_begin 62 = .ok (.if_icmp .ne 8, 3) := by decide +kernel
theorem dX6_begin_65 : decode cX6_begin 65 = .ok (.bipush 70, 2) := by decide +kernel
theorem dX6_begin_67 : decode cX6_begin 67 = .ok (.goto 5, 3) := by decide +kernel
theorem dX6_begin_70 : decode cX6_begin 70 = .ok (.bipush 10, 2) := by decide +kernel
theorem dX6_begin_72 : decode cX6_begin 72 = .ok (.iastore, 1) := by decide +kernel
theorem dX6_begin_73 : decode cX6_begin 73 = .ok (.iinc 1 1, 3) := by decide +kernel
theorem dX6_begin_76 : decode cX6_begin 76 = .ok (.goto (-36), 3) := by decide +kernel
theorem dX6_begin_79 : decode cX6_begin 79 = .ok (.iconst 0, 1) := by decide +kernel
theorem dX6_begin_80 : decode cX6_begin 80 = .ok (.istore_n 1, 1) := by decide +kernel
theorem dX6_begin_81 : decode cX6_begin 81 = .ok (.iload_n 1, 1) := by decide +kernel
theorem dX6_begin_82 : decode cX6_begin 82 = .ok (.aload_n 0, 1) := by decide +kernel
theorem dX6_begin_83 : decode cX6_begin 83 = .ok (.getfield 18, 3) := by decide +kernel
theorem dX6_begin_86 : decode cX6_begin 86 = .ok (.arraylength, 1) := by decide +kernel
theorem dX6_begin_87 : decode cX6_begin 87 = .ok (.if_icmp .ge 28, 3) := by decide +kernel
theorem dX6_begin_90 : decode cX6_begin 90 = .ok (.aload_n 0, 1) := by decide +kernel
theorem dX6_begin_91 : decode cX6_begin 91 = .ok (.getfield 18, 3) := by decide +kernel
theorem dX6_begin_94 : decode cX6_begin 94 = .ok (.iload_n 1, 1) := by decide +kernel
theorem dX6_begin_95 : decode cX6_begin 95 = .ok (.iload_n 1, 1) := by decide +kernel
theorem dX6_begin_96 : decode cX6_begin 96 = .ok (.ifCond .ne 9, 3) := by decide +kernel
theorem dX6_begin_99 : decode cX6_begin 99 = .ok (.sipush 334, 3) := by decide +kernel
theorem dX6_begin_102 : decode cX6_begin 102 = .ok (.goto 6, 3) := by decide +kernel
theorem dX6_begin_105 : decode cX6_begin 105 = .ok (.sipush 333, 3) := by decide +kernel
theorem dX6_begin_108 : decode cX6_begin 108 = .ok (.iastore, 1) := by decide +kernel
theorem dX6_begin_109 : decode cX6_begin 109 = .ok (.iinc 1 1, 3) := by decide +kernel
theorem dX6_begin_112 : decode cX6_begin 112 = .ok (.goto (-31), 3) := by decide +kernel
theorem dX6_begin_115 : decode cX6_begin 115 = .ok (.return_, 1) := by decide +kernel
theorem dX6_findOdds_0 : decode cX6_findOdds 0 = .ok (.iconst 0, 1) := by decide +kernel
theorem dX6_findOdds_1 : decode cX6_findOdds 1 = .ok (.istore_n 3, 1) := by decide +kernel
theorem dX6_findOdds_2 : decode cX6_findOdds 2 = .ok (.iload_n 3, 1) := by decide +kernel
theorem dX6_findOdds_3 : decode cX6_findOdds 3 = .ok (.aload_n 0, 1) := by decide +kernel
theorem dX6_findOdds_4 : decode cX6_findOdds 4 = .ok (.getfield 21, 3) := by decide +kernel
theorem dX6_findOdds_7 : decode cX6_findOdds 7 = .ok (.arraylength, 1) := by decide +kernel
theorem dX6_findOdds_8 : decode cX6_findOdds 8 = .ok (.if_icmp .ge 23, 3) := by decide +kernel
theorem dX6_findOdds_11 : decode cX6_findOdds 11 = .ok (.aload_n 0, 1) := by decide +kernel
theorem dX6_findOdds_12 : decode cX6_findOdds 12 = .ok (.getfield 21, 3) := by decide +kernel
theorem dX6_findOdds_15 : decode cX6_findOdds 15 = .ok (.iload_n 3, 1) := by decide +kernel
theorem dX6_findOdds_16 : decode cX6_findOdds 16 = .ok (.aload_n 0, 1) := by decide +kernel
theorem dX6_findOdds_17 : decode cX6_findOdds 17 = .ok (.iload_n 3, 1) := by decide +kernel
theorem dX6_findOdds_18 : decode cX6_findOdds 18 = .ok (.iconst 3, 1) := by decide +kernel
theorem dX6_findOdds_19 : decode cX6_findOdds 19 = .ok (.irem, 1) := by decide +kernel
theorem dX6_findOdds_20 : decode cX6_findOdds 20 = .ok (.invokevirtual 75, 3) := by decide +kernel
theorem dX6_findOdds_23 : decode cX6_findOdds 23 = .ok (.i2l, 1) := by decide +kernel
theorem dX6_findOdds_24 : decode cX6_findOdds 24 = .ok (.lastore, 1) := by decide +kernel
theorem dX6_findOdds_25 : decode cX6_findOdds 25 = .ok (.iinc 3 1, 3) := by decide +kernel
theorem dX6_findOdds_28 : decode cX6_findOdds 28 = .ok (.goto (-26), 3) := by decide +kernel
theorem dX6_findOdds_31 : decode cX6_findOdds 31 = .ok (.iconst 0, 1) := by decide +kernel
theorem dX6_findOdds_32 : decode cX6_findOdds 32 = .ok (.istore_n 3, 1) := by decide +kernel
theorem dX6_findOdds_33 : decode cX6_findOdds 33 = .ok (.iload_n 3, 1) := by decide +kernel
theorem dX6_findOdds_34 : decode cX6_findOdds 34 = .ok (.aload_n 2, 1) := by decide +kernel
theorem dX6_findOdds_35 : decode cX6_findOdds 35 = .ok (.invokevirtual 79, 3) := by decide +kernel
theorem dX6_findOdds_38 : decode cX6_findOdds 38 = .ok (.if_icmp .ge 36, 3) := by decide +kernel
theorem dX6_findOdds_41 : decode cX6_findOdds 41 = .ok (.aload_n 2, 1) := by decide +kernel
theorem dX6_findOdds_42 : decode cX6_findOdds 42 = .ok (.iload_n 3, 1) := by decide +kernel
theorem dX6_findOdds_43 : decode cX6_findOdds 43 = .ok (.invokevirtual 82, 3) := by decide +kernel
theorem dX6_findOdds_46 : decode cX6_findOdds 46 = .ok (.ifCond .eq 22, 3) := by decide +kernel
theorem dX6_findOdds_49 : decode cX6_findOdds 49 = .ok (.aload_n 0, 1) := by decide +kernel
theorem dX6_findOdds_50 : decode cX6_findOdds 50 = .ok (.aload_n 2, 1) := by decide +kernel
theorem dX6_findOdds_51 : decode cX6_findOdds 51 = .ok (.iload_n 3, 1) := by decide +kernel
theorem dX6_findOdds_52 : decode cX6_findOdds 52 = .ok (.invokevirtual 86, 3) := by decide +kernel
theorem dX6_findOdds_55 : decode cX6_findOdds 55 = .ok (.aload_n 2, 1) := by decide +kernel
theorem dX6_findOdds_56 : decode cX6_findOdds 56 = .ok (.iload_n 3, 1) := by decide +kernel
theorem dX6_findOdds_57 : decode cX6_findOdds 57 = .ok (.invokevirtual 89, 3) := by decide +kernel
theorem dX6_findOdds_60 : decode cX6_findOdds 60 = .ok (.aload_n 2, 1) := by decide +kernel
theorem dX6_findOdds_61 : decode cX6_findOdds 61 = .ok (.iload_n 3, 1) := by decide +kernel
theorem dX6_findOdds_62 : decode cX6_findOdds 62 = .ok (.invokevirtual 92, 3) := by decide +kernel
theorem dX6_findOdds_65 : decode cX6_findOdds 65 = .ok (.invokevirtual 95, 3) := by decide +kernel
theorem dX6_findOdds_68 : decode cX6_findOdds 68 = .ok (.iinc 3 1, 3) := by decide +kernel
theorem dX6_findOdds_71 : decode cX6_findOdds 71 = .ok (.goto (-38), 3) := by decide +kernel
theorem dX6_findOdds_74 : decode cX6_findOdds 74 = .ok (.iconst 0, 1) := by decide +kernel
theorem dX6_findOdds_75 : decode cX6_findOdds 75 = .ok (.istore_n 3, 1) := by decide +kernel
theorem dX6_findOdds_76 : decode cX6_findOdds 76 = .ok (.iload_n 3, 1) := by decide +kernel
theorem dX6_findOdds_77 : decode cX6_findOdds 77 = .ok (.aload_n 1, 1) := by decide +kernel
theorem dX6_findOdds_78 : decode cX6_findOdds 78 = .ok (.invokevirtual 65, 3) := by decide +kernel
theorem dX6_findOdds_81 : decode cX6_findOdds 81 = .ok (.if_icmp .ge 35, 3) := by decide +kernel
theorem dX6_findOdds_84 : decode cX6_findOdds 84 = .ok (.aload_n 1, 1) := by decide +kernel
theorem dX6_findOdds_85 : decode cX6_findOdds 85 = .ok (.iload_n 3, 1) := by decide +kernel
theorem dX6_findOdds_86 : decode cX6_findOdds 86 = .ok (.invokevirtual 99, 3) := by decide +kernel
theorem dX6_findOdds_89 : decode cX6_findOdds 89 = .ok (.ifCond .eq 16, 3) := by decide +kernel
theorem dX6_findOdds_92 : decode cX6_findOdds 92 = .ok (.aload_n 0, 1) := by decide +kernel
theorem dX6_findOdds_93 : decode cX6_findOdds 93 = .ok (.iload_n 3, 1) := by decide +kernel
theorem dX6_findOdds_94 : decode cX6_findOdds 94 = .ok (.aload_n 1, 1) := by decide +kernel
theorem dX6_findOdds_95 : decode cX6_findOdds 95 = .ok (.iload_n 3, 1) := by decide +kernel
theorem dX6_findOdds_96 : decode cX6_findOdds 96 = .ok (.invokevirtual 102, 3) := by decide +kernel
theorem dX6_findOdds_99 : decode cX6_findOdds 99 = .ok (.invokevirtual 105, 3) := by decide +kernel
theorem dX6_findOdds_102 : decode cX6_findOdds 102 = .ok (.goto 8, 3) := by decide +kernel
theorem dX6_findOdds_105 : decode cX6_findOdds 105 = .ok (.aload_n 0, 1) := by decide +kernel
theorem dX6_findOdds_106 : decode cX6_findOdds 106 = .ok (.iload_n 3, 1) := by decide +kernel
theorem dX6_findOdds_107 : decode cX6_findOdds 107 = .ok (.invokevirtual 109, 3) := by decide +kernel
theorem dX6_findOdds_110 : decode cX6_findOdds 110 = .ok (.iinc 3 1, 3) := by decide +kernel
theorem dX6_findOdds_113 : decode cX6_findOdds 113 = .ok (.goto (-37), 3) := by decide +kernel
theorem dX6_findOdds_116 : decode cX6_findOdds 116 = .ok (.return_, 1) := by decide +kernel
theorem dX6_weigh_0 : decode cX6_weigh 0 = .ok (.iconst 0, 1) := by decide +kernel
theorem dX6_weigh_1 : decode cX6_weigh 1 = .ok (.istore 4, 2) := by decide +kernel
theorem dX6_weigh_3 : decode cX6_weigh 3 = .ok (.iload 4, 2) := by decide +kernel
theorem dX6_weigh_5 : decode cX6_weigh 5 = .ok (.iconst 3, 1) := by decide +kernel
theorem dX6_weigh_6 : decode cX6_weigh 6 = .ok (.if_icmp .ge 41, 3) := by decide +kernel
theorem dX6_weigh_9 : decode cX6_weigh 9 = .ok (.iload_n 2, 1) := by decide +kernel
theorem dX6_weigh_10 : decode cX6_weigh 10 = .ok (.iload 4, 2) := by decide +kernel
theorem dX6_weigh_12 : decode cX6_weigh 12 = .ok (.invokestatic 35, 3) := by decide +kernel
theorem dX6_weigh_15 : decode cX6_weigh 15 = .ok (.ifCond .eq 26, 3) := by decide +kernel
theorem dX6_weigh_18 : decode cX6_weigh 18 = .ok (.aload_n 0, 1) := by decide +kernel
theorem dX6_weigh_19 : decode cX6_weigh 19 = .ok (.getfield 21, 3) := by decide +kernel
theorem dX6_weigh_22 : decode cX6_weigh 22 = .ok (.iload_n 2, 1) := by decide +kernel
theorem dX6_weigh_23 : decode cX6_weigh 23 = .ok (.iconst 3, 1) := by decide +kernel
theorem dX6_weigh_24 : decode cX6_weigh 24 = .ok (.imul, 1) := by decide +kernel
theorem dX6_weigh_25 : decode cX6_weigh 25 = .ok (.iload 4, 2) := by decide +kernel
theorem dX6_weigh_27 : decode cX6_weigh 27 = .ok (.iadd, 1) := by decide +kernel
theorem dX6_weigh_28 : decode cX6_weigh 28 = .ok (.dup2, 1) := by decide +kernel
theorem dX6_weigh_29 : decode cX6_weigh 29 = .ok (.laload, 1) := by decide +kernel
theorem dX6_weigh_30 : decode cX6_weigh 30 = .ok (.aload_n 0, 1) := by decide +kernel
theorem dX6_weigh_31 : decode cX6_weigh 31 = .ok (.iload_n 1, 1) := by decide +kernel
theorem dX6_weigh_32 : decode cX6_weigh 32 = .ok (.iload 4, 2) := by decide +kernel
theorem dX6_weigh_34 : decode cX6_weigh 34 = .ok (.iload_n 3, 1) := by decide +kernel
theorem dX6_weigh_35 : decode cX6_weigh 35 = .ok (.invokevirtual 112, 3) := by decide +kernel
theorem dX6_weigh_38 : decode cX6_weigh 38 = .ok (.i2l, 1) := by decide +kernel
theorem dX6_weigh_39 : decode cX6_weigh 39 = .ok (.lmul, 1) := by decide +kernel
theorem dX6_weigh_40 : decode cX6_weigh 40 = .ok (.lastore, 1) := by decide +kernel
theorem dX6_weigh_41 : decode cX6_weigh 41 = .ok (.iinc 4 1, 3) := by decide +kernel
theorem dX6_weigh_44 : decode cX6_weigh 44 = .ok (.goto (-41), 3) := by decide +kernel
theorem dX6_weigh_47 : decode cX6_weigh 47 = .ok (.return_, 1) := by decide +kernel
theorem dX6_keepKnown_0 : decode cX6_keepKnown 0 = .ok (.iconst 0, 1) := by decide +kernel
theorem dX6_keepKnown_1 : decode cX6_keepKnown 1 = .ok (.istore_n 3, 1) := by decide +kernel
theorem dX6_keepKnown_2 : decode cX6_keepKnown 2 = .ok (.iload_n 3, 1) := by decide +kernel
theorem dX6_keepKnown_3 : decode cX6_keepKnown 3 = .ok (.iconst 3, 1) := by decide +kernel
theorem dX6_keepKnown_4 : decode cX6_keepKnown 4 = .ok (.if_icmp .ge 34, 3) := by decide +kernel
theorem dX6_keepKnown_7 : decode cX6_keepKnown 7 = .ok (.aload_n 0, 1) := by decide +kernel
theorem dX6_keepKnown_8 : decode cX6_keepKnown 8 = .ok (.aload_n 0, 1) := by decide +kernel
theorem dX6_keepKnown_9 : decode cX6_keepKnown 9 = .ok (.getfield 9, 3) := by decide +kernel
theorem dX6_keepKnown_12 : decode cX6_keepKnown 12 = .ok (.iload_n 1, 1) := by decide +kernel
theorem dX6_keepKnown_13 : decode cX6_keepKnown 13 = .ok (.iconst 3, 1) := by decide +kernel
theorem dX6_keepKnown_14 : decode cX6_keepKnown 14 = .ok (.imul, 1) := by decide +kernel
theorem dX6_keepKnown_15 : decode cX6_keepKnown 15 = .ok (.iload_n 3, 1) := by decide +kernel
theorem dX6_keepKnown_16 : decode cX6_keepKnown 16 = .ok (.iadd, 1) := by decide +kernel
theorem dX6_keepKnown_17 : decode cX6_keepKnown 17 = .ok (.iload_n 3, 1) := by decide +kernel
theorem dX6_keepKnown_18 : decode cX6_keepKnown 18 = .ok (.iload_n 2, 1) := by decide +kernel
theorem dX6_keepKnown_19 : decode cX6_keepKnown 19 = .ok (.if_icmp .ne 9, 3) := by decide +kernel
theorem dX6_keepKnown_22 : decode cX6_keepKnown 22 = .ok (.sipush 1000, 3) := by decide +kernel
theorem dX6_keepKnown_25 : decode cX6_keepKnown 25 = .ok (.goto 4, 3) := by decide +kernel
theorem dX6_keepKnown_28 : decode cX6_keepKnown 28 = .ok (.iconst 0, 1) := by decide +kernel
theorem dX6_keepKnown_29 : decode cX6_keepKnown 29 = .ok (.invokevirtual 115, 3) := by decide +kernel
theorem dX6_keepKnown_32 : decode cX6_keepKnown 32 = .ok (.iinc 3 1, 3) := by decide +kernel
theorem dX6_keepKnown_35 : decode cX6_keepKnown 35 = .ok (.goto (-33), 3) := by decide +kernel
theorem dX6_keepKnown_38 : decode cX6_keepKnown 38 = .ok (.return_, 1) := by decide +kernel
theorem dX6_keepShares_0 : decode cX6_keepShares 0 = .ok (.aload_n 0, 1) := by decide +kernel
theorem dX6_keepShares_1 : decode cX6_keepShares 1 = .ok (.iload_n 1, 1) := by decide +kernel
theorem dX6_keepShares_2 : decode cX6_keepShares 2 = .ok (.iconst 0, 1) := by decide +kernel
theorem dX6_keepShares_3 : decode cX6_keepShares 3 = .ok (.invokevirtual 119, 3) := by decide +kernel
theorem dX6_keepShares_6 : decode cX6_keepShares 6 = .ok (.istore_n 2, 1) := by decide +kernel
theorem dX6_keepShares_7 : decode cX6_keepShares 7 = .ok (.aload_n 0, 1) := by decide +kernel
theorem dX6_keepShares_8 : decode cX6_keepShares 8 = .ok (.iload_n 1, 1) := by decide +kernel
theorem dX6_keepShares_9 : decode cX6_keepShares 9 = .ok (.iconst 1, 1) := by decide +kernel
theorem dX6_keepShares_10 : decode cX6_keepShares 10 = .ok (.invokevirtual 119, 3) := by decide +kernel
theorem dX6_keepShares_13 : decode cX6_keepShares 13 = .ok (.istore_n 3, 1) := by decide +kernel
theorem dX6_keepShares_14 : decode cX6_keepShares 14 = .ok (.aload_n 0, 1) := by decide +kernel
theorem dX6_keepShares_15 : decode cX6_keepShares 15 = .ok (.iload_n 1, 1) := by decide +kernel
theorem dX6_keepShares_16 : decode cX6_keepShares 16 = .ok (.iconst 2, 1) := by decide +kernel
theorem dX6_keepShares_17 : decode cX6_keepShares 17 = .ok (.invokevirtual 119, 3) := by decide +kernel
theorem dX6_keepShares_20 : decode cX6_keepShares 20 = .ok (.istore 4, 2) := by decide +kernel
theorem dX6_keepShares_22 : decode cX6_keepShares 22 = .ok (.sipush 1000, 3) := by decide +kernel
theorem dX6_keepShares_25 : decode cX6_keepShares 25 = .ok (.iload_n 2, 1) := by decide +kernel
theorem dX6_keepShares_26 : decode cX6_keepShares 26 = .ok (.isub, 1) := by decide +kernel
theorem dX6_keepShares_27 : decode cX6_keepShares 27 = .ok (.iload_n 3, 1) := by decide +kernel
theorem dX6_keepShares_28 : decode cX6_keepShares 28 = .ok (.isub, 1) := by decide +kernel
theorem dX6_keepShares_29 : decode cX6_keepShares 29 = .ok (.iload 4, 2) := by decide +kernel
theorem dX6_keepShares_31 : decode cX6_keepShares 31 = .ok (.isub, 1) := by decide +kernel
theorem dX6_keepShares_32 : decode cX6_keepShares 32 = .ok (.istore 5, 2) := by decide +kernel
theorem dX6_keepShares_34 : decode cX6_keepShares 34 = .ok (.iload_n 2, 1) := by decide +kernel
theorem dX6_keepShares_35 : decode cX6_keepShares 35 = .ok (.iload_n 3, 1) := by decide +kernel
theorem dX6_keepShares_36 : decode cX6_keepShares 36 = .ok (.if_icmp .lt 17, 3) := by decide +kernel
theorem dX6_keepShares_39 : decode cX6_keepShares 39 = .ok (.iload_n 2, 1) := by decide +kernel
theorem dX6_keepShares_40 : decode cX6_keepShares 40 = .ok (.iload 4, 2) := by decide +kernel
theorem dX6_keepShares_42 : decode cX6_keepShares 42 = .ok (.if_icmp .lt 11, 3) := by decide +kernel
theorem dX6_keepShares_45 : decode cX6_keepShares 45 = .ok (.iload_n 2, 1) := by decide +kernel
theorem dX6_keepShares_46 : decode cX6_keepShares 46 = .ok (.iload 5, 2) := by decide +kernel
theorem dX6_keepShares_48 : decode cX6_keepShares 48 = .ok (.iadd, 1) := by decide +kernel
theorem dX6_keepShares_49 : decode cX6_keepShares 49 = .ok (.istore_n 2, 1) := by decide +kernel
theorem dX6_keepShares_50 : decode cX6_keepShares 50 = .ok (.goto 24, 3) := by decide +kernel
theorem dX6_keepShares_53 : decode cX6_keepShares 53 = .ok (.iload_n 3, 1) := by decide +kernel
theorem dX6_keepShares_54 : decode cX6_keepShares 54 = .ok (.iload 4, 2) := by decide +kernel
theorem dX6_keepShares_56 : decode cX6_keepShares 56 = .ok (.if_icmp .lt 11, 3) := by decide +kernel
theorem dX6_keepShares_59 : decode cX6_keepShares 59 = .ok (.iload_n 3, 1) := by decide +kernel
theorem dX6_keepShares_60 : decode cX6_keepShares 60 = .ok (.iload 5, 2) := by decide +kernel
theorem dX6_keepShares_62 : decode cX6_keepShares 62 = .ok (.iadd, 1) := by decide +kernel
theorem dX6_keepShares_63 : decode cX6_keepShares 63 = .ok (.istore_n 3, 1) := by decide +kernel
theorem dX6_keepShares_64 : decode cX6_keepShares 64 = .ok (.goto 10, 3) := by decide +kernel
theorem dX6_keepShares_67 : decode cX6_keepShares 67 = .ok (.iload 4, 2) := by decide +kernel
theorem dX6_keepShares_69 : decode cX6_keepShares 69 = .ok (.iload 5, 2) := by decide +kernel
theorem dX6_keepShares_71 : decode cX6_keepShares 71 = .ok (.iadd, 1) := by decide +kernel
theorem dX6_keepShares_72 : decode cX6_keepShares 72 = .ok (.istore 4, 2) := by decide +kernel
theorem dX6_keepShares_74 : decode cX6_keepShares 74 = .ok (.aload_n 0, 1) := by decide +kernel
theorem dX6_keepShares_75 : decode cX6_keepShares 75 = .ok (.aload_n 0, 1) := by decide +kernel
theorem dX6_keepShares_76 : decode cX6_keepShares 76 = .ok (.getfield 9, 3) := by decide +kernel
theorem dX6_keepShares_79 : decode cX6_keepShares 79 = .ok (.iload_n 1, 1) := by decide +kernel
theorem dX6_keepShares_80 : decode cX6_keepShares 80 = .ok (.iconst 3, 1) := by decide +kernel
theorem dX6_keepShares_81 : decode cX6_keepShares 81 = .ok (.imul, 1) := by decide +kernel
theorem dX6_keepShares_82 : decode cX6_keepShares 82 = .ok (.iconst 0, 1) := by decide +kernel
theorem dX6_keepShares_83 : decode cX6_keepShares 83 = .ok (.iadd, 1) := by decide +kernel
theorem dX6_keepShares_84 : decode cX6_keepShares 84 = .ok (.iload_n 2, 1) := by decide +kernel
theorem dX6_keepShares_85 : decode cX6_keepShares 85 = .ok (.invokevirtual 115, 3) := by decide +kernel
theorem dX6_keepShares_88 : decode cX6_keepShares 88 = .ok (.aload_n 0, 1) := by decide +kernel
theorem dX6_keepShares_89 : decode cX6_keepShares 89 = .ok (.aload_n 0, 1) := by decide +kernel
theorem dX6_keepShares_90 : decode cX6_keepShares 90 = .ok (.getfield 9, 3) := by decide +kernel
theorem dX6_keepShares_93 : decode cX6_keepShares 93 = .ok (.iload_n 1, 1) := by decide +kernel
theorem dX6_keepShares_94 : decode cX6_keepShares 94 = .ok (.iconst 3, 1) := by decide +kernel
theorem dX6_keepShares_95 : decode cX6_keepShares 95 = .ok (.imul, 1) := by decide +kernel
theorem dX6_keepShares_96 : decode cX6_keepShares 96 = .ok (.iconst 1, 1) := by decide +kernel
theorem dX6_keepShares_97 : decode cX6_keepShares 97 = .ok (.iadd, 1) := by decide +kernel
theorem dX6_keepShares_98 : decode cX6_keepShares 98 = .ok (.iload_n 3, 1) := by decide +kernel
theorem dX6_keepShares_99 : decode cX6_keepShares 99 = .ok (.invokevirtual 115, 3) := by decide +kernel
theorem dX6_keepShares_102 : decode cX6_keepShares 102 = .ok (.aload_n 0, 1) := by decide +kernel
theorem dX6_keepShares_103 : decode cX6_keepShares 103 = .ok (.aload_n 0, 1) := by decide +kernel
theorem dX6_keepShares_104 : decode cX6_keepShares 104 = .ok (.getfield 9, 3) := by decide +kernel
theorem dX6_keepShares_107 : decode cX6_keepShares 107 = .ok (.iload_n 1, 1) := by decide +kernel
theorem dX6_keepShares_108 : decode cX6_keepShares 108 = .ok (.iconst 3, 1) := by decide +kernel
theorem dX6_keepShares_109 : decode cX6_keepShares 109 = .ok (.imul, 1) := by decide +kernel
theorem dX6_keepShares_110 : decode cX6_keepShares 110 = .ok (.iconst 2, 1) := by decide +kernel
theorem dX6_keepShares_111 : decode cX6_keepShares 111 = .ok (.iadd, 1) := by decide +kernel
theorem dX6_keepShares_112 : decode cX6_keepShares 112 = .ok (.iload 4, 2) := by decide +kernel
theorem dX6_keepShares_114 : decode cX6_keepShares 114 = .ok (.invokevirtual 115, 3) := by decide +kernel
theorem dX6_keepShares_117 : decode cX6_keepShares 117 = .ok (.return_, 1) := by decide +kernel
theorem dX6_shareOf_0 : decode cX6_shareOf 0 = .ok (.aload_n 0, 1) := by decide +kernel
theorem dX6_shareOf_1 : decode cX6_shareOf 1 = .ok (.iload_n 1, 1) := by decide +kernel
theorem dX6_shareOf_2 : decode cX6_shareOf 2 = .ok (.iconst 0, 1) := by decide +kernel
theorem dX6_shareOf_3 : decode cX6_shareOf 3 = .ok (.invokevirtual 122, 3) := by decide +kernel
theorem dX6_shareOf_6 : decode cX6_shareOf 6 = .ok (.aload_n 0, 1) := by decide +kernel
theorem dX6_shareOf_7 : decode cX6_shareOf 7 = .ok (.iload_n 1, 1) := by decide +kernel
theorem dX6_shareOf_8 : decode cX6_shareOf 8 = .ok (.iconst 1, 1) := by decide +kernel
theorem dX6_shareOf_9 : decode cX6_shareOf 9 = .ok (.invokevirtual 122, 3) := by decide +kernel
theorem dX6_shareOf_12 : decode cX6_shareOf 12 = .ok (.ladd, 1) := by decide +kernel
theorem dX6_shareOf_13 : decode cX6_shareOf 13 = .ok (.aload_n 0, 1) := by decide +kernel
theorem dX6_shareOf_14 : decode cX6_shareOf 14 = .ok (.iload_n 1, 1) := by decide +kernel
theorem dX6_shareOf_15 : decode cX6_shareOf 15 = .ok (.iconst 2, 1) := by decide +kernel
theorem dX6_shareOf_16 : decode cX6_shareOf 16 = .ok (.invokevirtual 122, 3) := by decide +kernel
theorem dX6_shareOf_19 : decode cX6_shareOf 19 = .ok (.ladd, 1) := by decide +kernel
theorem dX6_shareOf_20 : decode cX6_shareOf 20 = .ok (.lstore_n 3, 1) := by decide +kernel
theorem dX6_shareOf_21 : decode cX6_shareOf 21 = .ok (.lload_n 3, 1) := by decide +kernel
theorem dX6_shareOf_22 : decode cX6_shareOf 22 = .ok (.lconst 0, 1) := by decide +kernel
theorem dX6_shareOf_23 : decode cX6_shareOf 23 = .ok (.lcmp, 1) := by decide +kernel
theorem dX6_shareOf_24 : decode cX6_shareOf 24 = .ok (.ifCond .le 19, 3) := by decide +kernel
theorem dX6_shareOf_27 : decode cX6_shareOf 27 = .ok (.aload_n 0, 1) := by decide +kernel
theorem dX6_shareOf_28 : decode cX6_shareOf 28 = .ok (.iload_n 1, 1) := by decide +kernel
theorem dX6_shareOf_29 : decode cX6_shareOf 29 = .ok (.iload_n 2, 1) := by decide +kernel
theorem dX6_shareOf_30 : decode cX6_shareOf 30 = .ok (.invokevirtual 122, 3) := by decide +kernel
theorem dX6_shareOf_33 : decode cX6_shareOf 33 = .ok (.ldc2_w 126, 3) := by decide +kernel
theorem dX6_shareOf_36 : decode cX6_shareOf 36 = .ok (.lmul, 1) := by decide +kernel
theorem dX6_shareOf_37 : decode cX6_shareOf 37 = .ok (.lload_n 3, 1) := by decide +kernel
theorem dX6_shareOf_38 : decode cX6_shareOf 38 = .ok (.ldiv, 1) := by decide +kernel
theorem dX6_shareOf_39 : decode cX6_shareOf 39 = .ok (.l2i, 1) := by decide +kernel
theorem dX6_shareOf_40 : decode cX6_shareOf 40 = .ok (.goto 4, 3) := by decide +kernel
theorem dX6_shareOf_43 : decode cX6_shareOf 43 = .ok (.iconst 0, 1) := by decide +kernel
theorem dX6_shareOf_44 : decode cX6_shareOf 44 = .ok (.ireturn, 1) := by decide +kernel
theorem dX6_chanceOf_0 : decode cX6_chanceOf 0 = .ok (.iload_n 1, 1) := by decide +kernel
theorem dX6_chanceOf_1 : decode cX6_chanceOf 1 = .ok (.iload_n 2, 1) := by decide +kernel
theorem dX6_chanceOf_2 : decode cX6_chanceOf 2 = .ok (.invokestatic 35, 3) := by decide +kernel
theorem dX6_chanceOf_5 : decode cX6_chanceOf 5 = .ok (.ifCond .eq 16, 3) := by decide +kernel
theorem dX6_chanceOf_8 : decode cX6_chanceOf 8 = .ok (.aload_n 0, 1) := by decide +kernel
theorem dX6_chanceOf_9 : decode cX6_chanceOf 9 = .ok (.getfield 21, 3) := by decide +kernel
theorem dX6_chanceOf_12 : decode cX6_chanceOf 12 = .ok (.iload_n 1, 1) := by decide +kernel
theorem dX6_chanceOf_13 : decode cX6_chanceOf 13 = .ok (.iconst 3, 1) := by decide +kernel
theorem dX6_chanceOf_14 : decode cX6_chanceOf 14 = .ok (.imul, 1) := by decide +kernel
theorem dX6_chanceOf_15 : decode cX6_chanceOf 15 = .ok (.iload_n 2, 1) := by decide +kernel
theorem dX6_chanceOf_16 : decode cX6_chanceOf 16 = .ok (.iadd, 1) := by decide +kernel
theorem dX6_chanceOf_17 : decode cX6_chanceOf 17 = .ok (.laload, 1) := by decide +kernel
theorem dX6_chanceOf_18 : decode cX6_chanceOf 18 = .ok (.goto 4, 3) := by decide +kernel
theorem dX6_chanceOf_21 : decode cX6_chanceOf 21 = .ok (.lconst 0, 1) := by decide +kernel
theorem dX6_chanceOf_22 : decode cX6_chanceOf 22 = .ok (.lreturn, 1) := by decide +kernel
theorem dX6_findTables_0 : decode cX6_findTables 0 = .ok (.iconst 0, 1) := by decide +kernel
theorem dX6_findTables_1 : decode cX6_findTables 1 = .ok (.istore_n 2, 1) := by decide +kernel
theorem dX6_findTables_2 : decode cX6_findTables 2 = .ok (.iload_n 2, 1) := by decide +kernel
theorem dX6_findTables_3 : decode cX6_findTables 3 = .ok (.aload_n 0, 1) := by decide +kernel
theorem dX6_findTables_4 : decode cX6_findTables 4 = .ok (.getfield 25, 3) := by decide +kernel
theorem dX6_findTables_7 : decode cX6_findTables 7 = .ok (.arraylength, 1) := by decide +kernel
theorem dX6_findTables_8 : decode cX6_findTables 8 = .ok (.if_icmp .ge 16, 3) := by decide +kernel
theorem dX6_findTables_11 : decode cX6_findTables 11 = .ok (.aload_n 0, 1) := by decide +kernel
theorem dX6_findTables_12 : decode cX6_findTables 12 = .ok (.getfield 25, 3) := by decide +kernel
theorem dX6_findTables_15 : decode cX6_findTables 15 = .ok (.iload_n 2, 1) := by decide +kernel
theorem dX6_findTables_16 : decode cX6_findTables 16 = .ok (.iconst 0, 1) := by decide +kernel
theorem dX6_findTables_17 : decode cX6_findTables 17 = .ok (.iastore, 1) := by decide +kernel
theorem dX6_findTables_18 : decode cX6_findTables 18 = .ok (.iinc 2 1, 3) := by decide +kernel
theorem dX6_findTables_21 : decode cX6_findTables 21 = .ok (.goto (-19), 3) := by decide +kernel
theorem dX6_findTables_24 : decode cX6_findTables 24 = .ok (.iconst 0, 1) := by decide +kernel
theorem dX6_findTables_25 : decode cX6_findTables 25 = .ok (.istore_n 2, 1) := by decide +kernel
theorem dX6_findTables_26 : decode cX6_findTables 26 = .ok (.iload_n 2, 1) := by decide +kernel
theorem dX6_findTables_27 : decode cX6_findTables 27 = .ok (.aload_n 1, 1) := by decide +kernel
theorem dX6_findTables_28 : decode cX6_findTables 28 = .ok (.invokevirtual 79, 3) := by decide +kernel
theorem dX6_findTables_31 : decode cX6_findTables 31 = .ok (.if_icmp .ge 36, 3) := by decide +kernel
theorem dX6_findTables_34 : decode cX6_findTables 34 = .ok (.aload_n 1, 1) := by decide +kernel
theorem dX6_findTables_35 : decode cX6_findTables 35 = .ok (.iload_n 2, 1) := by decide +kernel
theorem dX6_findTables_36 : decode cX6_findTables 36 = .ok (.invokevirtual 82, 3) := by decide +kernel
theorem dX6_findTables_39 : decode cX6_findTables 39 = .ok (.ifCond .eq 22, 3) := by decide +kernel
theorem dX6_findTables_42 : decode cX6_findTables 42 = .ok (.aload_n 0, 1) := by decide +kernel
theorem dX6_findTables_43 : decode cX6_findTables 43 = .ok (.aload_n 1, 1) := by decide +kernel
theorem dX6_findTables_44 : decode cX6_findTables 44 = .ok (.iload_n 2, 1) := by decide +kernel
theorem dX6_findTables_45 : decode cX6_findTables 45 = .ok (.invokevirtual 86, 3) := by decide +kernel
theorem dX6_findTables_48 : decode cX6_findTables 48 = .ok (.aload_n 1, 1) := by decide +kernel
theorem dX6_findTables_49 : decode cX6_findTables 49 = .ok (.iload_n 2, 1) := by decide +kernel
theorem dX6_findTables_50 : decode cX6_findTables 50 = .ok (.invokevirtual 89, 3) := by decide +kernel
theorem dX6_findTables_53 : decode cX6_findTables 53 = .ok (.aload_n 1, 1) := by decide +kernel
theorem dX6_findTables_54 : decode cX6_findTables 54 = .ok (.iload_n 2, 1) := by decide +kernel
theorem dX6_findTables_55 : decode cX6_findTables 55 = .ok (.invokevirtual 92, 3) := by decide +kernel
theorem dX6_findTables_58 : decode cX6_findTables 58 = .ok (.invokevirtual 128, 3) := by decide +kernel
theorem dX6_findTables_61 : decode cX6_findTables 61 = .ok (.iinc 2 1, 3) := by decide +kernel
theorem dX6_findTables_64 : decode cX6_findTables 64 = .ok (.goto (-38), 3) := by decide +kernel
theorem dX6_findTables_67 : decode cX6_findTables 67 = .ok (.iconst 0, 1) := by decide +kernel
theorem dX6_findTables_68 : decode cX6_findTables 68 = .ok (.istore_n 2, 1) := by decide +kernel
theorem dX6_findTables_69 : decode cX6_findTables 69 = .ok (.iload_n 2, 1) := by decide +kernel
theorem dX6_findTables_70 : decode cX6_findTables 70 = .ok (.iconst 4, 1) := by decide +kernel
theorem dX6_findTables_71 : decode cX6_findTables 71 = .ok (.iadd, 1) := by decide +kernel
theorem dX6_findTables_72 : decode cX6_findTables 72 = .ok (.aload_n 0, 1) := by decide +kernel
theorem dX6_findTables_73 : decode cX6_findTables 73 = .ok (.getfield 15, 3) := by decide +kernel
theorem dX6_findTables_76 : decode cX6_findTables 76 = .ok (.arraylength, 1) := by decide +kernel
theorem dX6_findTables_77 : decode cX6_findTables 77 = .ok (.if_icmp .gt 14, 3) := by decide +kernel
theorem dX6_findTables_80 : decode cX6_findTables 80 = .ok (.aload_n 0, 1) := by decide +kernel
theorem dX6_findTables_81 : decode cX6_findTables 81 = .ok (.iload_n 2, 1) := by decide +kernel
theorem dX6_findTables_82 : decode cX6_findTables 82 = .ok (.invokevirtual 131, 3) := by decide +kernel
theorem dX6_findTables_85 : decode cX6_findTables 85 = .ok (.iinc 2 4, 3) := by decide +kernel
theorem dX6_findTables_88 : decode cX6_findTables 88 = .ok (.goto (-19), 3) := by decide +kernel
theorem dX6_findTables_91 : decode cX6_findTables 91 = .ok (.return_, 1) := by decide +kernel
theorem dX6_addOdds_0 : decode cX6_addOdds 0 = .ok (.iconst 0, 1) := by decide +kernel
theorem dX6_addOdds_1 : decode cX6_addOdds 1 = .ok (.istore 4, 2) := by decide +kernel
theorem dX6_addOdds_3 : decode cX6_addOdds 3 = .ok (.iload 4, 2) := by decide +kernel
theorem dX6_addOdds_5 : decode cX6_addOdds 5 = .ok (.iconst 3, 1) := by decide +kernel
theorem dX6_addOdds_6 : decode cX6_addOdds 6 = .ok (.if_icmp .ge 41, 3) := by decide +kernel
theorem dX6_addOdds_9 : decode cX6_addOdds 9 = .ok (.iload_n 1, 1) := by decide +kernel
theorem dX6_addOdds_10 : decode cX6_addOdds 10 = .ok (.iload 4, 2) := by decide +kernel
theorem dX6_addOdds_12 : decode cX6_addOdds 12 = .ok (.iload_n 3, 1) := by decide +kernel
theorem dX6_addOdds_13 : decode cX6_addOdds 13 = .ok (.invokestatic 45, 3) := by decide +kernel
theorem dX6_addOdds_16 : decode cX6_addOdds 16 = .ok (.ifCond .eq 25, 3) := by decide +kernel
theorem dX6_addOdds_19 : decode cX6_addOdds 19 = .ok (.aload_n 0, 1) := by decide +kernel
theorem dX6_addOdds_20 : decode cX6_addOdds 20 = .ok (.getfield 25, 3) := by decide +kernel
theorem dX6_addOdds_23 : decode cX6_addOdds 23 = .ok (.iload_n 1, 1) := by decide +kernel
theorem dX6_addOdds_24 : decode cX6_addOdds 24 = .ok (.iload 4, 2) := by decide +kernel
theorem dX6_addOdds_26 : decode cX6_addOdds 26 = .ok (.iload_n 3, 1) := by decide +kernel
theorem dX6_addOdds_27 : decode cX6_addOdds 27 = .ok (.invokestatic 49, 3) := by decide +kernel
theorem dX6_addOdds_30 : decode cX6_addOdds 30 = .ok (.dup2, 1) := by decide +kernel
theorem dX6_addOdds_31 : decode cX6_addOdds 31 = .ok (.iaload, 1) := by decide +kernel
theorem dX6_addOdds_32 : decode cX6_addOdds 32 = .ok (.aload_n 0, 1) := by decide +kernel
theorem dX6_addOdds_33 : decode cX6_addOdds 33 = .ok (.iload_n 2, 1) := by decide +kernel
theorem dX6_addOdds_34 : decode cX6_addOdds 34 = .ok (.iload 4, 2) := by decide +kernel
theorem dX6_addOdds_36 : decode cX6_addOdds 36 = .ok (.invokevirtual 134, 3) := by decide +kernel
theorem dX6_addOdds_39 : decode cX6_addOdds 39 = .ok (.iadd, 1) := by decide +kernel
theorem dX6_addOdds_40 : decode cX6_addOdds 40 = .ok (.iastore, 1) := by decide +kernel
theorem dX6_addOdds_41 : decode cX6_addOdds 41 = .ok (.iinc 4 1, 3) := by decide +kernel
theorem dX6_addOdds_44 : decode cX6_addOdds 44 = .ok (.goto (-41), 3) := by decide +kernel
theorem dX6_addOdds_47 : decode cX6_addOdds 47 = .ok (.return_, 1) := by decide +kernel
theorem dX6_keepTable_0 : decode cX6_keepTable 0 = .ok (.iconst 0, 1) := by decide +kernel
theorem dX6_keepTable_1 : decode cX6_keepTable 1 = .ok (.istore_n 2, 1) := by decide +kernel
theorem dX6_keepTable_2 : decode cX6_keepTable 2 = .ok (.iload_n 1, 1) := by decide +kernel
theorem dX6_keepTable_3 : decode cX6_keepTable 3 = .ok (.istore_n 3, 1) := by decide +kernel
theorem dX6_keepTable_4 : decode cX6_keepTable 4 = .ok (.iload_n 3, 1) := by decide +kernel
theorem dX6_keepTable_5 : decode cX6_keepTable 5 = .ok (.iload_n 1, 1) := by decide +kernel
theorem dX6_keepTable_6 : decode cX6_keepTable 6 = .ok (.iconst 4, 1) := by decide +kernel
theorem dX6_keepTable_7 : decode cX6_keepTable 7 = .ok (.iadd, 1) := by decide +kernel
theorem dX6_keepTable_8 : decode cX6_keepTable 8 = .ok (.if_icmp .ge 27, 3) := by decide +kernel
theorem dX6_keepTable_11 : decode cX6_keepTable 11 = .ok (.iload_n 3, 1) := by decide +kernel
theorem dX6_keepTable_12 : decode cX6_keepTable 12 = .ok (.aload_n 0, 1) := by decide +kernel
theorem dX6_keepTable_13 : decode cX6_keepTable 13 = .ok (.getfield 25, 3) := by decide +kernel
theorem dX6_keepTable_16 : decode cX6_keepTable 16 = .ok (.arraylength, 1) := by decide +kernel
theorem dX6_keepTable_17 : decode cX6_keepTable 17 = .ok (.if_icmp .ge 18, 3) := by decide +kernel
theorem dX6_keepTable_20 : decode cX6_keepTable 20 = .ok (.iload_n 2, 1) := by decide +kernel
theorem dX6_keepTable_21 : decode cX6_keepTable 21 = .ok (.aload_n 0, 1) := by decide +kernel
theorem dX6_keepTable_22 : decode cX6_keepTable 22 = .ok (.getfield 25, 3) := by decide +kernel
theorem dX6_keepTable_25 : decode cX6_keepTable 25 = .ok (.iload_n 3, 1) := by decide +kernel
theorem dX6_keepTable_26 : decode cX6_keepTable 26 = .ok (.iaload, 1) := by decide +kernel
theorem dX6_keepTable_27 : decode cX6_keepTable 27 = .ok (.iadd, 1) := by decide +kernel
theorem dX6_keepTable_28 : decode cX6_keepTable 28 = .ok (.istore_n 2, 1) := by decide +kernel
theorem dX6_keepTable_29 : decode cX6_keepTable 29 = .ok (.iinc 3 1, 3) := by decide +kernel
theorem dX6_keepTable_32 : decode cX6_keepTable 32 = .ok (.goto (-28), 3) := by decide +kernel
theorem dX6_keepTable_35 : decode cX6_keepTable 35 = .ok (.iload_n 1, 1) := by decide +kernel
theorem dX6_keepTable_36 : decode cX6_keepTable 36 = .ok (.istore_n 3, 1) := by decide +kernel
theorem dX6_keepTable_37 : decode cX6_keepTable 37 = .ok (.iload_n 3, 1) := by decide +kernel
theorem dX6_keepTable_38 : decode cX6_keepTable 38 = .ok (.iload_n 1, 1) := by decide +kernel
theorem dX6_keepTable_39 : decode cX6_keepTable 39 = .ok (.iconst 4, 1) := by decide +kernel
theorem dX6_keepTable_40 : decode cX6_keepTable 40 = .ok (.iadd, 1) := by decide +kernel
theorem dX6_keepTable_41 : decode cX6_keepTable 41 = .ok (.if_icmp .ge 44, 3) := by decide +kernel
theorem dX6_keepTable_44 : decode cX6_keepTable 44 = .ok (.iload_n 3, 1) := by decide +kernel
theorem dX6_keepTable_45 : decode cX6_keepTable 45 = .ok (.aload_n 0, 1) := by decide +kernel
theorem dX6_keepTable_46 : decode cX6_keepTable 46 = .ok (.getfield 25, 3) := by decide +kernel
theorem dX6_keepTable_49 : decode cX6_keepTable 49 = .ok (.arraylength, 1) := by decide +kernel
theorem dX6_keepTable_50 : decode cX6_keepTable 50 = .ok (.if_icmp .ge 35, 3) := by decide +kernel
theorem dX6_keepTable_53 : decode cX6_keepTable 53 = .ok (.iload_n 2, 1) := by decide +kernel
theorem dX6_keepTable_54 : decode cX6_keepTable 54 = .ok (.ifCond .le 31, 3) := by decide +kernel
theorem dX6_keepTable_57 : decode cX6_keepTable 57 = .ok (.aload_n 0, 1) := by decide +kernel
theorem dX6_keepTable_58 : decode cX6_keepTable 58 = .ok (.aload_n 0, 1) := by decide +kernel
theorem dX6_keepTable_59 : decode cX6_keepTable 59 = .ok (.getfield 15, 3) := by decide +kernel
theorem dX6_keepTable_62 : decode cX6_keepTable 62 = .ok (.iload_n 3, 1) := by decide +kernel
theorem dX6_keepTable_63 : decode cX6_keepTable 63 = .ok (.iconst 1, 1) := by decide +kernel
theorem dX6_keepTable_64 : decode cX6_keepTable 64 = .ok (.bipush 96, 2) := by decide +kernel
theorem dX6_keepTable_66 : decode cX6_keepTable 66 = .ok (.aload_n 0, 1) := by decide +kernel
theorem dX6_keepTable_67 : decode cX6_keepTable 67 = .ok (.getfield 25, 3) := by decide +kernel
theorem dX6_keepTable_70 : decode cX6_keepTable 70 = .ok (.iload_n 3, 1) := by decide +kernel
theorem dX6_keepTable_71 : decode cX6_keepTable 71 = .ok (.iaload, 1) := by decide +kernel
theorem dX6_keepTable_72 : decode cX6_keepTable 72 = .ok (.imul, 1) := by decide +kernel
theorem dX6_keepTable_73 : decode cX6_keepTable 73 = .ok (.iload_n 2, 1) := by decide +kernel
theorem dX6_keepTable_74 : decode cX6_keepTable 74 = .ok (.idiv, 1) := by decide +kernel
theorem dX6_keepTable_75 : decode cX6_keepTable 75 = .ok (.iadd, 1) := by decide +kernel
theorem dX6_keepTable_76 : decode cX6_keepTable 76 = .ok (.invokevirtual 115, 3) := by decide +kernel
theorem dX6_keepTable_79 : decode cX6_keepTable 79 = .ok (.iinc 3 1, 3) := by decide +kernel
theorem dX6_keepTable_82 : decode cX6_keepTable 82 = .ok (.goto (-45), 3) := by decide +kernel
theorem dX6_keepTable_85 : decode cX6_keepTable 85 = .ok (.return_, 1) := by decide +kernel
theorem dX6_findSky_0 : decode cX6_findSky 0 = .ok (.iload_n 1, 1) := by decide +kernel
theorem dX6_findSky_1 : decode cX6_findSky 1 = .ok (.ifCond .gt 4, 3) := by decide +kernel
theorem dX6_findSky_4 : decode cX6_findSky 4 = .ok (.return_, 1) := by decide +kernel
theorem dX6_findSky_5 : decode cX6_findSky 5 = .ok (.aload_n 0, 1) := by decide +kernel
theorem dX6_findSky_6 : decode cX6_findSky 6 = .ok (.iconst 1, 1) := by decide +kernel
theorem dX6_findSky_7 : decode cX6_findSky 7 = .ok (.iload_n 1, 1) := by decide +kernel
theorem dX6_findSky_8 : decode cX6_findSky 8 = .ok (.invokevirtual 137, 3) := by decide +kernel
theorem dX6_findSky_11 : decode cX6_findSky 11 = .ok (.iload_n 1, 1) := by decide +kernel
theorem dX6_findSky_12 : decode cX6_findSky 12 = .ok (.idiv, 1) := by decide +kernel
theorem dX6_findSky_13 : decode cX6_findSky 13 = .ok (.istore_n 2, 1) := by decide +kernel
theorem dX6_findSky_14 : decode cX6_findSky 14 = .ok (.aload_n 0, 1) := by decide +kernel
theorem dX6_findSky_15 : decode cX6_findSky 15 = .ok (.iconst 2, 1) := by decide +kernel
theorem dX6_findSky_16 : decode cX6_findSky 16 = .ok (.iload_n 1, 1) := by decide +kernel
theorem dX6_findSky_17 : decode cX6_findSky 17 = .ok (.invokevirtual 137, 3) := by decide +kernel
theorem dX6_findSky_20 : decode cX6_findSky 20 = .ok (.iload_n 1, 1) := by decide +kernel
theorem dX6_findSky_21 : decode cX6_findSky 21 = .ok (.idiv, 1) := by decide +kernel
theorem dX6_findSky_22 : decode cX6_findSky 22 = .ok (.istore_n 3, 1) := by decide +kernel
theorem dX6_findSky_23 : decode cX6_findSky 23 = .ok (.aload_n 0, 1) := by decide +kernel
theorem dX6_findSky_24 : decode cX6_findSky 24 = .ok (.aload_n 0, 1) := by decide +kernel
theorem dX6_findSky_25 : decode cX6_findSky 25 = .ok (.getfield 18, 3) := by decide +kernel
theorem dX6_findSky_28 : decode cX6_findSky 28 = .ok (.iconst 0, 1) := by decide +kernel
theorem dX6_findSky_29 : decode cX6_findSky 29 = .ok (.iconst 1, 1) := by decide +kernel
theorem dX6_findSky_30 : decode cX6_findSky 30 = .ok (.sipush 1000, 3) := by decide +kernel
theorem dX6_findSky_33 : decode cX6_findSky 33 = .ok (.iload_n 2, 1) := by decide +kernel
theorem dX6_findSky_34 : decode cX6_findSky 34 = .ok (.isub, 1) := by decide +kernel
theorem dX6_findSky_35 : decode cX6_findSky 35 = .ok (.iload_n 3, 1) := by decide +kernel
theorem dX6_findSky_36 : decode cX6_findSky 36 = .ok (.isub, 1) := by decide +kernel
theorem dX6_findSky_37 : decode cX6_findSky 37 = .ok (.invokestatic 39, 3) := by decide +kernel
theorem dX6_findSky_40 : decode cX6_findSky 40 = .ok (.invokevirtual 115, 3) := by decide +kernel
theorem dX6_findSky_43 : decode cX6_findSky 43 = .ok (.aload_n 0, 1) := by decide +kernel
theorem dX6_findSky_44 : decode cX6_findSky 44 = .ok (.aload_n 0, 1) := by decide +kernel
theorem dX6_findSky_45 : decode cX6_findSky 45 = .ok (.getfield 18, 3) := by decide +kernel
theorem dX6_findSky_48 : decode cX6_findSky 48 = .ok (.iconst 1, 1) := by decide +kernel
theorem dX6_findSky_49 : decode cX6_findSky 49 = .ok (.iconst 1, 1) := by decide +kernel
theorem dX6_findSky_50 : decode cX6_findSky 50 = .ok (.iload_n 2, 1) := by decide +kernel
theorem dX6_findSky_51 : decode cX6_findSky 51 = .ok (.invokestatic 39, 3) := by decide +kernel
theorem dX6_findSky_54 : decode cX6_findSky 54 = .ok (.invokevirtual 115, 3) := by decide +kernel
theorem dX6_findSky_57 : decode cX6_findSky 57 = .ok (.aload_n 0, 1) := by decide +kernel
theorem dX6_findSky_58 : decode cX6_findSky 58 = .ok (.aload_n 0, 1) := by decide +kernel
theorem dX6_findSky_59 : decode cX6_findSky 59 = .ok (.getfield 18, 3) := by decide +kernel
theorem dX6_findSky_62 : decode cX6_findSky 62 = .ok (.iconst 2, 1) := by decide +kernel
theorem dX6_findSky_63 : decode cX6_findSky 63 = .ok (.iconst 1, 1) := by decide +kernel
theorem dX6_findSky_64 : decode cX6_findSky 64 = .ok (.iload_n 3, 1) := by decide +kernel
theorem dX6_findSky_65 : decode cX6_findSky 65 = .ok (.invokestatic 39, 3) := by decide +kernel
theorem dX6_findSky_68 : decode cX6_findSky 68 = .ok (.invokevirtual 115, 3) := by decide +kernel
theorem dX6_findSky_71 : decode cX6_findSky 71 = .ok (.return_, 1) := by decide +kernel
theorem dX6_sumOfOdds_0 : decode cX6_sumOfOdds 0 = .ok (.iconst 0, 1) := by decide +kernel
theorem dX6_sumOfOdds_1 : decode cX6_sumOfOdds 1 = .ok (.istore_n 3, 1) := by decide +kernel
theorem dX6_sumOfOdds_2 : decode cX6_sumOfOdds 2 = .ok (.iconst 0, 1) := by decide +kernel
theorem dX6_sumOfOdds_3 : decode cX6_sumOfOdds 3 = .ok (.istore 4, 2) := by decide +kernel
theorem dX6_sumOfOdds_5 : decode cX6_sumOfOdds 5 = .ok (.iload 4, 2) := by decide +kernel
theorem dX6_sumOfOdds_7 : decode cX6_sumOfOdds 7 = .ok (.iload_n 2, 1) := by decide +kernel
theorem dX6_sumOfOdds_8 : decode cX6_sumOfOdds 8 = .ok (.if_icmp .ge 19, 3) := by decide +kernel
theorem dX6_sumOfOdds_11 : decode cX6_sumOfOdds 11 = .ok (.iload_n 3, 1) := by decide +kernel
theorem dX6_sumOfOdds_12 : decode cX6_sumOfOdds 12 = .ok (.aload_n 0, 1) := by decide +kernel
theorem dX6_sumOfOdds_13 : decode cX6_sumOfOdds 13 = .ok (.iload 4, 2) := by decide +kernel
theorem dX6_sumOfOdds_15 : decode cX6_sumOfOdds 15 = .ok (.iload_n 1, 1) := by decide +kernel
theorem dX6_sumOfOdds_16 : decode cX6_sumOfOdds 16 = .ok (.invokevirtual 134, 3) := by decide +kernel
theorem dX6_sumOfOdds_19 : decode cX6_sumOfOdds 19 = .ok (.iadd, 1) := by decide +kernel
theorem dX6_sumOfOdds_20 : decode cX6_sumOfOdds 20 = .ok (.istore_n 3, 1) := by decide +kernel
theorem dX6_sumOfOdds_21 : decode cX6_sumOfOdds 21 = .ok (.iinc 4 1, 3) := by decide +kernel
theorem dX6_sumOfOdds_24 : decode cX6_sumOfOdds 24 = .ok (.goto (-19), 3) := by decide +kernel
theorem dX6_sumOfOdds_27 : decode cX6_sumOfOdds 27 = .ok (.iload_n 3, 1) := by decide +kernel
theorem dX6_sumOfOdds_28 : decode cX6_sumOfOdds 28 = .ok (.ireturn, 1) := by decide +kernel
theorem dX6_keep_0 : decode cX6_keep 0 = .ok (.iload_n 2, 1) := by decide +kernel
theorem dX6_keep_1 : decode cX6_keep 1 = .ok (.ifCond .lt 25, 3) := by decide +kernel
theorem dX6_keep_4 : decode cX6_keep 4 = .ok (.iload_n 2, 1) := by decide +kernel
theorem dX6_keep_5 : decode cX6_keep 5 = .ok (.aload_n 1, 1) := by decide +kernel
theorem dX6_keep_6 : decode cX6_keep 6 = .ok (.arraylength, 1) := by decide +kernel
theorem dX6_keep_7 : decode cX6_keep 7 = .ok (.if_icmp .ge 19, 3) := by decide +kernel
theorem dX6_keep_10 : decode cX6_keep 10 = .ok (.aload_n 1, 1) := by decide +kernel
theorem dX6_keep_11 : decode cX6_keep 11 = .ok (.iload_n 2, 1) := by decide +kernel
theorem dX6_keep_12 : decode cX6_keep 12 = .ok (.iaload, 1) := by decide +kernel
theorem dX6_keep_13 : decode cX6_keep 13 = .ok (.iload_n 3, 1) := by decide +kernel
theorem dX6_keep_14 : decode cX6_keep 14 = .ok (.if_icmp .eq 12, 3) := by decide +kernel
theorem dX6_keep_17 : decode cX6_keep 17 = .ok (.aload_n 1, 1) := by decide +kernel
theorem dX6_keep_18 : decode cX6_keep 18 = .ok (.iload_n 2, 1) := by decide +kernel
theorem dX6_keep_19 : decode cX6_keep 19 = .ok (.iload_n 3, 1) := by decide +kernel
theorem dX6_keep_20 : decode cX6_keep 20 = .ok (.iastore, 1) := by decide +kernel
theorem dX6_keep_21 : decode cX6_keep 21 = .ok (.aload_n 0, 1) := by decide +kernel
theorem dX6_keep_22 : decode cX6_keep 22 = .ok (.iconst 1, 1) := by decide +kernel
theorem dX6_keep_23 : decode cX6_keep 23 = .ok (.putfield 53, 3) := by decide +kernel
theorem dX6_keep_26 : decode cX6_keep 26 = .ok (.return_, 1) := by decide +kernel
theorem dX6_isOddsCell_0 : decode cX6_isOddsCell 0 = .ok (.iload_n 0, 1) := by decide +kernel
theorem dX6_isOddsCell_1 : decode cX6_isOddsCell 1 = .ok (.ifCond .lt 22, 3) := by decide +kernel
theorem dX6_isOddsCell_4 : decode cX6_isOddsCell 4 = .ok (.iload_n 0, 1) := by decide +kernel
theorem dX6_isOddsCell_5 : decode cX6_isOddsCell 5 = .ok (.bipush 24, 2) := by decide +kernel
theorem dX6_isOddsCell_7 : decode cX6_isOddsCell 7 = .ok (.if_icmp .ge 16, 3) := by decide +kernel
theorem dX6_isOddsCell_10 : decode cX6_isOddsCell 10 = .ok (.iload_n 1, 1) := by decide +kernel
theorem dX6_isOddsCell_11 : decode cX6_isOddsCell 11 = .ok (.ifCond .lt 12, 3) := by decide +kernel
theorem dX6_isOddsCell_14 : decode cX6_isOddsCell 14 = .ok (.iload_n 1, 1) := by decide +kernel
theorem dX6_isOddsCell_15 : decode cX6_isOddsCell 15 = .ok (.iconst 3, 1) := by decide +kernel
theorem dX6_isOddsCell_16 : decode cX6_isOddsCell 16 = .ok (.if_icmp .ge 7, 3) := by decide +kernel
theorem dX6_isOddsCell_19 : decode cX6_isOddsCell 19 = .ok (.iconst 1, 1) := by decide +kernel
theorem dX6_isOddsCell_20 : decode cX6_isOddsCell 20 = .ok (.goto 4, 3) := by decide +kernel
theorem dX6_isOddsCell_23 : decode cX6_isOddsCell 23 = .ok (.iconst 0, 1) := by decide +kernel
theorem dX6_isOddsCell_24 : decode cX6_isOddsCell 24 = .ok (.ireturn, 1) := by decide +kernel
theorem dX6_isTableCell_0 : decode cX6_isTableCell 0 = .ok (.iload_n 0, 1) := by decide +kernel
theorem dX6_isTableCell_1 : decode cX6_isTableCell 1 = .ok (.ifCond .lt 31, 3) := by decide +kernel
theorem dX6_isTableCell_4 : decode cX6_isTableCell 4 = .ok (.iload_n 0, 1) := by decide +kernel
theorem dX6_isTableCell_5 : decode cX6_isTableCell 5 = .ok (.bipush 8, 2) := by decide +kernel
theorem dX6_isTableCell_7 : decode cX6_isTableCell 7 = .ok (.if_icmp .ge 25, 3) := by decide +kernel
theorem dX6_isTableCell_10 : decode cX6_isTableCell 10 = .ok (.iload_n 1, 1) := by decide +kernel
theorem dX6_isTableCell_11 : decode cX6_isTableCell 11 = .ok (.ifCond .lt 21, 3) := by decide +kernel
theorem dX6_isTableCell_14 : decode cX6_isTableCell 14 = .ok (.iload_n 1, 1) := by decide +kernel
theorem dX6_isTableCell_15 : decode cX6_isTableCell 15 = .ok (.iconst 3, 1) := by decide +kernel
theorem dX6_isTableCell_16 : decode cX6_isTableCell 16 = .ok (.if_icmp .ge 16, 3) := by decide +kernel
theorem dX6_isTableCell_19 : decode cX6_isTableCell 19 = .ok (.iload_n 2, 1) := by decide +kernel
theorem dX6_isTableCell_20 : decode cX6_isTableCell 20 = .ok (.ifCond .lt 12, 3) := by decide +kernel
theorem dX6_isTableCell_23 : decode cX6_isTableCell 23 = .ok (.iload_n 2, 1) := by decide +kernel
theorem dX6_isTableCell_24 : decode cX6_isTableCell 24 = .ok (.iconst 4, 1) := by decide +kernel
theorem dX6_isTableCell_25 : decode cX6_isTableCell 25 = .ok (.if_icmp .ge 7, 3) := by decide +kernel
theorem dX6_isTableCell_28 : decode cX6_isTableCell 28 = .ok (.iconst 1, 1) := by decide +kernel
theorem dX6_isTableCell_29 : decode cX6_isTableCell 29 = .ok (.goto 4, 3) := by decide +kernel
theorem dX6_isTableCell_32 : decode cX6_isTableCell 32 = .ok (.iconst 0, 1) := by decide +kernel
theorem dX6_isTableCell_33 : decode cX6_isTableCell 33 = .ok (.ireturn, 1) := by decide +kernel
theorem dX6_tableCell_0 : decode cX6_tableCell 0 = .ok (.iload_n 0, 1) := by decide +kernel
theorem dX6_tableCell_1 : decode cX6_tableCell 1 = .ok (.iconst 3, 1) := by decide +kernel
theorem dX6_tableCell_2 : decode cX6_tableCell 2 = .ok (.imul, 1) := by decide +kernel
theorem dX6_tableCell_3 : decode cX6_tableCell 3 = .ok (.iload_n 1, 1) := by decide +kernel
theorem dX6_tableCell_4 : decode cX6_tableCell 4 = .ok (.iadd, 1) := by decide +kernel
theorem dX6_tableCell_5 : decode cX6_tableCell 5 = .ok (.iconst 4, 1) := by decide +kernel
theorem dX6_tableCell_6 : decode cX6_tableCell 6 = .ok (.imul, 1) := by decide +kernel
theorem dX6_tableCell_7 : decode cX6_tableCell 7 = .ok (.iload_n 2, 1) := by decide +kernel
theorem dX6_tableCell_8 : decode cX6_tableCell 8 = .ok (.iadd, 1) := by decide +kernel
theorem dX6_tableCell_9 : decode cX6_tableCell 9 = .ok (.ireturn, 1) := by decide +kernel
theorem dX7_init_0 : decode cX7_init 0 = .ok (.aload_n 0, 1) := by decide +kernel
theorem dX7_init_1 : decode cX7_init 1 = .ok (.invokespecial 1, 3) := by decide +kernel
theorem dX7_init_4 : decode cX7_init 4 = .ok (.aload_n 0, 1) := by decide +kernel
theorem dX7_init_5 : decode cX7_init 5 = .ok (.new 7, 3) := by decide +kernel
theorem dX7_init_8 : decode cX7_init 8 = .ok (.dup, 1) := by decide +kernel
theorem dX7_init_9 : decode cX7_init 9 = .ok (.invokespecial 9, 3) := by decide +kernel
theorem dX7_init_12 : decode cX7_init 12 = .ok (.putfield 10, 3) := by decide +kernel
theorem dX7_init_15 : decode cX7_init 15 = .ok (.aload_n 0, 1) := by decide +kernel
theorem dX7_init_16 : decode cX7_init 16 = .ok (.new 16, 3) := by decide +kernel
theorem dX7_init_19 : decode cX7_init 19 = .ok (.dup, 1) := by decide +kernel
theorem dX7_init_20 : decode cX7_init 20 = .ok (.invokespecial 18, 3) := by decide +kernel
theorem dX7_init_23 : decode cX7_init 23 = .ok (.putfield 19, 3) := by decide +kernel
theorem dX7_init_26 : decode cX7_init 26 = .ok (.aload_n 0, 1) := by decide +kernel
theorem dX7_init_27 : decode cX7_init 27 = .ok (.new 23, 3) := by decide +kernel
theorem dX7_init_30 : decode cX7_init 30 = .ok (.dup, 1) := by decide +kernel
theorem dX7_init_31 : decode cX7_init 31 = .ok (.invokespecial 25, 3) := by decide +kernel
theorem dX7_init_34 : decode cX7_init 34 = .ok (.putfield 26, 3) := by decide +kernel
theorem dX7_init_37 : decode cX7_init 37 = .ok (.aload_n 0, 1) := by decide +kernel
theorem dX7_init_38 : decode cX7_init 38 = .ok (.new 30, 3) := by decide +kernel
theorem dX7_init_41 : decode cX7_init 41 = .ok (.dup, 1) := by decide +kernel
theorem dX7_init_42 : decode cX7_init 42 = .ok (.invokespecial 32, 3) := by decide +kernel
theorem dX7_init_45 : decode cX7_init 45 = .ok (.putfield 33, 3) := by decide +kernel
theorem dX7_init_48 : decode cX7_init 48 = .ok (.aload_n 0, 1) := by decide +kernel
theorem dX7_init_49 : decode cX7_init 49 = .ok (.new 37, 3) := by decide +kernel
theorem dX7_init_52 : decode cX7_init 52 = .ok (.dup, 1) := by decide +kernel
theorem dX7_init_53 : decode cX7_init 53 = .ok (.invokespecial 39, 3) := by decide +kernel
theorem dX7_init_56 : decode cX7_init 56 = .ok (.putfield 40, 3) := by decide +kernel
theorem dX7_init_59 : decode cX7_init 59 = .ok (.aload_n 0, 1) := by decide +kernel
theorem dX7_init_60 : decode cX7_init 60 = .ok (.new 44, 3) := by decide +kernel
theorem dX7_init_63 : decode cX7_init 63 = .ok (.dup, 1) := by decide +kernel
theorem dX7_init_64 : decode cX7_init 64 = .ok (.invokespecial 46, 3) := by decide +kernel
theorem dX7_init_67 : decode cX7_init 67 = .ok (.putfield 47, 3) := by decide +kernel
theorem dX7_init_70 : decode cX7_init 70 = .ok (.aload_n 0, 1) := by decide +kernel
theorem dX7_init_71 : decode cX7_init 71 = .ok (.new 51, 3) := by decide +kernel
theorem dX7_init_74 : decode cX7_init 74 = .ok (.dup, 1) := by decide +kernel
theorem dX7_init_75 : decode cX7_init 75 = .ok (.invokespecial 53, 3) := by decide +kernel
theorem dX7_init_78 : decode cX7_init 78 = .ok (.putfield 54, 3) := by decide +kernel
theorem dX7_init_81 : decode cX7_init 81 = .ok (.return_, 1) := by decide +kernel
theorem dX7_picture_0 : decode cX7_picture 0 = .ok (.iload_n 1, 1) := by decide +kernel
theorem dX7_picture_1 : decode cX7_picture 1 = .ok (.invokestatic 58, 3) := by decide +kernel
theorem dX7_picture_4 : decode cX7_picture 4 = .ok (.ifCond .eq 22, 3) := by decide +kernel
theorem dX7_picture_7 : decode cX7_picture 7 = .ok (.iload_n 2, 1) := by decide +kernel
theorem dX7_picture_8 : decode cX7_picture 8 = .ok (.iconst 0, 1) := by decide +kernel
theorem dX7_picture_9 : decode cX7_picture 9 = .ok (.iconst 1, 1) := by decide +kernel
theorem dX7_picture_10 : decode cX7_picture 10 = .ok (.invokestatic 62, 3) := by decide +kernel
theorem dX7_picture_13 : decode cX7_picture 13 = .ok (.ifCond .eq 13, 3) := by decide +kernel
theorem dX7_picture_16 : decode cX7_picture 16 = .ok (.iload_n 3, 1) := by decide +kernel
theorem dX7_picture_17 : decode cX7_picture 17 = .ok (.iconst 0, 1) := by decide +kernel
theorem dX7_picture_18 : decode cX7_picture 18 = .ok (.bipush 9, 2) := by decide +kernel
theorem dX7_picture_20 : decode cX7_picture 20 = .ok (.invokestatic 62, 3) := by decide +kernel
theorem dX7_picture_23 : decode cX7_picture 23 = .ok (.ifCond .ne 7, 3) := by decide +kernel
theorem dX7_picture_26 : decode cX7_picture 26 = .ok (.sipush (-1002), 3) := by decide +kernel
theorem dX7_picture_29 : decode cX7_picture 29 = .ok (.ireturn, 1) := by decide +kernel
theorem dX7_picture_30 : decode cX7_picture 30 = .ok (.aload_n 0, 1) := by decide +kernel
theorem dX7_picture_31 : decode cX7_picture 31 = .ok (.getfield 26, 3) := by decide +kernel
theorem dX7_picture_34 : decode cX7_picture 34 = .ok (.iload_n 1, 1) := by decide +kernel
theorem dX7_picture_35 : decode cX7_picture 35 = .ok (.iload_n 2, 1) := by decide +kernel
theorem dX7_picture_36 : decode cX7_picture 36 = .ok (.iload_n 3, 1) := by decide +kernel
theorem dX7_picture_37 : decode cX7_picture 37 = .ok (.iload 4, 2) := by decide +kernel
theorem dX7_picture_39 : decode cX7_picture 39 = .ok (.iconst (-1), 1) := by decide +kernel
theorem dX7_picture_40 : decode cX7_picture 40 = .ok (.invokevirtual 66, 3) := by decide +kernel
theorem dX7_picture_43 : decode cX7_picture 43 = .ok (.ireturn, 1) := by decide +kernel
theorem dX7_mirror_0 : decode cX7_mirror 0 = .ok (.aload_n 0, 1) := by decide +kernel
theorem dX7_mirror_1 : decode cX7_mirror 1 = .ok (.getfield 26, 3) := by decide +kernel
theorem dX7_mirror_4 : decode cX7_mirror 4 = .ok (.iload_n 1, 1) := by decide +kernel
theorem dX7_mirror_5 : decode cX7_mirror 5 = .ok (.invokevirtual 70, 3) := by decide +kernel
theorem dX7_mirror_8 : decode cX7_mirror 8 = .ok (.ifCond .ne 7, 3) := by decide +kernel
theorem dX7_mirror_11 : decode cX7_mirror 11 = .ok (.sipush (-1001), 3) := by decide +kernel
theorem dX7_mirror_14 : decode cX7_mirror 14 = .ok (.ireturn, 1) := by decide +kernel
theorem dX7_mirror_15 : decode cX7_mirror 15 = .ok (.aload_n 0, 1) := by decide +kernel
theorem dX7_mirror_16 : decode cX7_mirror 16 = .ok (.getfield 26, 3) := by decide +kernel
theorem dX7_mirror_19 : decode cX7_mirror 19 = .ok (.iload_n 1, 1) := by decide +kernel
theorem dX7_mirror_20 : decode cX7_mirror 20 = .ok (.invokevirtual 73, 3) := by decide +kernel
theorem dX7_mirror_23 : decode cX7_mirror 23 = .ok (.iconst (-1), 1) := by decide +kernel
theorem dX7_mirror_24 : decode cX7_mirror 24 = .ok (.if_icmp .eq 7, 3) := by decide +kernel
theorem dX7_mirror_27 : decode cX7_mirror 27 = .ok (.sipush (-1003), 3) := by decide +kernel
theorem dX7_mirror_30 : decode cX7_mirror 30 = .ok (.ireturn, 1) := by decide +kernel
theorem dX7_mirror_31 : decode cX7_mirror 31 = .ok (.aload_n 0, 1) := by decide +kernel
theorem dX7_mirror_32 : decode cX7_mirror 32 = .ok (.getfield 26, 3) := by decide +kernel
theorem dX7_mirror_35 : decode cX7_mirror 35 = .ok (.aload_n 0, 1) := by decide +kernel
theorem dX7_mirror_36 : decode cX7_mirror 36 = .ok (.getfield 26, 3) := by decide +kernel
theorem dX7_mirror_39 : decode cX7_mirror 39 = .ok (.iload_n 1, 1) := by decide +kernel
theorem dX7_mirror_40 : decode cX7_mirror 40 = .ok (.invokevirtual 77, 3) := by decide +kernel
theorem dX7_mirror_43 : decode cX7_mirror 43 = .ok (.invokestatic 80, 3) := by decide +kernel
theorem dX7_mirror_46 : decode cX7_mirror 46 = .ok (.aload_n 0, 1) := by decide +kernel
theorem dX7_mirror_47 : decode cX7_mirror 47 = .ok (.getfield 26, 3) := by decide +kernel
theorem dX7_mirror_50 : decode cX7_mirror 50 = .ok (.iload_n 1, 1) := by decide +kernel
theorem dX7_mirror_51 : decode cX7_mirror 51 = .ok (.invokevirtual 83, 3) := by decide +kernel
theorem dX7_mirror_54 : decode cX7_mirror 54 = .ok (.aload_n 0, 1) := by decide +kernel
theorem dX7_mirror_55 : decode cX7_mirror 55 = .ok (.getfield 26, 3) := by decide +kernel
theorem dX7_mirror_58 : decode cX7_mirror 58 = .ok (.iload_n 1, 1) := by decide +kernel
theorem dX7_mirror_59 : decode cX7_mirror 59 = .ok (.invokevirtual 86, 3) := by decide +kernel
theorem dX7_mirror_62 : decode cX7_mirror 62 = .ok (.iconst 0, 1) := by decide +kernel
theorem dX7_mirror_63 : decode cX7_mirror 63 = .ok (.iload_n 1, 1) := by decide +kernel
theorem dX7_mirror_64 : decode cX7_mirror 64 = .ok (.invokevirtual 66, 3) := by decide +kernel
theorem dX7_mirror_67 : decode cX7_mirror 67 = .ok (.ireturn, 1) := by decide +kernel
theorem dX7_looker_0 : decode cX7_looker 0 = .ok (.iload_n 1, 1) := by decide +kernel
theorem dX7_looker_1 : decode cX7_looker 1 = .ok (.iconst 0, 1) := by decide +kernel
theorem dX7_looker_2 : decode cX7_looker 2 = .ok (.iconst 5, 1) := by decide +kernel
theorem dX7_looker_3 : decode cX7_looker 3 = .ok (.invokestatic 62, 3) := by decide +kernel
theorem dX7_looker_6 : decode cX7_looker 6 = .ok (.ifCond .ne 7, 3) := by decide +kernel
theorem dX7_looker_9 : decode cX7_looker 9 = .ok (.sipush (-1002), 3) := by decide +kernel
theorem dX7_looker_12 : decode cX7_looker 12 = .ok (.ireturn, 1) := by decide +kernel
theorem dX7_looker_13 : decode cX7_looker 13 = .ok (.aload_n 0, 1) := by decide +kernel
theorem dX7_looker_14 : decode cX7_looker 14 = .ok (.getfield 33, 3) := by decide +kernel
theorem dX7_looker_17 : decode cX7_looker 17 = .ok (.iload_n 1, 1) := by decide +kernel
theorem dX7_looker_18 : decode cX7_looker 18 = .ok (.invokevirtual 89, 3) := by decide +kernel
theorem dX7_looker_21 : decode cX7_looker 21 = .ok (.ireturn, 1) := by decide +kernel
theorem dX7_feed_0 : decode cX7_feed 0 = .ok (.iload_n 1, 1) := by decide +kernel
theorem dX7_feed_1 : decode cX7_feed 1 = .ok (.iconst 1, 1) := by decide +kernel
theorem dX7_feed_2 : decode cX7_feed 2 = .ok (.bipush 8, 2) := by decide +kernel
theorem dX7_feed_4 : decode cX7_feed 4 = .ok (.invokestatic 62, 3) := by decide +kernel
theorem dX7_feed_7 : decode cX7_feed 7 = .ok (.ifCond .ne 7, 3) := by decide +kernel
theorem dX7_feed_10 : decode cX7_feed 10 = .ok (.sipush (-1002), 3) := by decide +kernel
theorem dX7_feed_13 : decode cX7_feed 13 = .ok (.ireturn, 1) := by decide +kernel
theorem dX7_feed_14 : decode cX7_feed 14 = .ok (.aload_n 0, 1) := by decide +kernel
theorem dX7_feed_15 : decode cX7_feed 15 = .ok (.getfield 10, 3) := by decide +kernel
theorem dX7_feed_18 : decode cX7_feed 18 = .ok (.iload_n 1, 1) := by decide +kernel
theorem dX7_feed_19 : decode cX7_feed 19 = .ok (.lload_n 2, 1) := by decide +kernel
theorem dX7_feed_20 : decode cX7_feed 20 = .ok (.invokevirtual 91, 3) := by decide +kernel
theorem dX7_feed_23 : decode cX7_feed 23 = .ok (.ireturn, 1) := by decide +kernel
theorem dX7_read_0 : decode cX7_read 0 = .ok (.aload_n 0, 1) := by decide +kernel
theorem dX7_read_1 : decode cX7_read 1 = .ok (.getfield 10, 3) := by decide +kernel
theorem dX7_read_4 : decode cX7_read 4 = .ok (.invokevirtual 95, 3) := by decide +kernel
theorem dX7_read_7 : decode cX7_read 7 = .ok (.ireturn, 1) := by decide +kernel
theorem dX7_fault_0 : decode cX7_fault 0 = .ok (.aload_n 0, 1) := by decide +kernel
theorem dX7_fault_1 : decode cX7_fault 1 = .ok (.getfield 10, 3) := by decide +kernel
theorem dX7_fault_4 : decode cX7_fault 4 = .ok (.invokevirtual 99, 3) := by decide +kernel
theorem dX7_fault_7 : decode cX7_fault 7 = .ok (.ireturn, 1) := by decide +kernel
theorem dX7_law_0 : decode cX7_law 0 = .ok (.iload_n 1, 1) := by decide +kernel
theorem dX7_law_1 : decode cX7_law 1 = .ok (.iconst 0, 1) := by decide +kernel
theorem dX7_law_2 : decode cX7_law 2 = .ok (.bipush 7, 2) := by decide +kernel
theorem dX7_law_4 : decode cX7_law 4 = .ok (.invokestatic 62, 3) := by decide +kernel
theorem dX7_law_7 : decode cX7_law 7 = .ok (.ifCond .eq 14, 3) := by decide +kernel
theorem dX7_law_10 : decode cX7_law 10 = .ok (.aload_n 0, 1) := by decide +kernel
theorem dX7_law_11 : decode cX7_law 11 = .ok (.getfield 10, 3) := by decide +kernel
theorem dX7_law_14 : decode cX7_law 14 = .ok (.iload_n 1, 1) := by decide +kernel
theorem dX7_law_15 : decode cX7_law 15 = .ok (.invokevirtual 102, 3) := by decide +kernel
theorem dX7_law_18 : decode cX7_law 18 = .ok (.goto 6, 3) := by decide +kernel
theorem dX7_law_21 : decode cX7_law 21 = .ok (.sipush (-1002), 3) := by decide +kernel
theorem dX7_law_24 : decode cX7_law 24 = .ok (.ireturn, 1) := by decide +kernel
theorem dX7_count_0 : decode cX7_count 0 = .ok (.iload_n 1, 1) := by decide +kernel
theorem dX7_count_1 : decode cX7_count 1 = .ok (.tableswitch 117 0 8 #[51, 59, 67, 75, 83, 91, 96, 104, 109], 51) := by decide +kernel
theorem dX7_count_52 : decode cX7_count 52 = .ok (.aload_n 0, 1) := by decide +kernel
theorem dX7_count_53 : decode cX7_count 53 = .ok (.getfield 26, 3) := by decide +kernel
theorem dX7_count_56 : decode cX7_count 56 = .ok (.invokevirtual 105, 3) := by decide +kernel
theorem dX7_count_59 : decode cX7_count 59 = .ok (.ireturn, 1) := by decide +kernel
theorem dX7_count_60 : decode cX7_count 60 = .ok (.aload_n 0, 1) := by decide +kernel
theorem dX7_count_61 : decode cX7_count 61 = .ok (.getfield 33, 3) := by decide +kernel
theorem dX7_count_64 : decode cX7_count 64 = .ok (.invokevirtual 108, 3) := by decide +kernel
theorem dX7_count_67 : decode cX7_count 67 = .ok (.ireturn, 1) := by decide +kernel
theorem dX7_count_68 : decode cX7_count 68 = .ok (.aload_n 0, 1) := by decide +kernel
theorem dX7_count_69 : decode cX7_count 69 = .ok (.getfield 40, 3) := by decide +kernel
theorem dX7_count_72 : decode cX7_count 72 = .ok (.invokevirtual 109, 3) := by decide +kernel
theorem dX7_count_75 : decode cX7_count 75 = .ok (.ireturn, 1) := by decide +kernel
theorem dX7_count_76 : decode cX7_count 76 = .ok (.aload_n 0, 1) := by decide +kernel
theorem dX7_count_77 : decode cX7_count 77 = .ok (.getfield 26, 3) := by decide +kernel
theorem dX7_count_80 : decode cX7_count 80 = .ok (.invokevirtual 110, 3) := by decide +kernel
theorem dX7_count_83 : decode cX7_count 83 = .ok (.ireturn, 1) := by decide +kernel
theorem dX7_count_84 : decode cX7_count 84 = .ok (.aload_n 0, 1) := by decide +kernel
theorem dX7_count_85 : decode cX7_count 85 = .ok (.getfield 26, 3) := by decide +kernel
theorem dX7_count_88 : decode cX7_count 88 = .ok (.invokevirtual 113, 3) := by decide +kernel
theorem dX7_count_91 : decode cX7_count 91 = .ok (.ireturn, 1) := by decide +kernel
theorem dX7_count_92 : decode cX7_count 92 = .ok (.aload_n 0, 1) := by decide +kernel
theorem dX7_count_93 : decode cX7_count 93 = .ok (.invokevirtual 116, 3) := by decide +kernel
theorem dX7_count_96 : decode cX7_count 96 = .ok (.ireturn, 1) := by decide +kernel
theorem dX7_count_97 : decode cX7_count 97 = .ok (.aload_n 0, 1) := by decide +kernel
theorem dX7_count_98 : decode cX7_count 98 = .ok (.getfield 10, 3) := by decide +kernel
theorem dX7_count_101 : decode cX7_count 101 = .ok (.invokevirtual 119, 3) := by decide +kernel
theorem dX7_count_104 : decode cX7_count 104 = .ok (.ireturn, 1) := by decide +kernel
theorem dX7_count_105 : decode cX7_count 105 = .ok (.aload_n 0, 1) := by decide +kernel
theorem dX7_count_106 : decode cX7_count 106 = .ok (.invokevirtual 122, 3) := by decide +kernel
theorem dX7_count_109 : decode cX7_count 109 = .ok (.ireturn, 1) := by decide +kernel
theorem dX7_count_110 : decode cX7_count 110 = .ok (.aload_n 0, 1) := by decide +kernel
theorem dX7_count_111 : decode cX7_count 111 = .ok (.getfield 47, 3) := by decide +kernel
theorem dX7_count_114 : decode cX7_count 114 = .ok (.invokevirtual 125, 3) := by decide +kernel
theorem dX7_count_117 : decode cX7_count 117 = .ok (.ireturn, 1) := by decide +kernel
theorem dX7_count_118 : decode cX7_count 118 = .ok (.sipush (-1002), 3) := by decide +kernel
theorem dX7_count_121 : decode cX7_count 121 = .ok (.ireturn, 1) := by decide +kernel
theorem dX7_told_0 : decode cX7_told 0 = .ok (.aload_n 0, 1) := by decide +kernel
theorem dX7_told_1 : decode cX7_told 1 = .ok (.getfield 26, 3) := by decide +kernel
theorem dX7_told_4 : decode cX7_told 4 = .ok (.iload_n 1, 1) := by decide +kernel
theorem dX7_told_5 : decode cX7_told 5 = .ok (.invokevirtual 70, 3) := by decide +kernel
theorem dX7_told_8 : decode cX7_told 8 = .ok (.ifCond .ne 7, 3) := by decide +kernel
theorem dX7_told_11 : decode cX7_told 11 = .ok (.sipush (-1001), 3) := by decide +kernel
theorem dX7_told_14 : decode cX7_told 14 = .ok (.ireturn, 1) := by decide +kernel
theorem dX7_told_15 : decode cX7_told 15 = .ok (.iload_n 2, 1) := by decide +kernel
theorem dX7_told_16 : decode cX7_told 16 = .ok (.tableswitch 123 0 7 #[48, 57, 66, 75, 87, 96, 105, 114], 48) := by decide +kernel
theorem dX7_told_64 : decode cX7_told 64 = .ok (.aload_n 0, 1) := by decide +kernel
theorem dX7_told_65 : decode cX7_told 65 = .ok (.getfield 26, 3) := by decide +kernel
theorem dX7_told_68 : decode cX7_told 68 = .ok (.iload_n 1, 1) := by decide +kernel
theorem dX7_told_69 : decode cX7_told 69 = .ok (.invokevirtual 77, 3) := by decide +kernel
theorem dX7_told_72 : decode cX7_told 72 = .ok (.ireturn, 1) := by decide +kernel
theorem dX7_told_73 : decode cX7_told 73 = .ok (.aload_n 0, 1) := by decide +kernel
theorem dX7_told_74 : decode cX7_told 74 = .ok (.getfield 26, 3) := by decide +kernel
theorem dX7_told_77 : decode cX7_told 77 = .ok (.iload_n 1, 1) := by decide +kernel
theorem dX7_told_78 : decode cX7_told 78 = .ok (.invokevirtual 83, 3) := by decide +kernel
theorem dX7_told_81 : decode cX7_told 81 = .ok (.ireturn, 1) := by decide +kernel
theorem dX7_told_82 : decode cX7_told 82 = .ok (.aload_n 0, 1) := by decide +kernel
theorem dX7_told_83 : decode cX7_told 83 = .ok (.getfield 26, 3) := by decide +kernel
theorem dX7_told_86 : decode cX7_told 86 = .ok (.iload_n 1, 1) := by decide +kernel
theorem dX7_told_87 : decode cX7_told 87 = .ok (.invokevirtual 86, 3) := by decide +kernel
theorem dX7_told_90 : decode cX7_told 90 = .ok (.ireturn, 1) := by decide +kernel
theorem dX7_told_91 : decode cX7_told 91 = .ok (.aload_n 0, 1) := by decide +kernel
theorem dX7_told_92 : decode cX7_told 92 = .ok (.getfield 26, 3) := by decide +kernel
theorem dX7_told_95 : decode cX7_told 95 = .ok (.iload_n 1, 1) := by decide +kernel
theorem dX7_told_96 : decode cX7_told 96 = .ok (.invokevirtual 128, 3) := by decide +kernel
theorem dX7_told_99 : decode cX7_told 99 = .ok (.invokestatic 131, 3) := by decide +kernel
theorem dX7_told_102 : decode cX7_told 102 = .ok (.ireturn, 1) := by decide +kernel
theorem dX7_told_103 : decode cX7_told 103 = .ok (.aload_n 0, 1) := by decide +kernel
theorem dX7_told_104 : decode cX7_told 104 = .ok (.getfield 26, 3) := by decide +kernel
theorem dX7_told_107 : decode cX7_told 107 = .ok (.iload_n 1, 1) := by decide +kernel
theorem dX7_told_108 : decode cX7_told 108 = .ok (.invokevirtual 73, 3) := by decide +kernel
theorem dX7_told_111 : decode cX7_told 111 = .ok (.ireturn, 1) := by decide +kernel
theorem dX7_told_112 : decode cX7_told 112 = .ok (.aload_n 0, 1) := by decide +kernel
theorem dX7_told_113 : decode cX7_told 113 = .ok (.getfield 40, 3) := by decide +kernel
theorem dX7_told_116 : decode cX7_told 116 = .ok (.iload_n 1, 1) := by decide +kernel
theorem dX7_told_117 : decode cX7_told 117 = .ok (.invokevirtual 135, 3) := by decide +kernel
theorem dX7_told_120 : decode cX7_told 120 = .ok (.ireturn, 1) := by decide +kernel
theorem dX7_told_121 : decode cX7_told 121 = .ok (.aload_n 0, 1) := by decide +kernel
theorem dX7_told_122 : decode cX7_told 122 = .ok (.getfield 40, 3) := by decide +kernel
theorem dX7_told_125 : decode cX7_told 125 = .ok (.iload_n 1, 1) := by decide +kernel
theorem dX7_told_126 : decode cX7_told 126 = .ok (.invokevirtual 138, 3) := by decide +kernel
theorem dX7_told_129 : decode cX7_told 129 = .ok (.ireturn, 1) := by decide +kernel
theorem dX7_told_130 : decode cX7_told 130 = .ok (.aload_n 0, 1) := by decide +kernel
theorem dX7_told_131 : decode cX7_told 131 = .ok (.iload_n 1, 1) := by decide +kernel
theorem dX7_told_132 : decode cX7_told 132 = .ok (.invokevirtual 141, 3) := by decide +kernel
theorem dX7_told_135 : decode cX7_told 135 = .ok (.invokestatic 131, 3) := by decide +kernel
theorem dX7_told_138 : decode cX7_told 138 = .ok (.ireturn, 1) := by decide +kernel
theorem dX7_told_139 : decode cX7_told 139 = .ok (.sipush (-1002), 3) := by decide +kernel
theorem dX7_told_142 : decode cX7_told 142 = .ok (.ireturn, 1) := by decide +kernel
theorem dX7_seed_0 : decode cX7_seed 0 = .ok (.iload_n 1, 1) := by decide +kernel
theorem dX7_seed_1 : decode cX7_seed 1 = .ok (.ifCond .ge 9, 3) := by decide +kernel
theorem dX7_seed_4 : decode cX7_seed 4 = .ok (.sipush (-1002), 3) := by decide +kernel
theorem dX7_seed_7 : decode cX7_seed 7 = .ok (.goto 11, 3) := by decide +kernel
theorem dX7_seed_10 : decode cX7_seed 10 = .ok (.aload_n 0, 1) := by decide +kernel
theorem dX7_seed_11 : decode cX7_seed 11 = .ok (.getfield 19, 3) := by decide +kernel
theorem dX7_seed_14 : decode cX7_seed 14 = .ok (.iload_n 1, 1) := by decide +kernel
theorem dX7_seed_15 : decode cX7_seed 15 = .ok (.invokevirtual 144, 3) := by decide +kernel
theorem dX7_seed_18 : decode cX7_seed 18 = .ok (.ireturn, 1) := by decide +kernel
theorem dX7_look_0 : decode cX7_look 0 = .ok (.aload_n 0, 1) := by decide +kernel
theorem dX7_look_1 : decode cX7_look 1 = .ok (.getfield 33, 3) := by decide +kernel
theorem dX7_look_4 : decode cX7_look 4 = .ok (.iload_n 1, 1) := by decide +kernel
theorem dX7_look_5 : decode cX7_look 5 = .ok (.invokevirtual 147, 3) := by decide +kernel
theorem dX7_look_8 : decode cX7_look 8 = .ok (.ifCond .eq 14, 3) := by decide +kernel
theorem dX7_look_11 : decode cX7_look 11 = .ok (.aload_n 0, 1) := by decide +kernel
theorem dX7_look_12 : decode cX7_look 12 = .ok (.getfield 26, 3) := by decide +kernel
theorem dX7_look_15 : decode cX7_look 15 = .ok (.iload_n 2, 1) := by decide +kernel
theorem dX7_look_16 : decode cX7_look 16 = .ok (.invokevirtual 70, 3) := by decide +kernel
theorem dX7_look_19 : decode cX7_look 19 = .ok (.ifCond .ne 7, 3) := by decide +kernel
theorem dX7_look_22 : decode cX7_look 22 = .ok (.sipush (-1001), 3) := by decide +kernel
theorem dX7_look_25 : decode cX7_look 25 = .ok (.ireturn, 1) := by decide +kernel
theorem dX7_look_26 : decode cX7_look 26 = .ok (.iload_n 3, 1) := by decide +kernel
theorem dX7_look_27 : decode cX7_look 27 = .ok (.iconst 0, 1) := by decide +kernel
theorem dX7_look_28 : decode cX7_look 28 = .ok (.iconst 3, 1) := by decide +kernel
theorem dX7_look_29 : decode cX7_look 29 = .ok (.invokestatic 62, 3) := by decide +kernel
theorem dX7_look_32 : decode cX7_look 32 = .ok (.ifCond .ne 7, 3) := by decide +kernel
theorem dX7_look_35 : decode cX7_look 35 = .ok (.sipush (-1002), 3) := by decide +kernel
theorem dX7_look_38 : decode cX7_look 38 = .ok (.ireturn, 1) := by decide +kernel
theorem dX7_look_39 : decode cX7_look 39 = .ok (.aload_n 0, 1) := by decide +kernel
theorem dX7_look_40 : decode cX7_look 40 = .ok (.getfield 40, 3) := by decide +kernel
theorem dX7_look_43 : decode cX7_look 43 = .ok (.iload_n 1, 1) := by decide +kernel
theorem dX7_look_44 : decode cX7_look 44 = .ok (.iload_n 2, 1) := by decide +kernel
theorem dX7_look_45 : decode cX7_look 45 = .ok (.invokevirtual 148, 3) := by decide +kernel
theorem dX7_look_48 : decode cX7_look 48 = .ok (.iconst (-1), 1) := by decide +kernel
theorem dX7_look_49 : decode cX7_look 49 = .ok (.if_icmp .eq 7, 3) := by decide +kernel
theorem dX7_look_52 : decode cX7_look 52 = .ok (.sipush (-1003), 3) := by decide +kernel
theorem dX7_look_55 : decode cX7_look 55 = .ok (.ireturn, 1) := by decide +kernel
theorem dX7_look_56 : decode cX7_look 56 = .ok (.aload_n 0, 1) := by decide +kernel
theorem dX7_look_57 : decode cX7_look 57 = .ok (.getfield 40, 3) := by decide +kernel
theorem dX7_look_60 : decode cX7_look 60 = .ok (.iload_n 1, 1) := by decide +kernel
theorem dX7_look_61 : decode cX7_look 61 = .ok (.iload_n 2, 1) := by decide +kernel
theorem dX7_look_62 : decode cX7_look 62 = .ok (.iload_n 3, 1) := by decide +kernel
theorem dX7_look_63 : decode cX7_look 63 = .ok (.invokevirtual 152, 3) := by decide +kernel
theorem dX7_look_66 : decode cX7_look 66 = .ok (.ireturn, 1) := by decide +kernel
theorem dX7_says_0 : decode cX7_says 0 = .ok (.aload_n 0, 1) := by decide +kernel
theorem dX7_says_1 : decode cX7_says 1 = .ok (.getfield 33, 3) := by decide +kernel
theorem dX7_says_4 : decode cX7_says 4 = .ok (.iload_n 1, 1) := by decide +kernel
theorem dX7_says_5 : decode cX7_says 5 = .ok (.invokevirtual 147, 3) := by decide +kernel
theorem dX7_says_8 : decode cX7_says 8 = .ok (.ifCond .eq 14, 3) := by decide +kernel
theorem dX7_says_11 : decode cX7_says 11 = .ok (.aload_n 0, 1) := by decide +kernel
theorem dX7_says_12 : decode cX7_says 12 = .ok (.getfield 26, 3) := by decide +kernel
theorem dX7_says_15 : decode cX7_says 15 = .ok (.iload_n 2, 1) := by decide +kernel
theorem dX7_says_16 : decode cX7_says 16 = .ok (.invokevirtual 70, 3) := by decide +kernel
theorem dX7_says_19 : decode cX7_says 19 = .ok (.ifCond .ne 7, 3) := by decide +kernel
theorem dX7_says_22 : decode cX7_says 22 = .ok (.sipush (-1001), 3) := by decide +kernel
theorem dX7_says_25 : decode cX7_says 25 = .ok (.ireturn, 1) := by decide +kernel
theorem dX7_says_26 : decode cX7_says 26 = .ok (.aload_n 0, 1) := by decide +kernel
theorem dX7_says_27 : decode cX7_says 27 = .ok (.getfield 40, 3) := by decide +kernel
theorem dX7_says_30 : decode cX7_says 30 = .ok (.iload_n 1, 1) := by decide +kernel
theorem dX7_says_31 : decode cX7_says 31 = .ok (.iload_n 2, 1) := by decide +kernel
theorem dX7_says_32 : decode cX7_says 32 = .ok (.invokevirtual 148, 3) := by decide +kernel
theorem dX7_says_35 : decode cX7_says 35 = .ok (.iconst (-1), 1) := by decide +kernel
theorem dX7_says_36 : decode cX7_says 36 = .ok (.if_icmp .eq 7, 3) := by decide +kernel
theorem dX7_says_39 : decode cX7_says 39 = .ok (.sipush (-1003), 3) := by decide +kernel
theorem dX7_says_42 : decode cX7_says 42 = .ok (.ireturn, 1) := by decide +kernel
theorem dX7_says_43 : decode cX7_says 43 = .ok (.aload_n 0, 1) := by decide +kernel
theorem dX7_says_44 : decode cX7_says 44 = .ok (.getfield 40, 3) := by decide +kernel
theorem dX7_says_47 : decode cX7_says 47 = .ok (.invokevirtual 155, 3) := by decide +kernel
theorem dX7_says_50 : decode cX7_says 50 = .ok (.ifCond .eq 7, 3) := by decide +kernel
theorem dX7_says_53 : decode cX7_says 53 = .ok (.sipush (-1004), 3) := by decide +kernel
theorem dX7_says_56 : decode cX7_says 56 = .ok (.ireturn, 1) := by decide +kernel
theorem dX7_says_57 : decode cX7_says 57 = .ok (.aload_n 0, 1) := by decide +kernel
theorem dX7_says_58 : decode cX7_says 58 = .ok (.iload_n 1, 1) := by decide +kernel
theorem dX7_says_59 : decode cX7_says 59 = .ok (.iload_n 2, 1) := by decide +kernel
theorem dX7_says_60 : decode cX7_says 60 = .ok (.invokevirtual 159, 3) := by decide +kernel
theorem dX7_says_63 : decode cX7_says 63 = .ok (.ireturn, 1) := by decide +kernel
theorem dX7_about_0 : decode cX7_about 0 = .ok (.aload_n 0, 1) := by decide +kernel
theorem dX7_about_1 : decode cX7_about 1 = .ok (.getfield 40, 3) := by decide +kernel
theorem dX7_about_4 : decode cX7_about 4 = .ok (.iload_n 1, 1) := by decide +kernel
theorem dX7_about_5 : decode cX7_about 5 = .ok (.invokevirtual 162, 3) := by decide +kernel
theorem dX7_about_8 : decode cX7_about 8 = .ok (.ifCond .ne 7, 3) := by decide +kernel
theorem dX7_about_11 : decode cX7_about 11 = .ok (.sipush (-1001), 3) := by decide +kernel
theorem dX7_about_14 : decode cX7_about 14 = .ok (.ireturn, 1) := by decide +kernel
theorem dX7_about_15 : decode cX7_about 15 = .ok (.iload_n 2, 1) := by decide +kernel
theorem dX7_about_16 : decode cX7_about 16 = .ok (.tableswitch 71 0 3 #[32, 41, 50, 59], 32) := by decide +kernel
theorem dX7_about_48 : decode cX7_about 48 = .ok (.aload_n 0, 1) := by decide +kernel
theorem dX7_about_49 : decode cX7_about 49 = .ok (.getfield 40, 3) := by decide +kernel
theorem dX7_about_52 : decode cX7_about 52 = .ok (.iload_n 1, 1) := by decide +kernel
theorem dX7_about_53 : decode cX7_about 53 = .ok (.invokevirtual 163, 3) := by decide +kernel
theorem dX7_about_56 : decode cX7_about 56 = .ok (.ireturn, 1) := by decide +kernel
theorem dX7_about_57 : decode cX7_about 57 = .ok (.aload_n 0, 1) := by decide +kernel
theorem dX7_about_58 : decode cX7_about 58 = .ok (.getfield 40, 3) := by decide +kernel
theorem dX7_about_61 : decode cX7_about 61 = .ok (.iload_n 1, 1) := by decide +kernel
theorem dX7_about_62 : decode cX7_about 62 = .ok (.invokevirtual 166, 3) := by decide +kernel
theorem dX7_about_65 : decode cX7_about 65 = .ok (.ireturn, 1) := by decide +kernel
theorem dX7_about_66 : decode cX7_about 66 = .ok (.aload_n 0, 1) := by decide +kernel
theorem dX7_about_67 : decode cX7_about 67 = .ok (.getfield 40, 3) := by decide +kernel
theorem dX7_about_70 : decode cX7_about 70 = .ok (.iload_n 1, 1) := by decide +kernel
theorem dX7_about_71 : decode cX7_about 71 = .ok (.invokevirtual 169, 3) := by decide +kernel
theorem dX7_about_74 : decode cX7_about 74 = .ok (.ireturn, 1) := by decide +kernel
theorem dX7_about_75 : decode cX7_about 75 = .ok (.aload_n 0, 1) := by decide +kernel
theorem dX7_about_76 : decode cX7_about 76 = .ok (.getfield 40, 3) := by decide +kernel
theorem dX7_about_79 : decode cX7_about 79 = .ok (.iload_n 1, 1) := by decide +kernel
theorem dX7_about_80 : decode cX7_about 80 = .ok (.invokevirtual 172, 3) := by decide +kernel
theorem dX7_about_83 : decode cX7_about 83 = .ok (.invokestatic 131, 3) := by decide +kernel
theorem dX7_about_86 : decode cX7_about 86 = .ok (.ireturn, 1) := by decide +kernel
theorem dX7_about_87 : decode cX7_about 87 = .ok (.sipush (-1002), 3) := by decide +kernel
theorem dX7_about_90 : decode cX7_about 90 = .ok (.ireturn, 1) := by decide +kernel
theorem dX7_next_0 : decode cX7_next 0 = .ok (.aload_n 0, 1) := by decide +kernel
theorem dX7_next_1 : decode cX7_next 1 = .ok (.getfield 33, 3) := by decide +kernel
theorem dX7_next_4 : decode cX7_next 4 = .ok (.iload_n 1, 1) := by decide +kernel
theorem dX7_next_5 : decode cX7_next 5 = .ok (.invokevirtual 147, 3) := by decide +kernel
theorem dX7_next_8 : decode cX7_next 8 = .ok (.ifCond .ne 7, 3) := by decide +kernel
theorem dX7_next_11 : decode cX7_next 11 = .ok (.sipush (-1001), 3) := by decide +kernel
theorem dX7_next_14 : decode cX7_next 14 = .ok (.ireturn, 1) := by decide +kernel
theorem dX7_next_15 : decode cX7_next 15 = .ok (.iload_n 2, 1) := by decide +kernel
theorem dX7_next_16 : decode cX7_next 16 = .ok (.invokestatic 175, 3) := by decide +kernel
theorem dX7_next_19 : decode cX7_next 19 = .ok (.ifCond .eq 12, 3) := by decide +kernel
theorem dX7_next_22 : decode cX7_next 22 = .ok (.aload_n 0, 1) := by decide +kernel
theorem dX7_next_23 : decode cX7_next 23 = .ok (.iload_n 1, 1) := by decide +kernel
theorem dX7_next_24 : decode cX7_next 24 = .ok (.iload_n 2, 1) := by decide +kernel
theorem dX7_next_25 : decode cX7_next 25 = .ok (.invokevirtual 178, 3) := by decide +kernel
theorem dX7_next_28 : decode cX7_next 28 = .ok (.goto 6, 3) := by decide +kernel
theorem dX7_next_31 : decode cX7_next 31 = .ok (.sipush (-1002), 3) := by decide +kernel
theorem dX7_next_34 : decode cX7_next 34 = .ok (.ireturn, 1) := by decide +kernel
theorem dX7_evening_0 : decode cX7_evening 0 = .ok (.iload_n 1, 1) := by decide +kernel
theorem dX7_evening_1 : decode cX7_evening 1 = .ok (.aload_n 0, 1) := by decide +kernel
theorem dX7_evening_2 : decode cX7_evening 2 = .ok (.getfield 33, 3) := by decide +kernel
theorem dX7_evening_5 : decode cX7_evening 5 = .ok (.invokevirtual 108, 3) := by decide +kernel
theorem dX7_evening_8 : decode cX7_evening 8 = .ok (.invokestatic 181, 3) := by decide +kernel
theorem dX7_evening_11 : decode cX7_evening 11 = .ok (.ifCond .ne 7, 3) := by decide +kernel
theorem dX7_evening_14 : decode cX7_evening 14 = .ok (.sipush (-1001), 3) := by decide +kernel
theorem dX7_evening_17 : decode cX7_evening 17 = .ok (.ireturn, 1) := by decide +kernel
theorem dX7_evening_18 : decode cX7_evening 18 = .ok (.iload_n 2, 1) := by decide +kernel
theorem dX7_evening_19 : decode cX7_evening 19 = .ok (.iconst 1, 1) := by decide +kernel
theorem dX7_evening_20 : decode cX7_evening 20 = .ok (.bipush 20, 2) := by decide +kernel
theorem dX7_evening_22 : decode cX7_evening 22 = .ok (.invokestatic 62, 3) := by decide +kernel
theorem dX7_evening_25 : decode cX7_evening 25 = .ok (.ifCond .eq 10, 3) := by decide +kernel
theorem dX7_evening_28 : decode cX7_evening 28 = .ok (.iload_n 3, 1) := by decide +kernel
theorem dX7_evening_29 : decode cX7_evening 29 = .ok (.invokestatic 175, 3) := by decide +kernel
theorem dX7_evening_32 : decode cX7_evening 32 = .ok (.ifCond .ne 7, 3) := by decide +kernel
theorem dX7_evening_35 : decode cX7_evening 35 = .ok (.sipush (-1002), 3) := by decide +kernel
theorem dX7_evening_38 : decode cX7_evening 38 = .ok (.ireturn, 1) := by decide +kernel
theorem dX7_evening_39 : decode cX7_evening 39 = .ok (.aload_n 0, 1) := by decide +kernel
theorem dX7_evening_40 : decode cX7_evening 40 = .ok (.getfield 40, 3) := by decide +kernel
theorem dX7_evening_43 : decode cX7_evening 43 = .ok (.invokevirtual 109, 3) := by decide +kernel
theorem dX7_evening_46 : decode cX7_evening 46 = .ok (.istore 4, 2) := by decide +kernel
theorem dX7_evening_48 : decode cX7_evening 48 = .ok (.iconst 0, 1) := by decide +kernel
theorem dX7_evening_49 : decode cX7_evening 49 = .ok (.istore 5, 2) := by decide +kernel
theorem dX7_evening_51 : decode cX7_evening 51 = .ok (.iload 5, 2) := by decide +kernel
theorem dX7_evening_53 : decode cX7_evening 53 = .ok (.iload_n 2, 1) := by decide +kernel
theorem dX7_evening_54 : decode cX7_evening 54 = .ok (.if_icmp .ge 15, 3) := by decide +kernel
theorem dX7_evening_57 : decode cX7_evening 57 = .ok (.aload_n 0, 1) := by decide +kernel
theorem dX7_evening_58 : decode cX7_evening 58 = .ok (.iload_n 1, 1) := by decide +kernel
theorem dX7_evening_59 : decode cX7_evening 59 = .ok (.iload_n 3, 1) := by decide +kernel
theorem dX7_evening_60 : decode cX7_evening 60 = .ok (.invokevirtual 185, 3) := by decide +kernel
theorem dX7_evening_63 : decode cX7_evening 63 = .ok (.iinc 5 1, 3) := by decide +kernel
theorem dX7_evening_66 : decode cX7_evening 66 = .ok (.goto (-15), 3) := by decide +kernel
theorem dX7_evening_69 : decode cX7_evening 69 = .ok (.aload_n 0, 1) := by decide +kernel
theorem dX7_evening_70 : decode cX7_evening 70 = .ok (.getfield 40, 3) := by decide +kernel
theorem dX7_evening_73 : decode cX7_evening 73 = .ok (.invokevirtual 109, 3) := by decide +kernel
theorem dX7_evening_76 : decode cX7_evening 76 = .ok (.iload 4, 2) := by decide +kernel
theorem dX7_evening_78 : decode cX7_evening 78 = .ok (.isub, 1) := by decide +kernel
theorem dX7_evening_79 : decode cX7_evening 79 = .ok (.ireturn, 1) := by decide +kernel
theorem dX7_stays_0 : decode cX7_stays 0 = .ok (.aload_n 0, 1) := by decide +kernel
theorem dX7_stays_1 : decode cX7_stays 1 = .ok (.getfield 33, 3) := by decide +kernel
theorem dX7_stays_4 : decode cX7_stays 4 = .ok (.iload_n 1, 1) := by decide +kernel
theorem dX7_stays_5 : decode cX7_stays 5 = .ok (.invokevirtual 147, 3) := by decide +kernel
theorem dX7_stays_8 : decode cX7_stays 8 = .ok (.ifCond .eq 14, 3) := by decide +kernel
theorem dX7_stays_11 : decode cX7_stays 11 = .ok (.aload_n 0, 1) := by decide +kernel
theorem dX7_stays_12 : decode cX7_stays 12 = .ok (.iload_n 1, 1) := by decide +kernel
theorem dX7_stays_13 : decode cX7_stays 13 = .ok (.invokevirtual 189, 3) := by decide +kernel
theorem dX7_stays_16 : decode cX7_stays 16 = .ok (.invokestatic 131, 3) := by decide +kernel
theorem dX7_stays_19 : decode cX7_stays 19 = .ok (.goto 6, 3) := by decide +kernel
theorem dX7_stays_22 : decode cX7_stays 22 = .ok (.sipush (-1001), 3) := by decide +kernel
theorem dX7_stays_25 : decode cX7_stays 25 = .ok (.ireturn, 1) := by decide +kernel
theorem dX7_reckon_0 : decode cX7_reckon 0 = .ok (.aload_n 0, 1) := by decide +kernel
theorem dX7_reckon_1 : decode cX7_reckon 1 = .ok (.getfield 47, 3) := by decide +kernel
theorem dX7_reckon_4 : decode cX7_reckon 4 = .ok (.aload_n 0, 1) := by decide +kernel
theorem dX7_reckon_5 : decode cX7_reckon 5 = .ok (.getfield 26, 3) := by decide +kernel
theorem dX7_reckon_8 : decode cX7_reckon 8 = .ok (.aload_n 0, 1) := by decide +kernel
theorem dX7_reckon_9 : decode cX7_reckon 9 = .ok (.getfield 40, 3) := by decide +kernel
theorem dX7_reckon_12 : decode cX7_reckon 12 = .ok (.invokevirtual 192, 3) := by decide +kernel
theorem dX7_reckon_15 : decode cX7_reckon 15 = .ok (.ireturn, 1) := by decide +kernel
theorem dX7_odds_0 : decode cX7_odds 0 = .ok (.aload_n 0, 1) := by decide +kernel
theorem dX7_odds_1 : decode cX7_odds 1 = .ok (.getfield 26, 3) := by decide +kernel
theorem dX7_odds_4 : decode cX7_odds 4 = .ok (.iload_n 1, 1) := by decide +kernel
theorem dX7_odds_5 : decode cX7_odds 5 = .ok (.invokevirtual 70, 3) := by decide +kernel
theorem dX7_odds_8 : decode cX7_odds 8 = .ok (.ifCond .ne 7, 3) := by decide +kernel
theorem dX7_odds_11 : decode cX7_odds 11 = .ok (.sipush (-1001), 3) := by decide +kernel
theorem dX7_odds_14 : decode cX7_odds 14 = .ok (.ireturn, 1) := by decide +kernel
theorem dX7_odds_15 : decode cX7_odds 15 = .ok (.iload_n 2, 1) := by decide +kernel
theorem dX7_odds_16 : decode cX7_odds 16 = .ok (.invokestatic 58, 3) := by decide +kernel
theorem dX7_odds_19 : decode cX7_odds 19 = .ok (.ifCond .eq 15, 3) := by decide +kernel
theorem dX7_odds_22 : decode cX7_odds 22 = .ok (.aload_n 0, 1) := by decide +kernel
theorem dX7_odds_23 : decode cX7_odds 23 = .ok (.getfield 47, 3) := by decide +kernel
theorem dX7_odds_26 : decode cX7_odds 26 = .ok (.iload_n 1, 1) := by decide +kernel
theorem dX7_odds_27 : decode cX7_odds 27 = .ok (.iload_n 2, 1) := by decide +kernel
theorem dX7_odds_28 : decode cX7_odds 28 = .ok (.invokevirtual 196, 3) := by decide +kernel
theorem dX7_odds_31 : decode cX7_odds 31 = .ok (.goto 6, 3) := by decide +kernel
theorem dX7_odds_34 : decode cX7_odds 34 = .ok (.sipush (-1002), 3) := by decide +kernel
theorem dX7_odds_37 : decode cX7_odds 37 = .ok (.ireturn, 1) := by decide +kernel
theorem dX7_table_0 : decode cX7_table 0 = .ok (.aload_n 0, 1) := by decide +kernel
theorem dX7_table_1 : decode cX7_table 1 = .ok (.getfield 33, 3) := by decide +kernel
theorem dX7_table_4 : decode cX7_table 4 = .ok (.iload_n 1, 1) := by decide +kernel
theorem dX7_table_5 : decode cX7_table 5 = .ok (.invokevirtual 147, 3) := by decide +kernel
theorem dX7_table_8 : decode cX7_table 8 = .ok (.ifCond .ne 7, 3) := by decide +kernel
theorem dX7_table_11 : decode cX7_table 11 = .ok (.sipush (-1001), 3) := by decide +kernel
theorem dX7_table_14 : decode cX7_table 14 = .ok (.ireturn, 1) := by decide +kernel
theorem dX7_table_15 : decode cX7_table 15 = .ok (.iload_n 2, 1) := by decide +kernel
theorem dX7_table_16 : decode cX7_table 16 = .ok (.invokestatic 58, 3) := by decide +kernel
theorem dX7_table_19 : decode cX7_table 19 = .ok (.ifCond .eq 12, 3) := by decide +kernel
theorem dX7_table_22 : decode cX7_table 22 = .ok (.iload_n 3, 1) := by decide +kernel
theorem dX7_table_23 : decode cX7_table 23 = .ok (.iconst 0, 1) := by decide +kernel
theorem dX7_table_24 : decode cX7_table 24 = .ok (.iconst 3, 1) := by decide +kernel
theorem dX7_table_25 : decode cX7_table 25 = .ok (.invokestatic 62, 3) := by decide +kernel
theorem dX7_table_28 : decode cX7_table 28 = .ok (.ifCond .ne 7, 3) := by decide +kernel
theorem dX7_table_31 : decode cX7_table 31 = .ok (.sipush (-1002), 3) := by decide +kernel
theorem dX7_table_34 : decode cX7_table 34 = .ok (.ireturn, 1) := by decide +kernel
theorem dX7_table_35 : decode cX7_table 35 = .ok (.aload_n 0, 1) := by decide +kernel
theorem dX7_table_36 : decode cX7_table 36 = .ok (.getfield 47, 3) := by decide +kernel
theorem dX7_table_39 : decode cX7_table 39 = .ok (.iload_n 1, 1) := by decide +kernel
theorem dX7_table_40 : decode cX7_table 40 = .ok (.iload_n 2, 1) := by decide +kernel
theorem dX7_table_41 : decode cX7_table 41 = .ok (.iload_n 3, 1) := by decide +kernel
theorem dX7_table_42 : decode cX7_table 42 = .ok (.invokevirtual 199, 3) := by decide +kernel
theorem dX7_table_45 : decode cX7_table 45 = .ok (.ireturn, 1) := by decide +kernel
theorem dX7_sky_0 : decode cX7_sky 0 = .ok (.iload_n 1, 1) := by decide +kernel
theorem dX7_sky_1 : decode cX7_sky 1 = .ok (.invokestatic 58, 3) := by decide +kernel
theorem dX7_sky_4 : decode cX7_sky 4 = .ok (.ifCond .eq 14, 3) := by decide +kernel
theorem dX7_sky_7 : decode cX7_sky 7 = .ok (.aload_n 0, 1) := by decide +kernel
theorem dX7_sky_8 : decode cX7_sky 8 = .ok (.getfield 47, 3) := by decide +kernel
theorem dX7_sky_11 : decode cX7_sky 11 = .ok (.iload_n 1, 1) := by decide +kernel
theorem dX7_sky_12 : decode cX7_sky 12 = .ok (.invokevirtual 202, 3) := by decide +kernel
theorem dX7_sky_15 : decode cX7_sky 15 = .ok (.goto 6, 3) := by decide +kernel
theorem dX7_sky_18 : decode cX7_sky 18 = .ok (.sipush (-1002), 3) := by decide +kernel
theorem dX7_sky_21 : decode cX7_sky 21 = .ok (.ireturn, 1) := by decide +kernel
theorem dX7_far_0 : decode cX7_far 0 = .ok (.iload_n 1, 1) := by decide +kernel
theorem dX7_far_1 : decode cX7_far 1 = .ok (.iconst 0, 1) := by decide +kernel
theorem dX7_far_2 : decode cX7_far 2 = .ok (.bipush 100, 2) := by decide +kernel
theorem dX7_far_4 : decode cX7_far 4 = .ok (.invokestatic 62, 3) := by decide +kernel
theorem dX7_far_7 : decode cX7_far 7 = .ok (.ifCond .eq 10, 3) := by decide +kernel
theorem dX7_far_10 : decode cX7_far 10 = .ok (.iload_n 2, 1) := by decide +kernel
theorem dX7_far_11 : decode cX7_far 11 = .ok (.invokestatic 58, 3) := by decide +kernel
theorem dX7_far_14 : decode cX7_far 14 = .ok (.ifCond .ne 7, 3) := by decide +kernel
theorem dX7_far_17 : decode cX7_far 17 = .ok (.sipush (-1002), 3) := by decide +kernel
theorem dX7_far_20 : decode cX7_far 20 = .ok (.ireturn, 1) := by decide +kernel
theorem dX7_far_21 : decode cX7_far 21 = .ok (.aload_n 0, 1) := by decide +kernel
theorem dX7_far_22 : decode cX7_far 22 = .ok (.iconst 0, 1) := by decide +kernel
theorem dX7_far_23 : decode cX7_far 23 = .ok (.invokevirtual 205, 3) := by decide +kernel
theorem dX7_far_26 : decode cX7_far 26 = .ok (.iload_n 1, 1) := by decide +kernel
theorem dX7_far_27 : decode cX7_far 27 = .ok (.imul, 1) := by decide +kernel
theorem dX7_far_28 : decode cX7_far 28 = .ok (.bipush 100, 2) := by decide +kernel
theorem dX7_far_30 : decode cX7_far 30 = .ok (.idiv, 1) := by decide +kernel
theorem dX7_far_31 : decode cX7_far 31 = .ok (.iconst 2, 1) := by decide +kernel
theorem dX7_far_32 : decode cX7_far 32 = .ok (.idiv, 1) := by decide +kernel
theorem dX7_far_33 : decode cX7_far 33 = .ok (.istore_n 3, 1) := by decide +kernel
theorem dX7_far_34 : decode cX7_far 34 = .ok (.iload_n 2, 1) := by decide +kernel
theorem dX7_far_35 : decode cX7_far 35 = .ok (.ifCond .ne 15, 3) := by decide +kernel
theorem dX7_far_38 : decode cX7_far 38 = .ok (.aload_n 0, 1) := by decide +kernel
theorem dX7_far_39 : decode cX7_far 39 = .ok (.iconst 0, 1) := by decide +kernel
theorem dX7_far_40 : decode cX7_far 40 = .ok (.invokevirtual 205, 3) := by decide +kernel
theorem dX7_far_43 : decode cX7_far 43 = .ok (.iconst 2, 1) := by decide +kernel
theorem dX7_far_44 : decode cX7_far 44 = .ok (.iload_n 3, 1) := by decide +kernel
theorem dX7_far_45 : decode cX7_far 45 = .ok (.imul, 1) := by decide +kernel
theorem dX7_far_46 : decode cX7_far 46 = .ok (.isub, 1) := by decide +kernel
theorem dX7_far_47 : decode cX7_far 47 = .ok (.goto 10, 3) := by decide +kernel
theorem dX7_far_50 : decode cX7_far 50 = .ok (.aload_n 0, 1) := by decide +kernel
theorem dX7_far_51 : decode cX7_far 51 = .ok (.iload_n 2, 1) := by decide +kernel
theorem dX7_far_52 : decode cX7_far 52 = .ok (.invokevirtual 205, 3) := by decide +kernel
theorem dX7_far_55 : decode cX7_far 55 = .ok (.iload_n 3, 1) := by decide +kernel
theorem dX7_far_56 : decode cX7_far 56 = .ok (.iadd, 1) := by decide +kernel
theorem dX7_far_57 : decode cX7_far 57 = .ok (.ireturn, 1) := by decide +kernel
theorem dX7_lean_0 : decode cX7_lean 0 = .ok (.aload_n 0, 1) := by decide +kernel
theorem dX7_lean_1 : decode cX7_lean 1 = .ok (.getfield 33, 3) := by decide +kernel
theorem dX7_lean_4 : decode cX7_lean 4 = .ok (.iload_n 1, 1) := by decide +kernel
theorem dX7_lean_5 : decode cX7_lean 5 = .ok (.invokevirtual 147, 3) := by decide +kernel
theorem dX7_lean_8 : decode cX7_lean 8 = .ok (.ifCond .ne 7, 3) := by decide +kernel
theorem dX7_lean_11 : decode cX7_lean 11 = .ok (.sipush (-1001), 3) := by decide +kernel
theorem dX7_lean_14 : decode cX7_lean 14 = .ok (.ireturn, 1) := by decide +kernel
theorem dX7_lean_15 : decode cX7_lean 15 = .ok (.iload_n 2, 1) := by decide +kernel
theorem dX7_lean_16 : decode cX7_lean 16 = .ok (.iconst 0, 1) := by decide +kernel
theorem dX7_lean_17 : decode cX7_lean 17 = .ok (.iconst 1, 1) := by decide +kernel
theorem dX7_lean_18 : decode cX7_lean 18 = .ok (.invokestatic 62, 3) := by decide +kernel
theorem dX7_lean_21 : decode cX7_lean 21 = .ok (.ifCond .ne 7, 3) := by decide +kernel
theorem dX7_lean_24 : decode cX7_lean 24 = .ok (.sipush (-1002), 3) := by decide +kernel
theorem dX7_lean_27 : decode cX7_lean 27 = .ok (.ireturn, 1) := by decide +kernel
theorem dX7_lean_28 : decode cX7_lean 28 = .ok (.aload_n 0, 1) := by decide +kernel
theorem dX7_lean_29 : decode cX7_lean 29 = .ok (.iload_n 1, 1) := by decide +kernel
theorem dX7_lean_30 : decode cX7_lean 30 = .ok (.iconst 1, 1) := by decide +kernel
theorem dX7_lean_31 : decode cX7_lean 31 = .ok (.iconst 1, 1) := by decide +kernel
theorem dX7_lean_32 : decode cX7_lean 32 = .ok (.invokevirtual 208, 3) := by decide +kernel
theorem dX7_lean_35 : decode cX7_lean 35 = .ok (.aload_n 0, 1) := by decide +kernel
theorem dX7_lean_36 : decode cX7_lean 36 = .ok (.iload_n 1, 1) := by decide +kernel
theorem dX7_lean_37 : decode cX7_lean 37 = .ok (.iconst 2, 1) := by decide +kernel
theorem dX7_lean_38 : decode cX7_lean 38 = .ok (.iconst 2, 1) := by decide +kernel
theorem dX7_lean_39 : decode cX7_lean 39 = .ok (.invokevirtual 208, 3) := by decide +kernel
theorem dX7_lean_42 : decode cX7_lean 42 = .ok (.iadd, 1) := by decide +kernel
theorem dX7_lean_43 : decode cX7_lean 43 = .ok (.aload_n 0, 1) := by decide +kernel
theorem dX7_lean_44 : decode cX7_lean 44 = .ok (.iload_n 1, 1) := by decide +kernel
theorem dX7_lean_45 : decode cX7_lean 45 = .ok (.iconst 1, 1) := by decide +kernel
theorem dX7_lean_46 : decode cX7_lean 46 = .ok (.iconst 2, 1) := by decide +kernel
theorem dX7_lean_47 : decode cX7_lean 47 = .ok (.invokevirtual 208, 3) := by decide +kernel
theorem dX7_lean_50 : decode cX7_lean 50 = .ok (.iadd, 1) := by decide +kernel
theorem dX7_lean_51 : decode cX7_lean 51 = .ok (.aload_n 0, 1) := by decide +kernel
theorem dX7_lean_52 : decode cX7_lean 52 = .ok (.iload_n 1, 1) := by decide +kernel
theorem dX7_lean_53 : decode cX7_lean 53 = .ok (.iconst 2, 1) := by decide +kernel
theorem dX7_lean_54 : decode cX7_lean 54 = .ok (.iconst 1, 1) := by decide +kernel
theorem dX7_lean_55 : decode cX7_lean 55 = .ok (.invokevirtual 208, 3) := by decide +kernel
theorem dX7_lean_58 : decode cX7_lean 58 = .ok (.iadd, 1) := by decide +kernel
theorem dX7_lean_59 : decode cX7_lean 59 = .ok (.istore_n 3, 1) := by decide +kernel
theorem dX7_lean_60 : decode cX7_lean 60 = .ok (.iload_n 2, 1) := by decide +kernel
theorem dX7_lean_61 : decode cX7_lean 61 = .ok (.iconst 1, 1) := by decide +kernel
theorem dX7_lean_62 : decode cX7_lean 62 = .ok (.if_icmp .ne 5, 3) := by decide +kernel
theorem dX7_lean_65 : decode cX7_lean 65 = .ok (.iload_n 3, 1) := by decide +kernel
theorem dX7_lean_66 : decode cX7_lean 66 = .ok (.ireturn, 1) := by decide +kernel
theorem dX7_lean_67 : decode cX7_lean 67 = .ok (.iload_n 3, 1) := by decide +kernel
theorem dX7_lean_68 : decode cX7_lean 68 = .ok (.ifCond .ne 5, 3) := by decide +kernel
theorem dX7_lean_71 : decode cX7_lean 71 = .ok (.iconst (-1), 1) := by decide +kernel
theorem dX7_lean_72 : decode cX7_lean 72 = .ok (.ireturn, 1) := by decide +kernel
theorem dX7_lean_73 : decode cX7_lean 73 = .ok (.sipush 1000, 3) := by decide +kernel
theorem dX7_lean_76 : decode cX7_lean 76 = .ok (.aload_n 0, 1) := by decide +kernel
theorem dX7_lean_77 : decode cX7_lean 77 = .ok (.iload_n 1, 1) := by decide +kernel
theorem dX7_lean_78 : decode cX7_lean 78 = .ok (.iconst 1, 1) := by decide +kernel
theorem dX7_lean_79 : decode cX7_lean 79 = .ok (.iconst 1, 1) := by decide +kernel
theorem dX7_lean_80 : decode cX7_lean 80 = .ok (.invokevirtual 208, 3) := by decide +kernel
theorem dX7_lean_83 : decode cX7_lean 83 = .ok (.aload_n 0, 1) := by decide +kernel
theorem dX7_lean_84 : decode cX7_lean 84 = .ok (.iload_n 1, 1) := by decide +kernel
theorem dX7_lean_85 : decode cX7_lean 85 = .ok (.iconst 2, 1) := by decide +kernel
theorem dX7_lean_86 : decode cX7_lean 86 = .ok (.iconst 2, 1) := by decide +kernel
theorem dX7_lean_87 : decode cX7_lean 87 = .ok (.invokevirtual 208, 3) := by decide +kernel
theorem dX7_lean_90 : decode cX7_lean 90 = .ok (.isub, 1) := by decide +kernel
theorem dX7_lean_91 : decode cX7_lean 91 = .ok (.bipush 100, 2) := by decide +kernel
theorem dX7_lean_93 : decode cX7_lean 93 = .ok (.imul, 1) := by decide +kernel
theorem dX7_lean_94 : decode cX7_lean 94 = .ok (.iload_n 3, 1) := by decide +kernel
theorem dX7_lean_95 : decode cX7_lean 95 = .ok (.idiv, 1) := by decide +kernel
theorem dX7_lean_96 : decode cX7_lean 96 = .ok (.iadd, 1) := by decide +kernel
theorem dX7_lean_97 : decode cX7_lean 97 = .ok (.ireturn, 1) := by decide +kernel
theorem dX7_agreed_0 : decode cX7_agreed 0 = .ok (.aload_n 0, 1) := by decide +kernel
theorem dX7_agreed_1 : decode cX7_agreed 1 = .ok (.getfield 33, 3) := by decide +kernel
theorem dX7_agreed_4 : decode cX7_agreed 4 = .ok (.iload_n 1, 1) := by decide +kernel
theorem dX7_agreed_5 : decode cX7_agreed 5 = .ok (.invokevirtual 147, 3) := by decide +kernel
theorem dX7_agreed_8 : decode cX7_agreed 8 = .ok (.ifCond .eq 19, 3) := by decide +kernel
theorem dX7_agreed_11 : decode cX7_agreed 11 = .ok (.aload_n 0, 1) := by decide +kernel
theorem dX7_agreed_12 : decode cX7_agreed 12 = .ok (.getfield 33, 3) := by decide +kernel
theorem dX7_agreed_15 : decode cX7_agreed 15 = .ok (.iload_n 2, 1) := by decide +kernel
theorem dX7_agreed_16 : decode cX7_agreed 16 = .ok (.invokevirtual 147, 3) := by decide +kernel
theorem dX7_agreed_19 : decode cX7_agreed 19 = .ok (.ifCond .eq 8, 3) := by decide +kernel
theorem dX7_agreed_22 : decode cX7_agreed 22 = .ok (.iload_n 1, 1) := by decide +kernel
theorem dX7_agreed_23 : decode cX7_agreed 23 = .ok (.iload_n 2, 1) := by decide +kernel
theorem dX7_agreed_24 : decode cX7_agreed 24 = .ok (.if_icmp .ne 7, 3) := by decide +kernel
theorem dX7_agreed_27 : decode cX7_agreed 27 = .ok (.sipush (-1001), 3) := by decide +kernel
theorem dX7_agreed_30 : decode cX7_agreed 30 = .ok (.ireturn, 1) := by decide +kernel
theorem dX7_agreed_31 : decode cX7_agreed 31 = .ok (.iload_n 3, 1) := by decide +kernel
theorem dX7_agreed_32 : decode cX7_agreed 32 = .ok (.tableswitch 52 0 2 #[28, 35, 42], 28) := by decide +kernel
theorem dX7_agreed_60 : decode cX7_agreed 60 = .ok (.aload_n 0, 1) := by decide +kernel
theorem dX7_agreed_61 : decode cX7_agreed 61 = .ok (.iload_n 1, 1) := by decide +kernel
theorem dX7_agreed_62 : decode cX7_agreed 62 = .ok (.iload_n 2, 1) := by decide +kernel
theorem dX7_agreed_63 : decode cX7_agreed 63 = .ok (.invokevirtual 211, 3) := by decide +kernel
theorem dX7_agreed_66 : decode cX7_agreed 66 = .ok (.ireturn, 1) := by decide +kernel
theorem dX7_agreed_67 : decode cX7_agreed 67 = .ok (.aload_n 0, 1) := by decide +kernel
theorem dX7_agreed_68 : decode cX7_agreed 68 = .ok (.iload_n 1, 1) := by decide +kernel
theorem dX7_agreed_69 : decode cX7_agreed 69 = .ok (.iload_n 2, 1) := by decide +kernel
theorem dX7_agreed_70 : decode cX7_agreed 70 = .ok (.invokevirtual 214, 3) := by decide +kernel
theorem dX7_agreed_73 : decode cX7_agreed 73 = .ok (.ireturn, 1) := by decide +kernel
theorem dX7_agreed_74 : decode cX7_agreed 74 = .ok (.aload_n 0, 1) := by decide +kernel
theorem dX7_agreed_75 : decode cX7_agreed 75 = .ok (.iload_n 1, 1) := by decide +kernel
theorem dX7_agreed_76 : decode cX7_agreed 76 = .ok (.iload_n 2, 1) := by decide +kernel
theorem dX7_agreed_77 : decode cX7_agreed 77 = .ok (.invokevirtual 217, 3) := by decide +kernel
theorem dX7_agreed_80 : decode cX7_agreed 80 = .ok (.invokestatic 131, 3) := by decide +kernel
theorem dX7_agreed_83 : decode cX7_agreed 83 = .ok (.ireturn, 1) := by decide +kernel
theorem dX7_agreed_84 : decode cX7_agreed 84 = .ok (.sipush (-1002), 3) := by decide +kernel
theorem dX7_agreed_87 : decode cX7_agreed 87 = .ok (.ireturn, 1) := by decide +kernel
theorem dX7_green_0 : decode cX7_green 0 = .ok (.iload_n 1, 1) := by decide +kernel
theorem dX7_green_1 : decode cX7_green 1 = .ok (.ifCond .ge 7, 3) := by decide +kernel
theorem dX7_green_4 : decode cX7_green 4 = .ok (.sipush (-1002), 3) := by decide +kernel
theorem dX7_green_7 : decode cX7_green 7 = .ok (.ireturn, 1) := by decide +kernel
theorem dX7_green_8 : decode cX7_green 8 = .ok (.iconst 0, 1) := by decide +kernel
theorem dX7_green_9 : decode cX7_green 9 = .ok (.istore_n 2, 1) := by decide +kernel
theorem dX7_green_10 : decode cX7_green 10 = .ok (.iload_n 2, 1) := by decide +kernel
theorem dX7_green_11 : decode cX7_green 11 = .ok (.aload_n 0, 1) := by decide +kernel
theorem dX7_green_12 : decode cX7_green 12 = .ok (.getfield 26, 3) := by decide +kernel
theorem dX7_green_15 : decode cX7_green 15 = .ok (.invokevirtual 105, 3) := by decide +kernel
theorem dX7_green_18 : decode cX7_green 18 = .ok (.if_icmp .ge 31, 3) := by decide +kernel
theorem dX7_green_21 : decode cX7_green 21 = .ok (.aload_n 0, 1) := by decide +kernel
theorem dX7_green_22 : decode cX7_green 22 = .ok (.getfield 40, 3) := by decide +kernel
theorem dX7_green_25 : decode cX7_green 25 = .ok (.iload_n 2, 1) := by decide +kernel
theorem dX7_green_26 : decode cX7_green 26 = .ok (.invokevirtual 138, 3) := by decide +kernel
theorem dX7_green_29 : decode cX7_green 29 = .ok (.ifCond .le 14, 3) := by decide +kernel
theorem dX7_green_32 : decode cX7_green 32 = .ok (.aload_n 0, 1) := by decide +kernel
theorem dX7_green_33 : decode cX7_green 33 = .ok (.iload_n 2, 1) := by decide +kernel
theorem dX7_green_34 : decode cX7_green 34 = .ok (.invokevirtual 220, 3) := by decide +kernel
theorem dX7_green_37 : decode cX7_green 37 = .ok (.iload_n 1, 1) := by decide +kernel
theorem dX7_green_38 : decode cX7_green 38 = .ok (.if_icmp .ne 5, 3) := by decide +kernel
theorem dX7_green_41 : decode cX7_green 41 = .ok (.iload_n 2, 1) := by decide +kernel
theorem dX7_green_42 : decode cX7_green 42 = .ok (.ireturn, 1) := by decide +kernel
theorem dX7_green_43 : decode cX7_green 43 = .ok (.iinc 2 1, 3) := by decide +kernel
theorem dX7_green_46 : decode cX7_green 46 = .ok (.goto (-36), 3) := by decide +kernel
theorem dX7_green_49 : decode cX7_green 49 = .ok (.iconst (-1), 1) := by decide +kernel
theorem dX7_green_50 : decode cX7_green 50 = .ok (.ireturn, 1) := by decide +kernel
theorem dX7_given_0 : decode cX7_given 0 = .ok (.iload_n 1, 1) := by decide +kernel
theorem dX7_given_1 : decode cX7_given 1 = .ok (.tableswitch 42 0 2 #[27, 32, 37], 27) := by decide +kernel
theorem dX7_given_28 : decode cX7_given 28 = .ok (.aload_n 0, 1) := by decide +kernel
theorem dX7_given_29 : decode cX7_given 29 = .ok (.invokevirtual 223, 3) := by decide +kernel
theorem dX7_given_32 : decode cX7_given 32 = .ok (.ireturn, 1) := by decide +kernel
theorem dX7_given_33 : decode cX7_given 33 = .ok (.aload_n 0, 1) := by decide +kernel
theorem dX7_given_34 : decode cX7_given 34 = .ok (.invokevirtual 226, 3) := by decide +kernel
