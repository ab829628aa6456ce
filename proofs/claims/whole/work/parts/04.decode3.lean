theorem dX7_given_37 : decode cX7_given 37 = .ok (.ireturn, 1) := by decide +kernel
theorem dX7_given_38 : decode cX7_given 38 = .ok (.aload_n 0, 1) := by decide +kernel
theorem dX7_given_39 : decode cX7_given 39 = .ok (.invokevirtual 229, 3) := by decide +kernel
theorem dX7_given_42 : decode cX7_given 42 = .ok (.ireturn, 1) := by decide +kernel
theorem dX7_given_43 : decode cX7_given 43 = .ok (.sipush (-1002), 3) := by decide +kernel
theorem dX7_given_46 : decode cX7_given 46 = .ok (.ireturn, 1) := by decide +kernel
theorem dX7_things_0 : decode cX7_things 0 = .ok (.iload_n 1, 1) := by decide +kernel
theorem dX7_things_1 : decode cX7_things 1 = .ok (.iconst 2, 1) := by decide +kernel
theorem dX7_things_2 : decode cX7_things 2 = .ok (.bipush 8, 2) := by decide +kernel
theorem dX7_things_4 : decode cX7_things 4 = .ok (.invokestatic 62, 3) := by decide +kernel
theorem dX7_things_7 : decode cX7_things 7 = .ok (.ifCond .eq 14, 3) := by decide +kernel
theorem dX7_things_10 : decode cX7_things 10 = .ok (.aload_n 0, 1) := by decide +kernel
theorem dX7_things_11 : decode cX7_things 11 = .ok (.getfield 54, 3) := by decide +kernel
theorem dX7_things_14 : decode cX7_things 14 = .ok (.iload_n 1, 1) := by decide +kernel
theorem dX7_things_15 : decode cX7_things 15 = .ok (.invokevirtual 232, 3) := by decide +kernel
theorem dX7_things_18 : decode cX7_things 18 = .ok (.goto 6, 3) := by decide +kernel
theorem dX7_things_21 : decode cX7_things 21 = .ok (.sipush (-1002), 3) := by decide +kernel
theorem dX7_things_24 : decode cX7_things 24 = .ok (.ireturn, 1) := by decide +kernel
theorem dX7_weight_0 : decode cX7_weight 0 = .ok (.aload_n 0, 1) := by decide +kernel
theorem dX7_weight_1 : decode cX7_weight 1 = .ok (.getfield 54, 3) := by decide +kernel
theorem dX7_weight_4 : decode cX7_weight 4 = .ok (.iload_n 1, 1) := by decide +kernel
theorem dX7_weight_5 : decode cX7_weight 5 = .ok (.invokevirtual 235, 3) := by decide +kernel
theorem dX7_weight_8 : decode cX7_weight 8 = .ok (.ifCond .eq 13, 3) := by decide +kernel
theorem dX7_weight_11 : decode cX7_weight 11 = .ok (.iload_n 2, 1) := by decide +kernel
theorem dX7_weight_12 : decode cX7_weight 12 = .ok (.iconst 1, 1) := by decide +kernel
theorem dX7_weight_13 : decode cX7_weight 13 = .ok (.bipush 99, 2) := by decide +kernel
theorem dX7_weight_15 : decode cX7_weight 15 = .ok (.invokestatic 62, 3) := by decide +kernel
theorem dX7_weight_18 : decode cX7_weight 18 = .ok (.ifCond .ne 7, 3) := by decide +kernel
theorem dX7_weight_21 : decode cX7_weight 21 = .ok (.sipush (-1002), 3) := by decide +kernel
theorem dX7_weight_24 : decode cX7_weight 24 = .ok (.ireturn, 1) := by decide +kernel
theorem dX7_weight_25 : decode cX7_weight 25 = .ok (.aload_n 0, 1) := by decide +kernel
theorem dX7_weight_26 : decode cX7_weight 26 = .ok (.getfield 54, 3) := by decide +kernel
theorem dX7_weight_29 : decode cX7_weight 29 = .ok (.iload_n 1, 1) := by decide +kernel
theorem dX7_weight_30 : decode cX7_weight 30 = .ok (.iload_n 2, 1) := by decide +kernel
theorem dX7_weight_31 : decode cX7_weight 31 = .ok (.invokevirtual 238, 3) := by decide +kernel
theorem dX7_weight_34 : decode cX7_weight 34 = .ok (.ireturn, 1) := by decide +kernel
theorem dX7_question_0 : decode cX7_question 0 = .ok (.iload_n 1, 1) := by decide +kernel
theorem dX7_question_1 : decode cX7_question 1 = .ok (.iconst 0, 1) := by decide +kernel
theorem dX7_question_2 : decode cX7_question 2 = .ok (.iconst 5, 1) := by decide +kernel
theorem dX7_question_3 : decode cX7_question 3 = .ok (.invokestatic 62, 3) := by decide +kernel
theorem dX7_question_6 : decode cX7_question 6 = .ok (.ifCond .eq 17, 3) := by decide +kernel
theorem dX7_question_9 : decode cX7_question 9 = .ok (.iload_n 2, 1) := by decide +kernel
theorem dX7_question_10 : decode cX7_question 10 = .ok (.aload_n 0, 1) := by decide +kernel
theorem dX7_question_11 : decode cX7_question 11 = .ok (.getfield 54, 3) := by decide +kernel
theorem dX7_question_14 : decode cX7_question 14 = .ok (.invokevirtual 241, 3) := by decide +kernel
theorem dX7_question_17 : decode cX7_question 17 = .ok (.invokestatic 181, 3) := by decide +kernel
theorem dX7_question_20 : decode cX7_question 20 = .ok (.ifCond .ne 7, 3) := by decide +kernel
theorem dX7_question_23 : decode cX7_question 23 = .ok (.sipush (-1002), 3) := by decide +kernel
theorem dX7_question_26 : decode cX7_question 26 = .ok (.ireturn, 1) := by decide +kernel
theorem dX7_question_27 : decode cX7_question 27 = .ok (.aload_n 0, 1) := by decide +kernel
theorem dX7_question_28 : decode cX7_question 28 = .ok (.getfield 54, 3) := by decide +kernel
theorem dX7_question_31 : decode cX7_question 31 = .ok (.iload_n 1, 1) := by decide +kernel
theorem dX7_question_32 : decode cX7_question 32 = .ok (.iload_n 2, 1) := by decide +kernel
theorem dX7_question_33 : decode cX7_question 33 = .ok (.invokevirtual 242, 3) := by decide +kernel
theorem dX7_question_36 : decode cX7_question 36 = .ok (.ireturn, 1) := by decide +kernel
theorem dX7_tree_0 : decode cX7_tree 0 = .ok (.iload_n 1, 1) := by decide +kernel
theorem dX7_tree_1 : decode cX7_tree 1 = .ok (.ifCond .eq 17, 3) := by decide +kernel
theorem dX7_tree_4 : decode cX7_tree 4 = .ok (.iload_n 1, 1) := by decide +kernel
theorem dX7_tree_5 : decode cX7_tree 5 = .ok (.aload_n 0, 1) := by decide +kernel
theorem dX7_tree_6 : decode cX7_tree 6 = .ok (.getfield 54, 3) := by decide +kernel
theorem dX7_tree_9 : decode cX7_tree 9 = .ok (.invokevirtual 241, 3) := by decide +kernel
theorem dX7_tree_12 : decode cX7_tree 12 = .ok (.invokestatic 181, 3) := by decide +kernel
theorem dX7_tree_15 : decode cX7_tree 15 = .ok (.ifCond .ne 7, 3) := by decide +kernel
theorem dX7_tree_18 : decode cX7_tree 18 = .ok (.sipush (-1002), 3) := by decide +kernel
theorem dX7_tree_21 : decode cX7_tree 21 = .ok (.ireturn, 1) := by decide +kernel
theorem dX7_tree_22 : decode cX7_tree 22 = .ok (.iload_n 2, 1) := by decide +kernel
theorem dX7_tree_23 : decode cX7_tree 23 = .ok (.tableswitch 52 0 2 #[25, 34, 43], 25) := by decide +kernel
theorem dX7_tree_48 : decode cX7_tree 48 = .ok (.aload_n 0, 1) := by decide +kernel
theorem dX7_tree_49 : decode cX7_tree 49 = .ok (.getfield 54, 3) := by decide +kernel
theorem dX7_tree_52 : decode cX7_tree 52 = .ok (.iload_n 1, 1) := by decide +kernel
theorem dX7_tree_53 : decode cX7_tree 53 = .ok (.invokevirtual 245, 3) := by decide +kernel
theorem dX7_tree_56 : decode cX7_tree 56 = .ok (.ireturn, 1) := by decide +kernel
theorem dX7_tree_57 : decode cX7_tree 57 = .ok (.aload_n 0, 1) := by decide +kernel
theorem dX7_tree_58 : decode cX7_tree 58 = .ok (.getfield 54, 3) := by decide +kernel
theorem dX7_tree_61 : decode cX7_tree 61 = .ok (.iload_n 1, 1) := by decide +kernel
theorem dX7_tree_62 : decode cX7_tree 62 = .ok (.invokevirtual 248, 3) := by decide +kernel
theorem dX7_tree_65 : decode cX7_tree 65 = .ok (.ireturn, 1) := by decide +kernel
theorem dX7_tree_66 : decode cX7_tree 66 = .ok (.aload_n 0, 1) := by decide +kernel
theorem dX7_tree_67 : decode cX7_tree 67 = .ok (.getfield 54, 3) := by decide +kernel
theorem dX7_tree_70 : decode cX7_tree 70 = .ok (.iload_n 1, 1) := by decide +kernel
theorem dX7_tree_71 : decode cX7_tree 71 = .ok (.invokevirtual 251, 3) := by decide +kernel
theorem dX7_tree_74 : decode cX7_tree 74 = .ok (.ireturn, 1) := by decide +kernel
theorem dX7_tree_75 : decode cX7_tree 75 = .ok (.sipush (-1002), 3) := by decide +kernel
theorem dX7_tree_78 : decode cX7_tree 78 = .ok (.ireturn, 1) := by decide +kernel
theorem dX7_wrong_0 : decode cX7_wrong 0 = .ok (.aload_n 0, 1) := by decide +kernel
theorem dX7_wrong_1 : decode cX7_wrong 1 = .ok (.getfield 54, 3) := by decide +kernel
theorem dX7_wrong_4 : decode cX7_wrong 4 = .ok (.iload_n 1, 1) := by decide +kernel
theorem dX7_wrong_5 : decode cX7_wrong 5 = .ok (.invokevirtual 235, 3) := by decide +kernel
theorem dX7_wrong_8 : decode cX7_wrong 8 = .ok (.ifCond .eq 14, 3) := by decide +kernel
theorem dX7_wrong_11 : decode cX7_wrong 11 = .ok (.aload_n 0, 1) := by decide +kernel
theorem dX7_wrong_12 : decode cX7_wrong 12 = .ok (.getfield 54, 3) := by decide +kernel
theorem dX7_wrong_15 : decode cX7_wrong 15 = .ok (.iload_n 1, 1) := by decide +kernel
theorem dX7_wrong_16 : decode cX7_wrong 16 = .ok (.invokevirtual 252, 3) := by decide +kernel
theorem dX7_wrong_19 : decode cX7_wrong 19 = .ok (.goto 6, 3) := by decide +kernel
theorem dX7_wrong_22 : decode cX7_wrong 22 = .ok (.sipush (-1002), 3) := by decide +kernel
theorem dX7_wrong_25 : decode cX7_wrong 25 = .ok (.ireturn, 1) := by decide +kernel
theorem dX7_isWithin_0 : decode cX7_isWithin 0 = .ok (.iload_n 0, 1) := by decide +kernel
theorem dX7_isWithin_1 : decode cX7_isWithin 1 = .ok (.iload_n 1, 1) := by decide +kernel
theorem dX7_isWithin_2 : decode cX7_isWithin 2 = .ok (.if_icmp .lt 12, 3) := by decide +kernel
theorem dX7_isWithin_5 : decode cX7_isWithin 5 = .ok (.iload_n 0, 1) := by decide +kernel
theorem dX7_isWithin_6 : decode cX7_isWithin 6 = .ok (.iload_n 2, 1) := by decide +kernel
theorem dX7_isWithin_7 : decode cX7_isWithin 7 = .ok (.if_icmp .gt 7, 3) := by decide +kernel
theorem dX7_isWithin_10 : decode cX7_isWithin 10 = .ok (.iconst 1, 1) := by decide +kernel
theorem dX7_isWithin_11 : decode cX7_isWithin 11 = .ok (.goto 4, 3) := by decide +kernel
theorem dX7_isWithin_14 : decode cX7_isWithin 14 = .ok (.iconst 0, 1) := by decide +kernel
theorem dX7_isWithin_15 : decode cX7_isWithin 15 = .ok (.ireturn, 1) := by decide +kernel
theorem dX7_isKind_0 : decode cX7_isKind 0 = .ok (.iload_n 0, 1) := by decide +kernel
theorem dX7_isKind_1 : decode cX7_isKind 1 = .ok (.ifCond .lt 12, 3) := by decide +kernel
theorem dX7_isKind_4 : decode cX7_isKind 4 = .ok (.iload_n 0, 1) := by decide +kernel
theorem dX7_isKind_5 : decode cX7_isKind 5 = .ok (.iconst 2, 1) := by decide +kernel
theorem dX7_isKind_6 : decode cX7_isKind 6 = .ok (.if_icmp .gt 7, 3) := by decide +kernel
theorem dX7_isKind_9 : decode cX7_isKind 9 = .ok (.iconst 1, 1) := by decide +kernel
theorem dX7_isKind_10 : decode cX7_isKind 10 = .ok (.goto 4, 3) := by decide +kernel
theorem dX7_isKind_13 : decode cX7_isKind 13 = .ok (.iconst 0, 1) := by decide +kernel
theorem dX7_isKind_14 : decode cX7_isKind 14 = .ok (.ireturn, 1) := by decide +kernel
theorem dX7_isArm_0 : decode cX7_isArm 0 = .ok (.iload_n 0, 1) := by decide +kernel
theorem dX7_isArm_1 : decode cX7_isArm 1 = .ok (.iconst 1, 1) := by decide +kernel
theorem dX7_isArm_2 : decode cX7_isArm 2 = .ok (.if_icmp .eq 8, 3) := by decide +kernel
theorem dX7_isArm_5 : decode cX7_isArm 5 = .ok (.iload_n 0, 1) := by decide +kernel
theorem dX7_isArm_6 : decode cX7_isArm 6 = .ok (.iconst 2, 1) := by decide +kernel
theorem dX7_isArm_7 : decode cX7_isArm 7 = .ok (.if_icmp .ne 7, 3) := by decide +kernel
theorem dX7_isArm_10 : decode cX7_isArm 10 = .ok (.iconst 1, 1) := by decide +kernel
theorem dX7_isArm_11 : decode cX7_isArm 11 = .ok (.goto 4, 3) := by decide +kernel
theorem dX7_isArm_14 : decode cX7_isArm 14 = .ok (.iconst 0, 1) := by decide +kernel
theorem dX7_isArm_15 : decode cX7_isArm 15 = .ok (.ireturn, 1) := by decide +kernel
theorem dX7_isRule_0 : decode cX7_isRule 0 = .ok (.iload_n 0, 1) := by decide +kernel
theorem dX7_isRule_1 : decode cX7_isRule 1 = .ok (.iconst 0, 1) := by decide +kernel
theorem dX7_isRule_2 : decode cX7_isRule 2 = .ok (.iconst 2, 1) := by decide +kernel
theorem dX7_isRule_3 : decode cX7_isRule 3 = .ok (.invokestatic 62, 3) := by decide +kernel
theorem dX7_isRule_6 : decode cX7_isRule 6 = .ok (.ireturn, 1) := by decide +kernel
theorem dX7_isPart_0 : decode cX7_isPart 0 = .ok (.iload_n 0, 1) := by decide +kernel
theorem dX7_isPart_1 : decode cX7_isPart 1 = .ok (.iload_n 1, 1) := by decide +kernel
theorem dX7_isPart_2 : decode cX7_isPart 2 = .ok (.iushr, 1) := by decide +kernel
theorem dX7_isPart_3 : decode cX7_isPart 3 = .ok (.ifCond .ne 7, 3) := by decide +kernel
theorem dX7_isPart_6 : decode cX7_isPart 6 = .ok (.iconst 1, 1) := by decide +kernel
theorem dX7_isPart_7 : decode cX7_isPart 7 = .ok (.goto 4, 3) := by decide +kernel
theorem dX7_isPart_10 : decode cX7_isPart 10 = .ok (.iconst 0, 1) := by decide +kernel
theorem dX7_isPart_11 : decode cX7_isPart 11 = .ok (.ireturn, 1) := by decide +kernel
theorem dX7_isIn_0 : decode cX7_isIn 0 = .ok (.iload_n 0, 1) := by decide +kernel
theorem dX7_isIn_1 : decode cX7_isIn 1 = .ok (.iload_n 1, 1) := by decide +kernel
theorem dX7_isIn_2 : decode cX7_isIn 2 = .ok (.iushr, 1) := by decide +kernel
theorem dX7_isIn_3 : decode cX7_isIn 3 = .ok (.iconst 1, 1) := by decide +kernel
theorem dX7_isIn_4 : decode cX7_isIn 4 = .ok (.iand, 1) := by decide +kernel
theorem dX7_isIn_5 : decode cX7_isIn 5 = .ok (.iconst 1, 1) := by decide +kernel
theorem dX7_isIn_6 : decode cX7_isIn 6 = .ok (.if_icmp .ne 7, 3) := by decide +kernel
theorem dX7_isIn_9 : decode cX7_isIn 9 = .ok (.iconst 1, 1) := by decide +kernel
theorem dX7_isIn_10 : decode cX7_isIn 10 = .ok (.goto 4, 3) := by decide +kernel
theorem dX7_isIn_13 : decode cX7_isIn 13 = .ok (.iconst 0, 1) := by decide +kernel
theorem dX7_isIn_14 : decode cX7_isIn 14 = .ok (.ireturn, 1) := by decide +kernel
theorem dX7_oneIf_0 : decode cX7_oneIf 0 = .ok (.iload_n 0, 1) := by decide +kernel
theorem dX7_oneIf_1 : decode cX7_oneIf 1 = .ok (.ifCond .eq 7, 3) := by decide +kernel
theorem dX7_oneIf_4 : decode cX7_oneIf 4 = .ok (.iconst 1, 1) := by decide +kernel
theorem dX7_oneIf_5 : decode cX7_oneIf 5 = .ok (.goto 4, 3) := by decide +kernel
theorem dX7_oneIf_8 : decode cX7_oneIf 8 = .ok (.iconst 0, 1) := by decide +kernel
theorem dX7_oneIf_9 : decode cX7_oneIf 9 = .ok (.ireturn, 1) := by decide +kernel
theorem dX7_turned_0 : decode cX7_turned 0 = .ok (.iload_n 0, 1) := by decide +kernel
theorem dX7_turned_1 : decode cX7_turned 1 = .ok (.invokestatic 255, 3) := by decide +kernel
theorem dX7_turned_4 : decode cX7_turned 4 = .ok (.ifCond .eq 9, 3) := by decide +kernel
theorem dX7_turned_7 : decode cX7_turned 7 = .ok (.iconst 3, 1) := by decide +kernel
theorem dX7_turned_8 : decode cX7_turned 8 = .ok (.iload_n 0, 1) := by decide +kernel
theorem dX7_turned_9 : decode cX7_turned 9 = .ok (.isub, 1) := by decide +kernel
theorem dX7_turned_10 : decode cX7_turned 10 = .ok (.goto 4, 3) := by decide +kernel
theorem dX7_turned_13 : decode cX7_turned 13 = .ok (.iload_n 0, 1) := by decide +kernel
theorem dX7_turned_14 : decode cX7_turned 14 = .ok (.ireturn, 1) := by decide +kernel
theorem dX7_lookByDraws_0 : decode cX7_lookByDraws 0 = .ok (.aload_n 0, 1) := by decide +kernel
theorem dX7_lookByDraws_1 : decode cX7_lookByDraws 1 = .ok (.iload_n 1, 1) := by decide +kernel
theorem dX7_lookByDraws_2 : decode cX7_lookByDraws 2 = .ok (.iload_n 2, 1) := by decide +kernel
theorem dX7_lookByDraws_3 : decode cX7_lookByDraws 3 = .ok (.invokevirtual 258, 3) := by decide +kernel
theorem dX7_lookByDraws_6 : decode cX7_lookByDraws 6 = .ok (.istore_n 3, 1) := by decide +kernel
theorem dX7_lookByDraws_7 : decode cX7_lookByDraws 7 = .ok (.aload_n 0, 1) := by decide +kernel
theorem dX7_lookByDraws_8 : decode cX7_lookByDraws 8 = .ok (.getfield 40, 3) := by decide +kernel
theorem dX7_lookByDraws_11 : decode cX7_lookByDraws 11 = .ok (.iload_n 1, 1) := by decide +kernel
theorem dX7_lookByDraws_12 : decode cX7_lookByDraws 12 = .ok (.iload_n 2, 1) := by decide +kernel
theorem dX7_lookByDraws_13 : decode cX7_lookByDraws 13 = .ok (.iload_n 3, 1) := by decide +kernel
theorem dX7_lookByDraws_14 : decode cX7_lookByDraws 14 = .ok (.invokevirtual 152, 3) := by decide +kernel
theorem dX7_lookByDraws_17 : decode cX7_lookByDraws 17 = .ok (.pop, 1) := by decide +kernel
theorem dX7_lookByDraws_18 : decode cX7_lookByDraws 18 = .ok (.iload_n 3, 1) := by decide +kernel
theorem dX7_lookByDraws_19 : decode cX7_lookByDraws 19 = .ok (.ireturn, 1) := by decide +kernel
theorem dX7_answerByDraws_0 : decode cX7_answerByDraws 0 = .ok (.aload_n 0, 1) := by decide +kernel
theorem dX7_answerByDraws_1 : decode cX7_answerByDraws 1 = .ok (.getfield 33, 3) := by decide +kernel
theorem dX7_answerByDraws_4 : decode cX7_answerByDraws 4 = .ok (.iload_n 1, 1) := by decide +kernel
theorem dX7_answerByDraws_5 : decode cX7_answerByDraws 5 = .ok (.invokevirtual 261, 3) := by decide +kernel
theorem dX7_answerByDraws_8 : decode cX7_answerByDraws 8 = .ok (.istore_n 3, 1) := by decide +kernel
theorem dX7_answerByDraws_9 : decode cX7_answerByDraws 9 = .ok (.iload_n 3, 1) := by decide +kernel
theorem dX7_answerByDraws_10 : decode cX7_answerByDraws 10 = .ok (.iconst 5, 1) := by decide +kernel
theorem dX7_answerByDraws_11 : decode cX7_answerByDraws 11 = .ok (.if_icmp .ne 18, 3) := by decide +kernel
theorem dX7_answerByDraws_14 : decode cX7_answerByDraws 14 = .ok (.aload_n 0, 1) := by decide +kernel
theorem dX7_answerByDraws_15 : decode cX7_answerByDraws 15 = .ok (.getfield 26, 3) := by decide +kernel
theorem dX7_answerByDraws_18 : decode cX7_answerByDraws 18 = .ok (.iload_n 2, 1) := by decide +kernel
theorem dX7_answerByDraws_19 : decode cX7_answerByDraws 19 = .ok (.invokevirtual 86, 3) := by decide +kernel
theorem dX7_answerByDraws_22 : decode cX7_answerByDraws 22 = .ok (.bipush 8, 2) := by decide +kernel
theorem dX7_answerByDraws_24 : decode cX7_answerByDraws 24 = .ok (.if_icmp .lt 5, 3) := by decide +kernel
theorem dX7_answerByDraws_27 : decode cX7_answerByDraws 27 = .ok (.iconst 3, 1) := by decide +kernel
theorem dX7_answerByDraws_28 : decode cX7_answerByDraws 28 = .ok (.ireturn, 1) := by decide +kernel
theorem dX7_answerByDraws_29 : decode cX7_answerByDraws 29 = .ok (.iload_n 3, 1) := by decide +kernel
theorem dX7_answerByDraws_30 : decode cX7_answerByDraws 30 = .ok (.iconst 3, 1) := by decide +kernel
theorem dX7_answerByDraws_31 : decode cX7_answerByDraws 31 = .ok (.if_icmp .ne 11, 3) := by decide +kernel
theorem dX7_answerByDraws_34 : decode cX7_answerByDraws 34 = .ok (.aload_n 0, 1) := by decide +kernel
theorem dX7_answerByDraws_35 : decode cX7_answerByDraws 35 = .ok (.getfield 19, 3) := by decide +kernel
theorem dX7_answerByDraws_38 : decode cX7_answerByDraws 38 = .ok (.invokevirtual 264, 3) := by decide +kernel
theorem dX7_answerByDraws_41 : decode cX7_answerByDraws 41 = .ok (.ireturn, 1) := by decide +kernel
theorem dX7_answerByDraws_42 : decode cX7_answerByDraws 42 = .ok (.aload_n 0, 1) := by decide +kernel
theorem dX7_answerByDraws_43 : decode cX7_answerByDraws 43 = .ok (.iload_n 2, 1) := by decide +kernel
theorem dX7_answerByDraws_44 : decode cX7_answerByDraws 44 = .ok (.aload_n 0, 1) := by decide +kernel
theorem dX7_answerByDraws_45 : decode cX7_answerByDraws 45 = .ok (.iload_n 1, 1) := by decide +kernel
theorem dX7_answerByDraws_46 : decode cX7_answerByDraws 46 = .ok (.iload_n 2, 1) := by decide +kernel
theorem dX7_answerByDraws_47 : decode cX7_answerByDraws 47 = .ok (.invokevirtual 267, 3) := by decide +kernel
theorem dX7_answerByDraws_50 : decode cX7_answerByDraws 50 = .ok (.invokevirtual 270, 3) := by decide +kernel
theorem dX7_answerByDraws_53 : decode cX7_answerByDraws 53 = .ok (.istore 4, 2) := by decide +kernel
theorem dX7_answerByDraws_55 : decode cX7_answerByDraws 55 = .ok (.iload_n 3, 1) := by decide +kernel
theorem dX7_answerByDraws_56 : decode cX7_answerByDraws 56 = .ok (.iconst 1, 1) := by decide +kernel
theorem dX7_answerByDraws_57 : decode cX7_answerByDraws 57 = .ok (.if_icmp .ne 29, 3) := by decide +kernel
theorem dX7_answerByDraws_60 : decode cX7_answerByDraws 60 = .ok (.iload 4, 2) := by decide +kernel
theorem dX7_answerByDraws_62 : decode cX7_answerByDraws 62 = .ok (.iconst 2, 1) := by decide +kernel
theorem dX7_answerByDraws_63 : decode cX7_answerByDraws 63 = .ok (.if_icmp .ne 23, 3) := by decide +kernel
theorem dX7_answerByDraws_66 : decode cX7_answerByDraws 66 = .ok (.aload_n 0, 1) := by decide +kernel
theorem dX7_answerByDraws_67 : decode cX7_answerByDraws 67 = .ok (.getfield 19, 3) := by decide +kernel
theorem dX7_answerByDraws_70 : decode cX7_answerByDraws 70 = .ok (.invokevirtual 273, 3) := by decide +kernel
theorem dX7_answerByDraws_73 : decode cX7_answerByDraws 73 = .ok (.aload_n 0, 1) := by decide +kernel
theorem dX7_answerByDraws_74 : decode cX7_answerByDraws 74 = .ok (.getfield 10, 3) := by decide +kernel
theorem dX7_answerByDraws_77 : decode cX7_answerByDraws 77 = .ok (.iconst 2, 1) := by decide +kernel
theorem dX7_answerByDraws_78 : decode cX7_answerByDraws 78 = .ok (.invokevirtual 102, 3) := by decide +kernel
theorem dX7_answerByDraws_81 : decode cX7_answerByDraws 81 = .ok (.if_icmp .ge 5, 3) := by decide +kernel
theorem dX7_answerByDraws_84 : decode cX7_answerByDraws 84 = .ok (.iconst 1, 1) := by decide +kernel
theorem dX7_answerByDraws_85 : decode cX7_answerByDraws 85 = .ok (.ireturn, 1) := by decide +kernel
theorem dX7_answerByDraws_86 : decode cX7_answerByDraws 86 = .ok (.iload 4, 2) := by decide +kernel
theorem dX7_answerByDraws_88 : decode cX7_answerByDraws 88 = .ok (.ireturn, 1) := by decide +kernel
theorem dX7_seenByDraws_0 : decode cX7_seenByDraws 0 = .ok (.aload_n 0, 1) := by decide +kernel
theorem dX7_seenByDraws_1 : decode cX7_seenByDraws 1 = .ok (.getfield 19, 3) := by decide +kernel
theorem dX7_seenByDraws_4 : decode cX7_seenByDraws 4 = .ok (.invokevirtual 273, 3) := by decide +kernel
theorem dX7_seenByDraws_7 : decode cX7_seenByDraws 7 = .ok (.iload_n 2, 1) := by decide +kernel
theorem dX7_seenByDraws_8 : decode cX7_seenByDraws 8 = .ok (.if_icmp .ge 12, 3) := by decide +kernel
theorem dX7_seenByDraws_11 : decode cX7_seenByDraws 11 = .ok (.aload_n 0, 1) := by decide +kernel
theorem dX7_seenByDraws_12 : decode cX7_seenByDraws 12 = .ok (.getfield 26, 3) := by decide +kernel
theorem dX7_seenByDraws_15 : decode cX7_seenByDraws 15 = .ok (.iload_n 1, 1) := by decide +kernel
theorem dX7_seenByDraws_16 : decode cX7_seenByDraws 16 = .ok (.invokevirtual 77, 3) := by decide +kernel
theorem dX7_seenByDraws_19 : decode cX7_seenByDraws 19 = .ok (.ireturn, 1) := by decide +kernel
theorem dX7_seenByDraws_20 : decode cX7_seenByDraws 20 = .ok (.aload_n 0, 1) := by decide +kernel
theorem dX7_seenByDraws_21 : decode cX7_seenByDraws 21 = .ok (.getfield 26, 3) := by decide +kernel
theorem dX7_seenByDraws_24 : decode cX7_seenByDraws 24 = .ok (.iload_n 1, 1) := by decide +kernel
theorem dX7_seenByDraws_25 : decode cX7_seenByDraws 25 = .ok (.invokevirtual 83, 3) := by decide +kernel
theorem dX7_seenByDraws_28 : decode cX7_seenByDraws 28 = .ok (.iconst 1, 1) := by decide +kernel
theorem dX7_seenByDraws_29 : decode cX7_seenByDraws 29 = .ok (.if_icmp .ne 7, 3) := by decide +kernel
theorem dX7_seenByDraws_32 : decode cX7_seenByDraws 32 = .ok (.iconst 0, 1) := by decide +kernel
theorem dX7_seenByDraws_33 : decode cX7_seenByDraws 33 = .ok (.goto 10, 3) := by decide +kernel
theorem dX7_seenByDraws_36 : decode cX7_seenByDraws 36 = .ok (.aload_n 0, 1) := by decide +kernel
theorem dX7_seenByDraws_37 : decode cX7_seenByDraws 37 = .ok (.getfield 19, 3) := by decide +kernel
theorem dX7_seenByDraws_40 : decode cX7_seenByDraws 40 = .ok (.invokevirtual 264, 3) := by decide +kernel
theorem dX7_seenByDraws_43 : decode cX7_seenByDraws 43 = .ok (.ireturn, 1) := by decide +kernel
theorem dX7_eyeOf_0 : decode cX7_eyeOf 0 = .ok (.aload_n 0, 1) := by decide +kernel
theorem dX7_eyeOf_1 : decode cX7_eyeOf 1 = .ok (.getfield 33, 3) := by decide +kernel
theorem dX7_eyeOf_4 : decode cX7_eyeOf 4 = .ok (.iload_n 1, 1) := by decide +kernel
theorem dX7_eyeOf_5 : decode cX7_eyeOf 5 = .ok (.invokevirtual 261, 3) := by decide +kernel
theorem dX7_eyeOf_8 : decode cX7_eyeOf 8 = .ok (.istore_n 3, 1) := by decide +kernel
theorem dX7_eyeOf_9 : decode cX7_eyeOf 9 = .ok (.iload_n 3, 1) := by decide +kernel
theorem dX7_eyeOf_10 : decode cX7_eyeOf 10 = .ok (.iconst 4, 1) := by decide +kernel
theorem dX7_eyeOf_11 : decode cX7_eyeOf 11 = .ok (.if_icmp .ne 23, 3) := by decide +kernel
theorem dX7_eyeOf_14 : decode cX7_eyeOf 14 = .ok (.aload_n 0, 1) := by decide +kernel
theorem dX7_eyeOf_15 : decode cX7_eyeOf 15 = .ok (.getfield 26, 3) := by decide +kernel
theorem dX7_eyeOf_18 : decode cX7_eyeOf 18 = .ok (.iload_n 2, 1) := by decide +kernel
theorem dX7_eyeOf_19 : decode cX7_eyeOf 19 = .ok (.invokevirtual 86, 3) := by decide +kernel
theorem dX7_eyeOf_22 : decode cX7_eyeOf 22 = .ok (.iconst 4, 1) := by decide +kernel
theorem dX7_eyeOf_23 : decode cX7_eyeOf 23 = .ok (.if_icmp .gt 8, 3) := by decide +kernel
theorem dX7_eyeOf_26 : decode cX7_eyeOf 26 = .ok (.bipush 100, 2) := by decide +kernel
theorem dX7_eyeOf_28 : decode cX7_eyeOf 28 = .ok (.goto 5, 3) := by decide +kernel
theorem dX7_eyeOf_31 : decode cX7_eyeOf 31 = .ok (.bipush 34, 2) := by decide +kernel
theorem dX7_eyeOf_33 : decode cX7_eyeOf 33 = .ok (.ireturn, 1) := by decide +kernel
theorem dX7_eyeOf_34 : decode cX7_eyeOf 34 = .ok (.aload_n 0, 1) := by decide +kernel
theorem dX7_eyeOf_35 : decode cX7_eyeOf 35 = .ok (.getfield 10, 3) := by decide +kernel
theorem dX7_eyeOf_38 : decode cX7_eyeOf 38 = .ok (.aload_n 0, 1) := by decide +kernel
theorem dX7_eyeOf_39 : decode cX7_eyeOf 39 = .ok (.getfield 26, 3) := by decide +kernel
theorem dX7_eyeOf_42 : decode cX7_eyeOf 42 = .ok (.iload_n 2, 1) := by decide +kernel
theorem dX7_eyeOf_43 : decode cX7_eyeOf 43 = .ok (.invokevirtual 83, 3) := by decide +kernel
theorem dX7_eyeOf_46 : decode cX7_eyeOf 46 = .ok (.iconst 1, 1) := by decide +kernel
theorem dX7_eyeOf_47 : decode cX7_eyeOf 47 = .ok (.if_icmp .ne 7, 3) := by decide +kernel
theorem dX7_eyeOf_50 : decode cX7_eyeOf 50 = .ok (.iconst 1, 1) := by decide +kernel
theorem dX7_eyeOf_51 : decode cX7_eyeOf 51 = .ok (.goto 4, 3) := by decide +kernel
theorem dX7_eyeOf_54 : decode cX7_eyeOf 54 = .ok (.iconst 0, 1) := by decide +kernel
theorem dX7_eyeOf_55 : decode cX7_eyeOf 55 = .ok (.invokevirtual 102, 3) := by decide +kernel
theorem dX7_eyeOf_58 : decode cX7_eyeOf 58 = .ok (.istore 4, 2) := by decide +kernel
theorem dX7_eyeOf_60 : decode cX7_eyeOf 60 = .ok (.iload_n 3, 1) := by decide +kernel
theorem dX7_eyeOf_61 : decode cX7_eyeOf 61 = .ok (.iconst 2, 1) := by decide +kernel
theorem dX7_eyeOf_62 : decode cX7_eyeOf 62 = .ok (.if_icmp .ne 28, 3) := by decide +kernel
theorem dX7_eyeOf_65 : decode cX7_eyeOf 65 = .ok (.iconst 0, 1) := by decide +kernel
theorem dX7_eyeOf_66 : decode cX7_eyeOf 66 = .ok (.iload 4, 2) := by decide +kernel
theorem dX7_eyeOf_68 : decode cX7_eyeOf 68 = .ok (.aload_n 0, 1) := by decide +kernel
theorem dX7_eyeOf_69 : decode cX7_eyeOf 69 = .ok (.getfield 10, 3) := by decide +kernel
theorem dX7_eyeOf_72 : decode cX7_eyeOf 72 = .ok (.iconst 3, 1) := by decide +kernel
theorem dX7_eyeOf_73 : decode cX7_eyeOf 73 = .ok (.invokevirtual 102, 3) := by decide +kernel
theorem dX7_eyeOf_76 : decode cX7_eyeOf 76 = .ok (.aload_n 0, 1) := by decide +kernel
theorem dX7_eyeOf_77 : decode cX7_eyeOf 77 = .ok (.getfield 40, 3) := by decide +kernel
theorem dX7_eyeOf_80 : decode cX7_eyeOf 80 = .ok (.iload_n 1, 1) := by decide +kernel
theorem dX7_eyeOf_81 : decode cX7_eyeOf 81 = .ok (.invokevirtual 276, 3) := by decide +kernel
theorem dX7_eyeOf_84 : decode cX7_eyeOf 84 = .ok (.imul, 1) := by decide +kernel
theorem dX7_eyeOf_85 : decode cX7_eyeOf 85 = .ok (.isub, 1) := by decide +kernel
theorem dX7_eyeOf_86 : decode cX7_eyeOf 86 = .ok (.invokestatic 279, 3) := by decide +kernel
theorem dX7_eyeOf_89 : decode cX7_eyeOf 89 = .ok (.ireturn, 1) := by decide +kernel
theorem dX7_eyeOf_90 : decode cX7_eyeOf 90 = .ok (.iload 4, 2) := by decide +kernel
theorem dX7_eyeOf_92 : decode cX7_eyeOf 92 = .ok (.ireturn, 1) := by decide +kernel
theorem dX7_isDone_0 : decode cX7_isDone 0 = .ok (.aload_n 0, 1) := by decide +kernel
theorem dX7_isDone_1 : decode cX7_isDone 1 = .ok (.getfield 47, 3) := by decide +kernel
theorem dX7_isDone_4 : decode cX7_isDone 4 = .ok (.iload_n 1, 1) := by decide +kernel
theorem dX7_isDone_5 : decode cX7_isDone 5 = .ok (.invokevirtual 284, 3) := by decide +kernel
theorem dX7_isDone_8 : decode cX7_isDone 8 = .ok (.aload_n 0, 1) := by decide +kernel
theorem dX7_isDone_9 : decode cX7_isDone 9 = .ok (.getfield 10, 3) := by decide +kernel
theorem dX7_isDone_12 : decode cX7_isDone 12 = .ok (.iconst 4, 1) := by decide +kernel
theorem dX7_isDone_13 : decode cX7_isDone 13 = .ok (.invokevirtual 102, 3) := by decide +kernel
theorem dX7_isDone_16 : decode cX7_isDone 16 = .ok (.bipush 10, 2) := by decide +kernel
theorem dX7_isDone_18 : decode cX7_isDone 18 = .ok (.imul, 1) := by decide +kernel
theorem dX7_isDone_19 : decode cX7_isDone 19 = .ok (.if_icmp .ge 22, 3) := by decide +kernel
theorem dX7_isDone_22 : decode cX7_isDone 22 = .ok (.aload_n 0, 1) := by decide +kernel
theorem dX7_isDone_23 : decode cX7_isDone 23 = .ok (.getfield 40, 3) := by decide +kernel
theorem dX7_isDone_26 : decode cX7_isDone 26 = .ok (.iload_n 1, 1) := by decide +kernel
theorem dX7_isDone_27 : decode cX7_isDone 27 = .ok (.invokevirtual 135, 3) := by decide +kernel
theorem dX7_isDone_30 : decode cX7_isDone 30 = .ok (.aload_n 0, 1) := by decide +kernel
theorem dX7_isDone_31 : decode cX7_isDone 31 = .ok (.getfield 10, 3) := by decide +kernel
theorem dX7_isDone_34 : decode cX7_isDone 34 = .ok (.iconst 5, 1) := by decide +kernel
theorem dX7_isDone_35 : decode cX7_isDone 35 = .ok (.invokevirtual 102, 3) := by decide +kernel
theorem dX7_isDone_38 : decode cX7_isDone 38 = .ok (.if_icmp .lt 7, 3) := by decide +kernel
theorem dX7_isDone_41 : decode cX7_isDone 41 = .ok (.iconst 1, 1) := by decide +kernel
theorem dX7_isDone_42 : decode cX7_isDone 42 = .ok (.goto 4, 3) := by decide +kernel
theorem dX7_isDone_45 : decode cX7_isDone 45 = .ok (.iconst 0, 1) := by decide +kernel
theorem dX7_isDone_46 : decode cX7_isDone 46 = .ok (.ireturn, 1) := by decide +kernel
theorem dX7_doneOnes_0 : decode cX7_doneOnes 0 = .ok (.iconst 0, 1) := by decide +kernel
theorem dX7_doneOnes_1 : decode cX7_doneOnes 1 = .ok (.istore_n 1, 1) := by decide +kernel
theorem dX7_doneOnes_2 : decode cX7_doneOnes 2 = .ok (.iconst 0, 1) := by decide +kernel
theorem dX7_doneOnes_3 : decode cX7_doneOnes 3 = .ok (.istore_n 2, 1) := by decide +kernel
theorem dX7_doneOnes_4 : decode cX7_doneOnes 4 = .ok (.iload_n 2, 1) := by decide +kernel
theorem dX7_doneOnes_5 : decode cX7_doneOnes 5 = .ok (.aload_n 0, 1) := by decide +kernel
theorem dX7_doneOnes_6 : decode cX7_doneOnes 6 = .ok (.getfield 26, 3) := by decide +kernel
theorem dX7_doneOnes_9 : decode cX7_doneOnes 9 = .ok (.invokevirtual 105, 3) := by decide +kernel
theorem dX7_doneOnes_12 : decode cX7_doneOnes 12 = .ok (.if_icmp .ge 20, 3) := by decide +kernel
theorem dX7_doneOnes_15 : decode cX7_doneOnes 15 = .ok (.iload_n 1, 1) := by decide +kernel
theorem dX7_doneOnes_16 : decode cX7_doneOnes 16 = .ok (.aload_n 0, 1) := by decide +kernel
theorem dX7_doneOnes_17 : decode cX7_doneOnes 17 = .ok (.iload_n 2, 1) := by decide +kernel
theorem dX7_doneOnes_18 : decode cX7_doneOnes 18 = .ok (.invokevirtual 141, 3) := by decide +kernel
theorem dX7_doneOnes_21 : decode cX7_doneOnes 21 = .ok (.invokestatic 131, 3) := by decide +kernel
theorem dX7_doneOnes_24 : decode cX7_doneOnes 24 = .ok (.iadd, 1) := by decide +kernel
theorem dX7_doneOnes_25 : decode cX7_doneOnes 25 = .ok (.istore_n 1, 1) := by decide +kernel
theorem dX7_doneOnes_26 : decode cX7_doneOnes 26 = .ok (.iinc 2 1, 3) := by decide +kernel
theorem dX7_doneOnes_29 : decode cX7_doneOnes 29 = .ok (.goto (-25), 3) := by decide +kernel
theorem dX7_doneOnes_32 : decode cX7_doneOnes 32 = .ok (.iload_n 1, 1) := by decide +kernel
theorem dX7_doneOnes_33 : decode cX7_doneOnes 33 = .ok (.ireturn, 1) := by decide +kernel
theorem dX7_shownNext_0 : decode cX7_shownNext 0 = .ok (.iconst (-1), 1) := by decide +kernel
theorem dX7_shownNext_1 : decode cX7_shownNext 1 = .ok (.istore_n 3, 1) := by decide +kernel
theorem dX7_shownNext_2 : decode cX7_shownNext 2 = .ok (.iconst 0, 1) := by decide +kernel
theorem dX7_shownNext_3 : decode cX7_shownNext 3 = .ok (.istore 4, 2) := by decide +kernel
theorem dX7_shownNext_5 : decode cX7_shownNext 5 = .ok (.iload 4, 2) := by decide +kernel
theorem dX7_shownNext_7 : decode cX7_shownNext 7 = .ok (.aload_n 0, 1) := by decide +kernel
theorem dX7_shownNext_8 : decode cX7_shownNext 8 = .ok (.getfield 26, 3) := by decide +kernel
theorem dX7_shownNext_11 : decode cX7_shownNext 11 = .ok (.invokevirtual 105, 3) := by decide +kernel
theorem dX7_shownNext_14 : decode cX7_shownNext 14 = .ok (.if_icmp .ge 63, 3) := by decide +kernel
theorem dX7_shownNext_17 : decode cX7_shownNext 17 = .ok (.aload_n 0, 1) := by decide +kernel
theorem dX7_shownNext_18 : decode cX7_shownNext 18 = .ok (.iload 4, 2) := by decide +kernel
theorem dX7_shownNext_20 : decode cX7_shownNext 20 = .ok (.invokevirtual 141, 3) := by decide +kernel
theorem dX7_shownNext_23 : decode cX7_shownNext 23 = .ok (.ifCond .ne 21, 3) := by decide +kernel
theorem dX7_shownNext_26 : decode cX7_shownNext 26 = .ok (.aload_n 0, 1) := by decide +kernel
theorem dX7_shownNext_27 : decode cX7_shownNext 27 = .ok (.getfield 40, 3) := by decide +kernel
theorem dX7_shownNext_30 : decode cX7_shownNext 30 = .ok (.iload_n 1, 1) := by decide +kernel
theorem dX7_shownNext_31 : decode cX7_shownNext 31 = .ok (.iload 4, 2) := by decide +kernel
theorem dX7_shownNext_33 : decode cX7_shownNext 33 = .ok (.invokevirtual 148, 3) := by decide +kernel
theorem dX7_shownNext_36 : decode cX7_shownNext 36 = .ok (.iconst (-1), 1) := by decide +kernel
theorem dX7_shownNext_37 : decode cX7_shownNext 37 = .ok (.if_icmp .ne 7, 3) := by decide +kernel
theorem dX7_shownNext_40 : decode cX7_shownNext 40 = .ok (.iconst 1, 1) := by decide +kernel
theorem dX7_shownNext_41 : decode cX7_shownNext 41 = .ok (.goto 4, 3) := by decide +kernel
theorem dX7_shownNext_44 : decode cX7_shownNext 44 = .ok (.iconst 0, 1) := by decide +kernel
theorem dX7_shownNext_45 : decode cX7_shownNext 45 = .ok (.istore 5, 2) := by decide +kernel
theorem dX7_shownNext_47 : decode cX7_shownNext 47 = .ok (.iload 5, 2) := by decide +kernel
theorem dX7_shownNext_49 : decode cX7_shownNext 49 = .ok (.ifCond .eq 22, 3) := by decide +kernel
theorem dX7_shownNext_52 : decode cX7_shownNext 52 = .ok (.iload_n 3, 1) := by decide +kernel
theorem dX7_shownNext_53 : decode cX7_shownNext 53 = .ok (.iconst (-1), 1) := by decide +kernel
theorem dX7_shownNext_54 : decode cX7_shownNext 54 = .ok (.if_icmp .eq 14, 3) := by decide +kernel
theorem dX7_shownNext_57 : decode cX7_shownNext 57 = .ok (.aload_n 0, 1) := by decide +kernel
theorem dX7_shownNext_58 : decode cX7_shownNext 58 = .ok (.iload 4, 2) := by decide +kernel
theorem dX7_shownNext_60 : decode cX7_shownNext 60 = .ok (.iload_n 3, 1) := by decide +kernel
theorem dX7_shownNext_61 : decode cX7_shownNext 61 = .ok (.iload_n 2, 1) := by decide +kernel
theorem dX7_shownNext_62 : decode cX7_shownNext 62 = .ok (.invokevirtual 287, 3) := by decide +kernel
theorem dX7_shownNext_65 : decode cX7_shownNext 65 = .ok (.ifCond .eq 6, 3) := by decide +kernel
theorem dX7_shownNext_68 : decode cX7_shownNext 68 = .ok (.iload 4, 2) := by decide +kernel
theorem dX7_shownNext_70 : decode cX7_shownNext 70 = .ok (.istore_n 3, 1) := by decide +kernel
theorem dX7_shownNext_71 : decode cX7_shownNext 71 = .ok (.iinc 4 1, 3) := by decide +kernel
theorem dX7_shownNext_74 : decode cX7_shownNext 74 = .ok (.goto (-69), 3) := by decide +kernel
theorem dX7_shownNext_77 : decode cX7_shownNext 77 = .ok (.iload_n 3, 1) := by decide +kernel
theorem dX7_shownNext_78 : decode cX7_shownNext 78 = .ok (.ireturn, 1) := by decide +kernel
theorem dX7_isShownBefore_0 : decode cX7_isShownBefore 0 = .ok (.aload_n 0, 1) := by decide +kernel
theorem dX7_isShownBefore_1 : decode cX7_isShownBefore 1 = .ok (.getfield 40, 3) := by decide +kernel
theorem dX7_isShownBefore_4 : decode cX7_isShownBefore 4 = .ok (.iload_n 1, 1) := by decide +kernel
theorem dX7_isShownBefore_5 : decode cX7_isShownBefore 5 = .ok (.invokevirtual 135, 3) := by decide +kernel
theorem dX7_isShownBefore_8 : decode cX7_isShownBefore 8 = .ok (.aload_n 0, 1) := by decide +kernel
theorem dX7_isShownBefore_9 : decode cX7_isShownBefore 9 = .ok (.getfield 40, 3) := by decide +kernel
theorem dX7_isShownBefore_12 : decode cX7_isShownBefore 12 = .ok (.iload_n 2, 1) := by decide +kernel
theorem dX7_isShownBefore_13 : decode cX7_isShownBefore 13 = .ok (.invokevirtual 135, 3) := by decide +kernel
theorem dX7_isShownBefore_16 : decode cX7_isShownBefore 16 = .ok (.if_icmp .eq 28, 3) := by decide +kernel
theorem dX7_isShownBefore_19 : decode cX7_isShownBefore 19 = .ok (.aload_n 0, 1) := by decide +kernel
theorem dX7_isShownBefore_20 : decode cX7_isShownBefore 20 = .ok (.getfield 40, 3) := by decide +kernel
theorem dX7_isShownBefore_23 : decode cX7_isShownBefore 23 = .ok (.iload_n 1, 1) := by decide +kernel
theorem dX7_isShownBefore_24 : decode cX7_isShownBefore 24 = .ok (.invokevirtual 135, 3) := by decide +kernel
theorem dX7_isShownBefore_27 : decode cX7_isShownBefore 27 = .ok (.aload_n 0, 1) := by decide +kernel
theorem dX7_isShownBefore_28 : decode cX7_isShownBefore 28 = .ok (.getfield 40, 3) := by decide +kernel
theorem dX7_isShownBefore_31 : decode cX7_isShownBefore 31 = .ok (.iload_n 2, 1) := by decide +kernel
theorem dX7_isShownBefore_32 : decode cX7_isShownBefore 32 = .ok (.invokevirtual 135, 3) := by decide +kernel
theorem dX7_isShownBefore_35 : decode cX7_isShownBefore 35 = .ok (.if_icmp .ge 7, 3) := by decide +kernel
theorem dX7_isShownBefore_38 : decode cX7_isShownBefore 38 = .ok (.iconst 1, 1) := by decide +kernel
theorem dX7_isShownBefore_39 : decode cX7_isShownBefore 39 = .ok (.goto 4, 3) := by decide +kernel
theorem dX7_isShownBefore_42 : decode cX7_isShownBefore 42 = .ok (.iconst 0, 1) := by decide +kernel
theorem dX7_isShownBefore_43 : decode cX7_isShownBefore 43 = .ok (.ireturn, 1) := by decide +kernel
theorem dX7_isShownBefore_44 : decode cX7_isShownBefore 44 = .ok (.iload_n 3, 1) := by decide +kernel
theorem dX7_isShownBefore_45 : decode cX7_isShownBefore 45 = .ok (.iconst 1, 1) := by decide +kernel
theorem dX7_isShownBefore_46 : decode cX7_isShownBefore 46 = .ok (.if_icmp .ne 28, 3) := by decide +kernel
theorem dX7_isShownBefore_49 : decode cX7_isShownBefore 49 = .ok (.aload_n 0, 1) := by decide +kernel
theorem dX7_isShownBefore_50 : decode cX7_isShownBefore 50 = .ok (.getfield 47, 3) := by decide +kernel
theorem dX7_isShownBefore_53 : decode cX7_isShownBefore 53 = .ok (.iload_n 1, 1) := by decide +kernel
theorem dX7_isShownBefore_54 : decode cX7_isShownBefore 54 = .ok (.invokevirtual 284, 3) := by decide +kernel
theorem dX7_isShownBefore_57 : decode cX7_isShownBefore 57 = .ok (.aload_n 0, 1) := by decide +kernel
theorem dX7_isShownBefore_58 : decode cX7_isShownBefore 58 = .ok (.getfield 47, 3) := by decide +kernel
theorem dX7_isShownBefore_61 : decode cX7_isShownBefore 61 = .ok (.iload_n 2, 1) := by decide +kernel
theorem dX7_isShownBefore_62 : decode cX7_isShownBefore 62 = .ok (.invokevirtual 284, 3) := by decide +kernel
theorem dX7_isShownBefore_65 : decode cX7_isShownBefore 65 = .ok (.if_icmp .ge 7, 3) := by decide +kernel
theorem dX7_isShownBefore_68 : decode cX7_isShownBefore 68 = .ok (.iconst 1, 1) := by decide +kernel
theorem dX7_isShownBefore_69 : decode cX7_isShownBefore 69 = .ok (.goto 4, 3) := by decide +kernel
theorem dX7_isShownBefore_72 : decode cX7_isShownBefore 72 = .ok (.iconst 0, 1) := by decide +kernel
theorem dX7_isShownBefore_73 : decode cX7_isShownBefore 73 = .ok (.ireturn, 1) := by decide +kernel
theorem dX7_isShownBefore_74 : decode cX7_isShownBefore 74 = .ok (.iload_n 3, 1) := by decide +kernel
theorem dX7_isShownBefore_75 : decode cX7_isShownBefore 75 = .ok (.iconst 2, 1) := by decide +kernel
theorem dX7_isShownBefore_76 : decode cX7_isShownBefore 76 = .ok (.if_icmp .ne 26, 3) := by decide +kernel
theorem dX7_isShownBefore_79 : decode cX7_isShownBefore 79 = .ok (.aload_n 0, 1) := by decide +kernel
theorem dX7_isShownBefore_80 : decode cX7_isShownBefore 80 = .ok (.getfield 26, 3) := by decide +kernel
theorem dX7_isShownBefore_83 : decode cX7_isShownBefore 83 = .ok (.iload_n 1, 1) := by decide +kernel
theorem dX7_isShownBefore_84 : decode cX7_isShownBefore 84 = .ok (.invokevirtual 86, 3) := by decide +kernel
theorem dX7_isShownBefore_87 : decode cX7_isShownBefore 87 = .ok (.aload_n 0, 1) := by decide +kernel
theorem dX7_isShownBefore_88 : decode cX7_isShownBefore 88 = .ok (.getfield 26, 3) := by decide +kernel
theorem dX7_isShownBefore_91 : decode cX7_isShownBefore 91 = .ok (.iload_n 2, 1) := by decide +kernel
theorem dX7_isShownBefore_92 : decode cX7_isShownBefore 92 = .ok (.invokevirtual 86, 3) := by decide +kernel
theorem dX7_isShownBefore_95 : decode cX7_isShownBefore 95 = .ok (.if_icmp .le 7, 3) := by decide +kernel
theorem dX7_isShownBefore_98 : decode cX7_isShownBefore 98 = .ok (.iconst 1, 1) := by decide +kernel
theorem dX7_isShownBefore_99 : decode cX7_isShownBefore 99 = .ok (.goto 4, 3) := by decide +kernel
theorem dX7_isShownBefore_102 : decode cX7_isShownBefore 102 = .ok (.iconst 0, 1) := by decide +kernel
theorem dX7_isShownBefore_103 : decode cX7_isShownBefore 103 = .ok (.ireturn, 1) := by decide +kernel
theorem dX7_takeTurn_0 : decode cX7_takeTurn 0 = .ok (.iconst 0, 1) := by decide +kernel
theorem dX7_takeTurn_1 : decode cX7_takeTurn 1 = .ok (.istore_n 3, 1) := by decide +kernel
theorem dX7_takeTurn_2 : decode cX7_takeTurn 2 = .ok (.iload_n 3, 1) := by decide +kernel
theorem dX7_takeTurn_3 : decode cX7_takeTurn 3 = .ok (.aload_n 0, 1) := by decide +kernel
theorem dX7_takeTurn_4 : decode cX7_takeTurn 4 = .ok (.getfield 33, 3) := by decide +kernel
theorem dX7_takeTurn_7 : decode cX7_takeTurn 7 = .ok (.invokevirtual 108, 3) := by decide +kernel
theorem dX7_takeTurn_10 : decode cX7_takeTurn 10 = .ok (.if_icmp .ge 57, 3) := by decide +kernel
theorem dX7_takeTurn_13 : decode cX7_takeTurn 13 = .ok (.iload_n 1, 1) := by decide +kernel
theorem dX7_takeTurn_14 : decode cX7_takeTurn 14 = .ok (.iload_n 3, 1) := by decide +kernel
theorem dX7_takeTurn_15 : decode cX7_takeTurn 15 = .ok (.invokestatic 290, 3) := by decide +kernel
theorem dX7_takeTurn_18 : decode cX7_takeTurn 18 = .ok (.ifCond .eq 43, 3) := by decide +kernel
theorem dX7_takeTurn_21 : decode cX7_takeTurn 21 = .ok (.aload_n 0, 1) := by decide +kernel
theorem dX7_takeTurn_22 : decode cX7_takeTurn 22 = .ok (.getfield 40, 3) := by decide +kernel
theorem dX7_takeTurn_25 : decode cX7_takeTurn 25 = .ok (.invokevirtual 155, 3) := by decide +kernel
theorem dX7_takeTurn_28 : decode cX7_takeTurn 28 = .ok (.ifCond .ne 33, 3) := by decide +kernel
theorem dX7_takeTurn_31 : decode cX7_takeTurn 31 = .ok (.aload_n 0, 1) := by decide +kernel
theorem dX7_takeTurn_32 : decode cX7_takeTurn 32 = .ok (.iload_n 3, 1) := by decide +kernel
theorem dX7_takeTurn_33 : decode cX7_takeTurn 33 = .ok (.invokevirtual 189, 3) := by decide +kernel
theorem dX7_takeTurn_36 : decode cX7_takeTurn 36 = .ok (.ifCond .eq 25, 3) := by decide +kernel
theorem dX7_takeTurn_39 : decode cX7_takeTurn 39 = .ok (.aload_n 0, 1) := by decide +kernel
theorem dX7_takeTurn_40 : decode cX7_takeTurn 40 = .ok (.iload_n 3, 1) := by decide +kernel
theorem dX7_takeTurn_41 : decode cX7_takeTurn 41 = .ok (.iload_n 2, 1) := by decide +kernel
theorem dX7_takeTurn_42 : decode cX7_takeTurn 42 = .ok (.invokevirtual 178, 3) := by decide +kernel
theorem dX7_takeTurn_45 : decode cX7_takeTurn 45 = .ok (.istore 4, 2) := by decide +kernel
theorem dX7_takeTurn_47 : decode cX7_takeTurn 47 = .ok (.iload 4, 2) := by decide +kernel
theorem dX7_takeTurn_49 : decode cX7_takeTurn 49 = .ok (.iconst (-1), 1) := by decide +kernel
theorem dX7_takeTurn_50 : decode cX7_takeTurn 50 = .ok (.if_icmp .eq 11, 3) := by decide +kernel
theorem dX7_takeTurn_53 : decode cX7_takeTurn 53 = .ok (.aload_n 0, 1) := by decide +kernel
theorem dX7_takeTurn_54 : decode cX7_takeTurn 54 = .ok (.iload_n 3, 1) := by decide +kernel
theorem dX7_takeTurn_55 : decode cX7_takeTurn 55 = .ok (.iload 4, 2) := by decide +kernel
theorem dX7_takeTurn_57 : decode cX7_takeTurn 57 = .ok (.invokevirtual 159, 3) := by decide +kernel
theorem dX7_takeTurn_60 : decode cX7_takeTurn 60 = .ok (.pop, 1) := by decide +kernel
theorem dX7_takeTurn_61 : decode cX7_takeTurn 61 = .ok (.iinc 3 1, 3) := by decide +kernel
theorem dX7_takeTurn_64 : decode cX7_takeTurn 64 = .ok (.goto (-62), 3) := by decide +kernel
theorem dX7_takeTurn_67 : decode cX7_takeTurn 67 = .ok (.return_, 1) := by decide +kernel
theorem dX7_keepsOn_0 : decode cX7_keepsOn 0 = .ok (.aload_n 0, 1) := by decide +kernel
theorem dX7_keepsOn_1 : decode cX7_keepsOn 1 = .ok (.getfield 10, 3) := by decide +kernel
theorem dX7_keepsOn_4 : decode cX7_keepsOn 4 = .ok (.bipush 6, 2) := by decide +kernel
theorem dX7_keepsOn_6 : decode cX7_keepsOn 6 = .ok (.invokevirtual 102, 3) := by decide +kernel
theorem dX7_keepsOn_9 : decode cX7_keepsOn 9 = .ok (.istore_n 2, 1) := by decide +kernel
theorem dX7_keepsOn_10 : decode cX7_keepsOn 10 = .ok (.iconst 0, 1) := by decide +kernel
theorem dX7_keepsOn_11 : decode cX7_keepsOn 11 = .ok (.istore_n 3, 1) := by decide +kernel
theorem dX7_keepsOn_12 : decode cX7_keepsOn 12 = .ok (.aload_n 0, 1) := by decide +kernel
theorem dX7_keepsOn_13 : decode cX7_keepsOn 13 = .ok (.getfield 40, 3) := by decide +kernel
theorem dX7_keepsOn_16 : decode cX7_keepsOn 16 = .ok (.invokevirtual 109, 3) := by decide +kernel
theorem dX7_keepsOn_19 : decode cX7_keepsOn 19 = .ok (.iconst 1, 1) := by decide +kernel
theorem dX7_keepsOn_20 : decode cX7_keepsOn 20 = .ok (.isub, 1) := by decide +kernel
theorem dX7_keepsOn_21 : decode cX7_keepsOn 21 = .ok (.istore 4, 2) := by decide +kernel
theorem dX7_keepsOn_23 : decode cX7_keepsOn 23 = .ok (.iload 4, 2) := by decide +kernel
theorem dX7_keepsOn_25 : decode cX7_keepsOn 25 = .ok (.ifCond .lt 52, 3) := by decide +kernel
theorem dX7_keepsOn_28 : decode cX7_keepsOn 28 = .ok (.iload_n 3, 1) := by decide +kernel
theorem dX7_keepsOn_29 : decode cX7_keepsOn 29 = .ok (.iload_n 2, 1) := by decide +kernel
theorem dX7_keepsOn_30 : decode cX7_keepsOn 30 = .ok (.if_icmp .ge 47, 3) := by decide +kernel
theorem dX7_keepsOn_33 : decode cX7_keepsOn 33 = .ok (.aload_n 0, 1) := by decide +kernel
theorem dX7_keepsOn_34 : decode cX7_keepsOn 34 = .ok (.getfield 40, 3) := by decide +kernel
theorem dX7_keepsOn_37 : decode cX7_keepsOn 37 = .ok (.iload 4, 2) := by decide +kernel
theorem dX7_keepsOn_39 : decode cX7_keepsOn 39 = .ok (.invokevirtual 163, 3) := by decide +kernel
theorem dX7_keepsOn_42 : decode cX7_keepsOn 42 = .ok (.iload_n 1, 1) := by decide +kernel
theorem dX7_keepsOn_43 : decode cX7_keepsOn 43 = .ok (.if_icmp .ne 28, 3) := by decide +kernel
theorem dX7_keepsOn_46 : decode cX7_keepsOn 46 = .ok (.aload_n 0, 1) := by decide +kernel
theorem dX7_keepsOn_47 : decode cX7_keepsOn 47 = .ok (.getfield 26, 3) := by decide +kernel
theorem dX7_keepsOn_50 : decode cX7_keepsOn 50 = .ok (.aload_n 0, 1) := by decide +kernel
theorem dX7_keepsOn_51 : decode cX7_keepsOn 51 = .ok (.getfield 40, 3) := by decide +kernel
theorem dX7_keepsOn_54 : decode cX7_keepsOn 54 = .ok (.iload 4, 2) := by decide +kernel
theorem dX7_keepsOn_56 : decode cX7_keepsOn 56 = .ok (.invokevirtual 166, 3) := by decide +kernel
theorem dX7_keepsOn_59 : decode cX7_keepsOn 59 = .ok (.invokevirtual 83, 3) := by decide +kernel
theorem dX7_keepsOn_62 : decode cX7_keepsOn 62 = .ok (.iconst 1, 1) := by decide +kernel
theorem dX7_keepsOn_63 : decode cX7_keepsOn 63 = .ok (.if_icmp .eq 5, 3) := by decide +kernel
theorem dX7_keepsOn_66 : decode cX7_keepsOn 66 = .ok (.iconst 1, 1) := by decide +kernel
theorem dX7_keepsOn_67 : decode cX7_keepsOn 67 = .ok (.ireturn, 1) := by decide +kernel
theorem dX7_keepsOn_68 : decode cX7_keepsOn 68 = .ok (.iinc 3 1, 3) := by decide +kernel
theorem dX7_keepsOn_71 : decode cX7_keepsOn 71 = .ok (.iinc 4 (-1), 3) := by decide +kernel
theorem dX7_keepsOn_74 : decode cX7_keepsOn 74 = .ok (.goto (-51), 3) := by decide +kernel
theorem dX7_keepsOn_77 : decode cX7_keepsOn 77 = .ok (.iload_n 3, 1) := by decide +kernel
theorem dX7_keepsOn_78 : decode cX7_keepsOn 78 = .ok (.iload_n 2, 1) := by decide +kernel
theorem dX7_keepsOn_79 : decode cX7_keepsOn 79 = .ok (.if_icmp .ge 7, 3) := by decide +kernel
theorem dX7_keepsOn_82 : decode cX7_keepsOn 82 = .ok (.iconst 1, 1) := by decide +kernel
theorem dX7_keepsOn_83 : decode cX7_keepsOn 83 = .ok (.goto 4, 3) := by decide +kernel
theorem dX7_keepsOn_86 : decode cX7_keepsOn 86 = .ok (.iconst 0, 1) := by decide +kernel
theorem dX7_keepsOn_87 : decode cX7_keepsOn 87 = .ok (.ireturn, 1) := by decide +kernel
theorem dX7_stayingOnes_0 : decode cX7_stayingOnes 0 = .ok (.iconst 0, 1) := by decide +kernel
theorem dX7_stayingOnes_1 : decode cX7_stayingOnes 1 = .ok (.istore_n 1, 1) := by decide +kernel
theorem dX7_stayingOnes_2 : decode cX7_stayingOnes 2 = .ok (.iconst 0, 1) := by decide +kernel
theorem dX7_stayingOnes_3 : decode cX7_stayingOnes 3 = .ok (.istore_n 2, 1) := by decide +kernel
theorem dX7_stayingOnes_4 : decode cX7_stayingOnes 4 = .ok (.iload_n 2, 1) := by decide +kernel
theorem dX7_stayingOnes_5 : decode cX7_stayingOnes 5 = .ok (.aload_n 0, 1) := by decide +kernel
theorem dX7_stayingOnes_6 : decode cX7_stayingOnes 6 = .ok (.getfield 33, 3) := by decide +kernel
theorem dX7_stayingOnes_9 : decode cX7_stayingOnes 9 = .ok (.invokevirtual 108, 3) := by decide +kernel
theorem dX7_stayingOnes_12 : decode cX7_stayingOnes 12 = .ok (.if_icmp .ge 20, 3) := by decide +kernel
theorem dX7_stayingOnes_15 : decode cX7_stayingOnes 15 = .ok (.iload_n 1, 1) := by decide +kernel
theorem dX7_stayingOnes_16 : decode cX7_stayingOnes 16 = .ok (.aload_n 0, 1) := by decide +kernel
theorem dX7_stayingOnes_17 : decode cX7_stayingOnes 17 = .ok (.iload_n 2, 1) := by decide +kernel
theorem dX7_stayingOnes_18 : decode cX7_stayingOnes 18 = .ok (.invokevirtual 189, 3) := by decide +kernel
theorem dX7_stayingOnes_21 : decode cX7_stayingOnes 21 = .ok (.invokestatic 131, 3) := by decide +kernel
theorem dX7_stayingOnes_24 : decode cX7_stayingOnes 24 = .ok (.iadd, 1) := by decide +kernel
theorem dX7_stayingOnes_25 : decode cX7_stayingOnes 25 = .ok (.istore_n 1, 1) := by decide +kernel
theorem dX7_stayingOnes_26 : decode cX7_stayingOnes 26 = .ok (.iinc 2 1, 3) := by decide +kernel
theorem dX7_stayingOnes_29 : decode cX7_stayingOnes 29 = .ok (.goto (-25), 3) := by decide +kernel
theorem dX7_stayingOnes_32 : decode cX7_stayingOnes 32 = .ok (.iload_n 1, 1) := by decide +kernel
theorem dX7_stayingOnes_33 : decode cX7_stayingOnes 33 = .ok (.ireturn, 1) := by decide +kernel
theorem dX7_farShare_0 : decode cX7_farShare 0 = .ok (.iconst 0, 1) := by decide +kernel
theorem dX7_farShare_1 : decode cX7_farShare 1 = .ok (.istore_n 2, 1) := by decide +kernel
theorem dX7_farShare_2 : decode cX7_farShare 2 = .ok (.iconst 0, 1) := by decide +kernel
theorem dX7_farShare_3 : decode cX7_farShare 3 = .ok (.istore_n 3, 1) := by decide +kernel
theorem dX7_farShare_4 : decode cX7_farShare 4 = .ok (.iload_n 3, 1) := by decide +kernel
theorem dX7_farShare_5 : decode cX7_farShare 5 = .ok (.aload_n 0, 1) := by decide +kernel
theorem dX7_farShare_6 : decode cX7_farShare 6 = .ok (.getfield 26, 3) := by decide +kernel
theorem dX7_farShare_9 : decode cX7_farShare 9 = .ok (.invokevirtual 105, 3) := by decide +kernel
theorem dX7_farShare_12 : decode cX7_farShare 12 = .ok (.if_icmp .ge 33, 3) := by decide +kernel
theorem dX7_farShare_15 : decode cX7_farShare 15 = .ok (.aload_n 0, 1) := by decide +kernel
theorem dX7_farShare_16 : decode cX7_farShare 16 = .ok (.getfield 26, 3) := by decide +kernel
theorem dX7_farShare_19 : decode cX7_farShare 19 = .ok (.iload_n 3, 1) := by decide +kernel
theorem dX7_farShare_20 : decode cX7_farShare 20 = .ok (.invokevirtual 83, 3) := by decide +kernel
theorem dX7_farShare_23 : decode cX7_farShare 23 = .ok (.iconst 1, 1) := by decide +kernel
theorem dX7_farShare_24 : decode cX7_farShare 24 = .ok (.if_icmp .ne 15, 3) := by decide +kernel
theorem dX7_farShare_27 : decode cX7_farShare 27 = .ok (.iload_n 2, 1) := by decide +kernel
theorem dX7_farShare_28 : decode cX7_farShare 28 = .ok (.aload_n 0, 1) := by decide +kernel
theorem dX7_farShare_29 : decode cX7_farShare 29 = .ok (.getfield 47, 3) := by decide +kernel
theorem dX7_farShare_32 : decode cX7_farShare 32 = .ok (.iload_n 3, 1) := by decide +kernel
theorem dX7_farShare_33 : decode cX7_farShare 33 = .ok (.iload_n 1, 1) := by decide +kernel
theorem dX7_farShare_34 : decode cX7_farShare 34 = .ok (.invokevirtual 196, 3) := by decide +kernel
theorem dX7_farShare_37 : decode cX7_farShare 37 = .ok (.iadd, 1) := by decide +kernel
theorem dX7_farShare_38 : decode cX7_farShare 38 = .ok (.istore_n 2, 1) := by decide +kernel
theorem dX7_farShare_39 : decode cX7_farShare 39 = .ok (.iinc 3 1, 3) := by decide +kernel
theorem dX7_farShare_42 : decode cX7_farShare 42 = .ok (.goto (-38), 3) := by decide +kernel
theorem dX7_farShare_45 : decode cX7_farShare 45 = .ok (.iload_n 2, 1) := by decide +kernel
theorem dX7_farShare_46 : decode cX7_farShare 46 = .ok (.ireturn, 1) := by decide +kernel
theorem dX7_mirrorPairs_0 : decode cX7_mirrorPairs 0 = .ok (.iconst 0, 1) := by decide +kernel
theorem dX7_mirrorPairs_1 : decode cX7_mirrorPairs 1 = .ok (.istore 4, 2) := by decide +kernel
theorem dX7_mirrorPairs_3 : decode cX7_mirrorPairs 3 = .ok (.iconst 0, 1) := by decide +kernel
theorem dX7_mirrorPairs_4 : decode cX7_mirrorPairs 4 = .ok (.istore 5, 2) := by decide +kernel
theorem dX7_mirrorPairs_6 : decode cX7_mirrorPairs 6 = .ok (.iload 5, 2) := by decide +kernel
theorem dX7_mirrorPairs_8 : decode cX7_mirrorPairs 8 = .ok (.aload_n 0, 1) := by decide +kernel
theorem dX7_mirrorPairs_9 : decode cX7_mirrorPairs 9 = .ok (.getfield 26, 3) := by decide +kernel
theorem dX7_mirrorPairs_12 : decode cX7_mirrorPairs 12 = .ok (.invokevirtual 105, 3) := by decide +kernel
theorem dX7_mirrorPairs_15 : decode cX7_mirrorPairs 15 = .ok (.if_icmp .ge 67, 3) := by decide +kernel
theorem dX7_mirrorPairs_18 : decode cX7_mirrorPairs 18 = .ok (.aload_n 0, 1) := by decide +kernel
theorem dX7_mirrorPairs_19 : decode cX7_mirrorPairs 19 = .ok (.getfield 26, 3) := by decide +kernel
theorem dX7_mirrorPairs_22 : decode cX7_mirrorPairs 22 = .ok (.iload 5, 2) := by decide +kernel
theorem dX7_mirrorPairs_24 : decode cX7_mirrorPairs 24 = .ok (.invokevirtual 73, 3) := by decide +kernel
theorem dX7_mirrorPairs_27 : decode cX7_mirrorPairs 27 = .ok (.istore 6, 2) := by decide +kernel
theorem dX7_mirrorPairs_29 : decode cX7_mirrorPairs 29 = .ok (.iload 6, 2) := by decide +kernel
theorem dX7_mirrorPairs_31 : decode cX7_mirrorPairs 31 = .ok (.iconst (-1), 1) := by decide +kernel
theorem dX7_mirrorPairs_32 : decode cX7_mirrorPairs 32 = .ok (.if_icmp .eq 44, 3) := by decide +kernel
theorem dX7_mirrorPairs_35 : decode cX7_mirrorPairs 35 = .ok (.iload 4, 2) := by decide +kernel
theorem dX7_mirrorPairs_37 : decode cX7_mirrorPairs 37 = .ok (.aload_n 0, 1) := by decide +kernel
theorem dX7_mirrorPairs_38 : decode cX7_mirrorPairs 38 = .ok (.getfield 40, 3) := by decide +kernel
theorem dX7_mirrorPairs_41 : decode cX7_mirrorPairs 41 = .ok (.iload_n 1, 1) := by decide +kernel
theorem dX7_mirrorPairs_42 : decode cX7_mirrorPairs 42 = .ok (.iload 6, 2) := by decide +kernel
theorem dX7_mirrorPairs_44 : decode cX7_mirrorPairs 44 = .ok (.invokevirtual 148, 3) := by decide +kernel
theorem dX7_mirrorPairs_47 : decode cX7_mirrorPairs 47 = .ok (.iload_n 2, 1) := by decide +kernel
theorem dX7_mirrorPairs_48 : decode cX7_mirrorPairs 48 = .ok (.if_icmp .ne 21, 3) := by decide +kernel
theorem dX7_mirrorPairs_51 : decode cX7_mirrorPairs 51 = .ok (.aload_n 0, 1) := by decide +kernel
theorem dX7_mirrorPairs_52 : decode cX7_mirrorPairs 52 = .ok (.getfield 40, 3) := by decide +kernel
theorem dX7_mirrorPairs_55 : decode cX7_mirrorPairs 55 = .ok (.iload_n 1, 1) := by decide +kernel
theorem dX7_mirrorPairs_56 : decode cX7_mirrorPairs 56 = .ok (.iload 5, 2) := by decide +kernel
theorem dX7_mirrorPairs_58 : decode cX7_mirrorPairs 58 = .ok (.invokevirtual 148, 3) := by decide +kernel
theorem dX7_mirrorPairs_61 : decode cX7_mirrorPairs 61 = .ok (.iload_n 3, 1) := by decide +kernel
theorem dX7_mirrorPairs_62 : decode cX7_mirrorPairs 62 = .ok (.if_icmp .ne 7, 3) := by decide +kernel
theorem dX7_mirrorPairs_65 : decode cX7_mirrorPairs 65 = .ok (.iconst 1, 1) := by decide +kernel
theorem dX7_mirrorPairs_66 : decode cX7_mirrorPairs 66 = .ok (.goto 4, 3) := by decide +kernel
theorem dX7_mirrorPairs_69 : decode cX7_mirrorPairs 69 = .ok (.iconst 0, 1) := by decide +kernel
theorem dX7_mirrorPairs_70 : decode cX7_mirrorPairs 70 = .ok (.invokestatic 131, 3) := by decide +kernel
theorem dX7_mirrorPairs_73 : decode cX7_mirrorPairs 73 = .ok (.iadd, 1) := by decide +kernel
theorem dX7_mirrorPairs_74 : decode cX7_mirrorPairs 74 = .ok (.istore 4, 2) := by decide +kernel
theorem dX7_mirrorPairs_76 : decode cX7_mirrorPairs 76 = .ok (.iinc 5 1, 3) := by decide +kernel
theorem dX7_mirrorPairs_79 : decode cX7_mirrorPairs 79 = .ok (.goto (-73), 3) := by decide +kernel
theorem dX7_mirrorPairs_82 : decode cX7_mirrorPairs 82 = .ok (.iload 4, 2) := by decide +kernel
theorem dX7_mirrorPairs_84 : decode cX7_mirrorPairs 84 = .ok (.ireturn, 1) := by decide +kernel
theorem dX7_sharedPictures_0 : decode cX7_sharedPictures 0 = .ok (.iconst 0, 1) := by decide +kernel
theorem dX7_sharedPictures_1 : decode cX7_sharedPictures 1 = .ok (.istore_n 3, 1) := by decide +kernel
theorem dX7_sharedPictures_2 : decode cX7_sharedPictures 2 = .ok (.iconst 0, 1) := by decide +kernel
theorem dX7_sharedPictures_3 : decode cX7_sharedPictures 3 = .ok (.istore 4, 2) := by decide +kernel
theorem dX7_sharedPictures_5 : decode cX7_sharedPictures 5 = .ok (.iload 4, 2) := by decide +kernel
theorem dX7_sharedPictures_7 : decode cX7_sharedPictures 7 = .ok (.aload_n 0, 1) := by decide +kernel
theorem dX7_sharedPictures_8 : decode cX7_sharedPictures 8 = .ok (.getfield 26, 3) := by decide +kernel
theorem dX7_sharedPictures_11 : decode cX7_sharedPictures 11 = .ok (.invokevirtual 105, 3) := by decide +kernel
theorem dX7_sharedPictures_14 : decode cX7_sharedPictures 14 = .ok (.if_icmp .ge 48, 3) := by decide +kernel
theorem dX7_sharedPictures_17 : decode cX7_sharedPictures 17 = .ok (.iload_n 3, 1) := by decide +kernel
theorem dX7_sharedPictures_18 : decode cX7_sharedPictures 18 = .ok (.aload_n 0, 1) := by decide +kernel
theorem dX7_sharedPictures_19 : decode cX7_sharedPictures 19 = .ok (.getfield 40, 3) := by decide +kernel
theorem dX7_sharedPictures_22 : decode cX7_sharedPictures 22 = .ok (.iload_n 1, 1) := by decide +kernel
theorem dX7_sharedPictures_23 : decode cX7_sharedPictures 23 = .ok (.iload 4, 2) := by decide +kernel
theorem dX7_sharedPictures_25 : decode cX7_sharedPictures 25 = .ok (.invokevirtual 148, 3) := by decide +kernel
theorem dX7_sharedPictures_28 : decode cX7_sharedPictures 28 = .ok (.iconst (-1), 1) := by decide +kernel
theorem dX7_sharedPictures_29 : decode cX7_sharedPictures 29 = .ok (.if_icmp .eq 21, 3) := by decide +kernel
theorem dX7_sharedPictures_32 : decode cX7_sharedPictures 32 = .ok (.aload_n 0, 1) := by decide +kernel
theorem dX7_sharedPictures_33 : decode cX7_sharedPictures 33 = .ok (.getfield 40, 3) := by decide +kernel
theorem dX7_sharedPictures_36 : decode cX7_sharedPictures 36 = .ok (.iload_n 2, 1) := by decide +kernel
theorem dX7_sharedPictures_37 : decode cX7_sharedPictures 37 = .ok (.iload 4, 2) := by decide +kernel
theorem dX7_sharedPictures_39 : decode cX7_sharedPictures 39 = .ok (.invokevirtual 148, 3) := by decide +kernel
theorem dX7_sharedPictures_42 : decode cX7_sharedPictures 42 = .ok (.iconst (-1), 1) := by decide +kernel
theorem dX7_sharedPictures_43 : decode cX7_sharedPictures 43 = .ok (.if_icmp .eq 7, 3) := by decide +kernel
theorem dX7_sharedPictures_46 : decode cX7_sharedPictures 46 = .ok (.iconst 1, 1) := by decide +kernel
theorem dX7_sharedPictures_47 : decode cX7_sharedPictures 47 = .ok (.goto 4, 3) := by decide +kernel
theorem dX7_sharedPictures_50 : decode cX7_sharedPictures 50 = .ok (.iconst 0, 1) := by decide +kernel
theorem dX7_sharedPictures_51 : decode cX7_sharedPictures 51 = .ok (.invokestatic 131, 3) := by decide +kernel
theorem dX7_sharedPictures_54 : decode cX7_sharedPictures 54 = .ok (.iadd, 1) := by decide +kernel
theorem dX7_sharedPictures_55 : decode cX7_sharedPictures 55 = .ok (.istore_n 3, 1) := by decide +kernel
theorem dX7_sharedPictures_56 : decode cX7_sharedPictures 56 = .ok (.iinc 4 1, 3) := by decide +kernel
theorem dX7_sharedPictures_59 : decode cX7_sharedPictures 59 = .ok (.goto (-54), 3) := by decide +kernel
theorem dX7_sharedPictures_62 : decode cX7_sharedPictures 62 = .ok (.iload_n 3, 1) := by decide +kernel
theorem dX7_sharedPictures_63 : decode cX7_sharedPictures 63 = .ok (.ireturn, 1) := by decide +kernel
theorem dX7_alikeAnswers_0 : decode cX7_alikeAnswers 0 = .ok (.iconst 0, 1) := by decide +kernel
theorem dX7_alikeAnswers_1 : decode cX7_alikeAnswers 1 = .ok (.istore_n 3, 1) := by decide +kernel
theorem dX7_alikeAnswers_2 : decode cX7_alikeAnswers 2 = .ok (.iconst 0, 1) := by decide +kernel
theorem dX7_alikeAnswers_3 : decode cX7_alikeAnswers 3 = .ok (.istore 4, 2) := by decide +kernel
theorem dX7_alikeAnswers_5 : decode cX7_alikeAnswers 5 = .ok (.iload 4, 2) := by decide +kernel
theorem dX7_alikeAnswers_7 : decode cX7_alikeAnswers 7 = .ok (.aload_n 0, 1) := by decide +kernel
theorem dX7_alikeAnswers_8 : decode cX7_alikeAnswers 8 = .ok (.getfield 26, 3) := by decide +kernel
theorem dX7_alikeAnswers_11 : decode cX7_alikeAnswers 11 = .ok (.invokevirtual 105, 3) := by decide +kernel
theorem dX7_alikeAnswers_14 : decode cX7_alikeAnswers 14 = .ok (.if_icmp .ge 57, 3) := by decide +kernel
theorem dX7_alikeAnswers_17 : decode cX7_alikeAnswers 17 = .ok (.iload_n 3, 1) := by decide +kernel
theorem dX7_alikeAnswers_18 : decode cX7_alikeAnswers 18 = .ok (.aload_n 0, 1) := by decide +kernel
theorem dX7_alikeAnswers_19 : decode cX7_alikeAnswers 19 = .ok (.getfield 40, 3) := by decide +kernel
theorem dX7_alikeAnswers_22 : decode cX7_alikeAnswers 22 = .ok (.iload_n 1, 1) := by decide +kernel
theorem dX7_alikeAnswers_23 : decode cX7_alikeAnswers 23 = .ok (.iload 4, 2) := by decide +kernel
theorem dX7_alikeAnswers_25 : decode cX7_alikeAnswers 25 = .ok (.invokevirtual 148, 3) := by decide +kernel
theorem dX7_alikeAnswers_28 : decode cX7_alikeAnswers 28 = .ok (.iconst (-1), 1) := by decide +kernel
theorem dX7_alikeAnswers_29 : decode cX7_alikeAnswers 29 = .ok (.if_icmp .eq 30, 3) := by decide +kernel
theorem dX7_alikeAnswers_32 : decode cX7_alikeAnswers 32 = .ok (.aload_n 0, 1) := by decide +kernel
theorem dX7_alikeAnswers_33 : decode cX7_alikeAnswers 33 = .ok (.getfield 40, 3) := by decide +kernel
theorem dX7_alikeAnswers_36 : decode cX7_alikeAnswers 36 = .ok (.iload_n 1, 1) := by decide +kernel
theorem dX7_alikeAnswers_37 : decode cX7_alikeAnswers 37 = .ok (.iload 4, 2) := by decide +kernel
theorem dX7_alikeAnswers_39 : decode cX7_alikeAnswers 39 = .ok (.invokevirtual 148, 3) := by decide +kernel
theorem dX7_alikeAnswers_42 : decode cX7_alikeAnswers 42 = .ok (.aload_n 0, 1) := by decide +kernel
theorem dX7_alikeAnswers_43 : decode cX7_alikeAnswers 43 = .ok (.getfield 40, 3) := by decide +kernel
theorem dX7_alikeAnswers_46 : decode cX7_alikeAnswers 46 = .ok (.iload_n 2, 1) := by decide +kernel
theorem dX7_alikeAnswers_47 : decode cX7_alikeAnswers 47 = .ok (.iload 4, 2) := by decide +kernel
theorem dX7_alikeAnswers_49 : decode cX7_alikeAnswers 49 = .ok (.invokevirtual 148, 3) := by decide +kernel
theorem dX7_alikeAnswers_52 : decode cX7_alikeAnswers 52 = .ok (.if_icmp .ne 7, 3) := by decide +kernel
theorem dX7_alikeAnswers_55 : decode cX7_alikeAnswers 55 = .ok (.iconst 1, 1) := by decide +kernel
theorem dX7_alikeAnswers_56 : decode cX7_alikeAnswers 56 = .ok (.goto 4, 3) := by decide +kernel
theorem dX7_alikeAnswers_59 : decode cX7_alikeAnswers 59 = .ok (.iconst 0, 1) := by decide +kernel
theorem dX7_alikeAnswers_60 : decode cX7_alikeAnswers 60 = .ok (.invokestatic 131, 3) := by decide +kernel
theorem dX7_alikeAnswers_63 : decode cX7_alikeAnswers 63 = .ok (.iadd, 1) := by decide +kernel
theorem dX7_alikeAnswers_64 : decode cX7_alikeAnswers 64 = .ok (.istore_n 3, 1) := by decide +kernel
theorem dX7_alikeAnswers_65 : decode cX7_alikeAnswers 65 = .ok (.iinc 4 1, 3) := by decide +kernel
theorem dX7_alikeAnswers_68 : decode cX7_alikeAnswers 68 = .ok (.goto (-63), 3) := by decide +kernel
theorem dX7_alikeAnswers_71 : decode cX7_alikeAnswers 71 = .ok (.iload_n 3, 1) := by decide +kernel
theorem dX7_alikeAnswers_72 : decode cX7_alikeAnswers 72 = .ok (.ireturn, 1) := by decide +kernel
theorem dX7_mayBeOne_0 : decode cX7_mayBeOne 0 = .ok (.aload_n 0, 1) := by decide +kernel
theorem dX7_mayBeOne_1 : decode cX7_mayBeOne 1 = .ok (.iload_n 1, 1) := by decide +kernel
theorem dX7_mayBeOne_2 : decode cX7_mayBeOne 2 = .ok (.iload_n 2, 1) := by decide +kernel
theorem dX7_mayBeOne_3 : decode cX7_mayBeOne 3 = .ok (.invokevirtual 214, 3) := by decide +kernel
theorem dX7_mayBeOne_6 : decode cX7_mayBeOne 6 = .ok (.istore_n 3, 1) := by decide +kernel
theorem dX7_mayBeOne_7 : decode cX7_mayBeOne 7 = .ok (.iload_n 3, 1) := by decide +kernel
theorem dX7_mayBeOne_8 : decode cX7_mayBeOne 8 = .ok (.iconst 5, 1) := by decide +kernel
theorem dX7_mayBeOne_9 : decode cX7_mayBeOne 9 = .ok (.if_icmp .lt 17, 3) := by decide +kernel
theorem dX7_mayBeOne_12 : decode cX7_mayBeOne 12 = .ok (.aload_n 0, 1) := by decide +kernel
theorem dX7_mayBeOne_13 : decode cX7_mayBeOne 13 = .ok (.iload_n 1, 1) := by decide +kernel
theorem dX7_mayBeOne_14 : decode cX7_mayBeOne 14 = .ok (.iload_n 2, 1) := by decide +kernel
theorem dX7_mayBeOne_15 : decode cX7_mayBeOne 15 = .ok (.invokevirtual 211, 3) := by decide +kernel
theorem dX7_mayBeOne_18 : decode cX7_mayBeOne 18 = .ok (.iload_n 3, 1) := by decide +kernel
theorem dX7_mayBeOne_19 : decode cX7_mayBeOne 19 = .ok (.if_icmp .ne 7, 3) := by decide +kernel
theorem dX7_mayBeOne_22 : decode cX7_mayBeOne 22 = .ok (.iconst 1, 1) := by decide +kernel
theorem dX7_mayBeOne_23 : decode cX7_mayBeOne 23 = .ok (.goto 4, 3) := by decide +kernel
theorem dX7_mayBeOne_26 : decode cX7_mayBeOne 26 = .ok (.iconst 0, 1) := by decide +kernel
theorem dX7_mayBeOne_27 : decode cX7_mayBeOne 27 = .ok (.ireturn, 1) := by decide +kernel
theorem dX7_greenerThan_0 : decode cX7_greenerThan 0 = .ok (.iconst 0, 1) := by decide +kernel
theorem dX7_greenerThan_1 : decode cX7_greenerThan 1 = .ok (.istore_n 2, 1) := by decide +kernel
theorem dX7_greenerThan_2 : decode cX7_greenerThan 2 = .ok (.iconst 0, 1) := by decide +kernel
theorem dX7_greenerThan_3 : decode cX7_greenerThan 3 = .ok (.istore_n 3, 1) := by decide +kernel
theorem dX7_greenerThan_4 : decode cX7_greenerThan 4 = .ok (.iload_n 3, 1) := by decide +kernel
theorem dX7_greenerThan_5 : decode cX7_greenerThan 5 = .ok (.aload_n 0, 1) := by decide +kernel
theorem dX7_greenerThan_6 : decode cX7_greenerThan 6 = .ok (.getfield 26, 3) := by decide +kernel
theorem dX7_greenerThan_9 : decode cX7_greenerThan 9 = .ok (.invokevirtual 105, 3) := by decide +kernel
theorem dX7_greenerThan_12 : decode cX7_greenerThan 12 = .ok (.if_icmp .ge 54, 3) := by decide +kernel
theorem dX7_greenerThan_15 : decode cX7_greenerThan 15 = .ok (.aload_n 0, 1) := by decide +kernel
theorem dX7_greenerThan_16 : decode cX7_greenerThan 16 = .ok (.getfield 40, 3) := by decide +kernel
theorem dX7_greenerThan_19 : decode cX7_greenerThan 19 = .ok (.iload_n 3, 1) := by decide +kernel
theorem dX7_greenerThan_20 : decode cX7_greenerThan 20 = .ok (.invokevirtual 138, 3) := by decide +kernel
theorem dX7_greenerThan_23 : decode cX7_greenerThan 23 = .ok (.aload_n 0, 1) := by decide +kernel
theorem dX7_greenerThan_24 : decode cX7_greenerThan 24 = .ok (.getfield 40, 3) := by decide +kernel
theorem dX7_greenerThan_27 : decode cX7_greenerThan 27 = .ok (.iload_n 1, 1) := by decide +kernel
theorem dX7_greenerThan_28 : decode cX7_greenerThan 28 = .ok (.invokevirtual 138, 3) := by decide +kernel
theorem dX7_greenerThan_31 : decode cX7_greenerThan 31 = .ok (.isub, 1) := by decide +kernel
theorem dX7_greenerThan_32 : decode cX7_greenerThan 32 = .ok (.istore 4, 2) := by decide +kernel
theorem dX7_greenerThan_34 : decode cX7_greenerThan 34 = .ok (.iload_n 2, 1) := by decide +kernel
theorem dX7_greenerThan_35 : decode cX7_greenerThan 35 = .ok (.iload 4, 2) := by decide +kernel
theorem dX7_greenerThan_37 : decode cX7_greenerThan 37 = .ok (.ifCond .gt 13, 3) := by decide +kernel
theorem dX7_greenerThan_40 : decode cX7_greenerThan 40 = .ok (.iload 4, 2) := by decide +kernel
theorem dX7_greenerThan_42 : decode cX7_greenerThan 42 = .ok (.ifCond .ne 12, 3) := by decide +kernel
theorem dX7_greenerThan_45 : decode cX7_greenerThan 45 = .ok (.iload_n 3, 1) := by decide +kernel
theorem dX7_greenerThan_46 : decode cX7_greenerThan 46 = .ok (.iload_n 1, 1) := by decide +kernel
theorem dX7_greenerThan_47 : decode cX7_greenerThan 47 = .ok (.if_icmp .ge 7, 3) := by decide +kernel
theorem dX7_greenerThan_50 : decode cX7_greenerThan 50 = .ok (.iconst 1, 1) := by decide +kernel
theorem dX7_greenerThan_51 : decode cX7_greenerThan 51 = .ok (.goto 4, 3) := by decide +kernel
theorem dX7_greenerThan_54 : decode cX7_greenerThan 54 = .ok (.iconst 0, 1) := by decide +kernel
theorem dX7_greenerThan_55 : decode cX7_greenerThan 55 = .ok (.invokestatic 131, 3) := by decide +kernel
theorem dX7_greenerThan_58 : decode cX7_greenerThan 58 = .ok (.iadd, 1) := by decide +kernel
theorem dX7_greenerThan_59 : decode cX7_greenerThan 59 = .ok (.istore_n 2, 1) := by decide +kernel
theorem dX7_greenerThan_60 : decode cX7_greenerThan 60 = .ok (.iinc 3 1, 3) := by decide +kernel
theorem dX7_greenerThan_63 : decode cX7_greenerThan 63 = .ok (.goto (-59), 3) := by decide +kernel
theorem dX7_greenerThan_66 : decode cX7_greenerThan 66 = .ok (.iload_n 2, 1) := by decide +kernel
theorem dX7_greenerThan_67 : decode cX7_greenerThan 67 = .ok (.ireturn, 1) := by decide +kernel
theorem dX7_isSure_0 : decode cX7_isSure 0 = .ok (.iload_n 2, 1) := by decide +kernel
theorem dX7_isSure_1 : decode cX7_isSure 1 = .ok (.invokestatic 58, 3) := by decide +kernel
theorem dX7_isSure_4 : decode cX7_isSure 4 = .ok (.ifCond .eq 31, 3) := by decide +kernel
theorem dX7_isSure_7 : decode cX7_isSure 7 = .ok (.aload_n 0, 1) := by decide +kernel
theorem dX7_isSure_8 : decode cX7_isSure 8 = .ok (.getfield 47, 3) := by decide +kernel
theorem dX7_isSure_11 : decode cX7_isSure 11 = .ok (.iload_n 1, 1) := by decide +kernel
theorem dX7_isSure_12 : decode cX7_isSure 12 = .ok (.iload_n 2, 1) := by decide +kernel
theorem dX7_isSure_13 : decode cX7_isSure 13 = .ok (.invokevirtual 196, 3) := by decide +kernel
theorem dX7_isSure_16 : decode cX7_isSure 16 = .ok (.aload_n 0, 1) := by decide +kernel
theorem dX7_isSure_17 : decode cX7_isSure 17 = .ok (.getfield 10, 3) := by decide +kernel
theorem dX7_isSure_20 : decode cX7_isSure 20 = .ok (.bipush 7, 2) := by decide +kernel
theorem dX7_isSure_22 : decode cX7_isSure 22 = .ok (.invokevirtual 102, 3) := by decide +kernel
theorem dX7_isSure_25 : decode cX7_isSure 25 = .ok (.bipush 10, 2) := by decide +kernel
theorem dX7_isSure_27 : decode cX7_isSure 27 = .ok (.imul, 1) := by decide +kernel
theorem dX7_isSure_28 : decode cX7_isSure 28 = .ok (.if_icmp .lt 7, 3) := by decide +kernel
theorem dX7_isSure_31 : decode cX7_isSure 31 = .ok (.iconst 1, 1) := by decide +kernel
theorem dX7_isSure_32 : decode cX7_isSure 32 = .ok (.goto 4, 3) := by decide +kernel
theorem dX7_isSure_35 : decode cX7_isSure 35 = .ok (.iconst 0, 1) := by decide +kernel
theorem dX7_isSure_36 : decode cX7_isSure 36 = .ok (.ireturn, 1) := by decide +kernel
theorem dX7_isGivenAs_0 : decode cX7_isGivenAs 0 = .ok (.iconst 0, 1) := by decide +kernel
theorem dX7_isGivenAs_1 : decode cX7_isGivenAs 1 = .ok (.istore_n 3, 1) := by decide +kernel
theorem dX7_isGivenAs_2 : decode cX7_isGivenAs 2 = .ok (.iload_n 3, 1) := by decide +kernel
theorem dX7_isGivenAs_3 : decode cX7_isGivenAs 3 = .ok (.aload_n 0, 1) := by decide +kernel
theorem dX7_isGivenAs_4 : decode cX7_isGivenAs 4 = .ok (.getfield 33, 3) := by decide +kernel
theorem dX7_isGivenAs_7 : decode cX7_isGivenAs 7 = .ok (.invokevirtual 108, 3) := by decide +kernel
theorem dX7_isGivenAs_10 : decode cX7_isGivenAs 10 = .ok (.if_icmp .ge 45, 3) := by decide +kernel
theorem dX7_isGivenAs_13 : decode cX7_isGivenAs 13 = .ok (.aload_n 0, 1) := by decide +kernel
theorem dX7_isGivenAs_14 : decode cX7_isGivenAs 14 = .ok (.getfield 33, 3) := by decide +kernel
theorem dX7_isGivenAs_17 : decode cX7_isGivenAs 17 = .ok (.iload_n 3, 1) := by decide +kernel
theorem dX7_isGivenAs_18 : decode cX7_isGivenAs 18 = .ok (.invokevirtual 261, 3) := by decide +kernel
theorem dX7_isGivenAs_21 : decode cX7_isGivenAs 21 = .ok (.iconst 4, 1) := by decide +kernel
theorem dX7_isGivenAs_22 : decode cX7_isGivenAs 22 = .ok (.if_icmp .ne 27, 3) := by decide +kernel
theorem dX7_isGivenAs_25 : decode cX7_isGivenAs 25 = .ok (.aload_n 0, 1) := by decide +kernel
theorem dX7_isGivenAs_26 : decode cX7_isGivenAs 26 = .ok (.getfield 40, 3) := by decide +kernel
theorem dX7_isGivenAs_29 : decode cX7_isGivenAs 29 = .ok (.iload_n 3, 1) := by decide +kernel
theorem dX7_isGivenAs_30 : decode cX7_isGivenAs 30 = .ok (.iload_n 1, 1) := by decide +kernel
theorem dX7_isGivenAs_31 : decode cX7_isGivenAs 31 = .ok (.invokevirtual 148, 3) := by decide +kernel
theorem dX7_isGivenAs_34 : decode cX7_isGivenAs 34 = .ok (.iload_n 2, 1) := by decide +kernel
theorem dX7_isGivenAs_35 : decode cX7_isGivenAs 35 = .ok (.if_icmp .ne 14, 3) := by decide +kernel
theorem dX7_isGivenAs_38 : decode cX7_isGivenAs 38 = .ok (.aload_n 0, 1) := by decide +kernel
theorem dX7_isGivenAs_39 : decode cX7_isGivenAs 39 = .ok (.iload_n 1, 1) := by decide +kernel
theorem dX7_isGivenAs_40 : decode cX7_isGivenAs 40 = .ok (.iload_n 2, 1) := by decide +kernel
theorem dX7_isGivenAs_41 : decode cX7_isGivenAs 41 = .ok (.invokevirtual 293, 3) := by decide +kernel
theorem dX7_isGivenAs_44 : decode cX7_isGivenAs 44 = .ok (.ifCond .eq 5, 3) := by decide +kernel
theorem dX7_isGivenAs_47 : decode cX7_isGivenAs 47 = .ok (.iconst 1, 1) := by decide +kernel
theorem dX7_isGivenAs_48 : decode cX7_isGivenAs 48 = .ok (.ireturn, 1) := by decide +kernel
theorem dX7_isGivenAs_49 : decode cX7_isGivenAs 49 = .ok (.iinc 3 1, 3) := by decide +kernel
theorem dX7_isGivenAs_52 : decode cX7_isGivenAs 52 = .ok (.goto (-50), 3) := by decide +kernel
theorem dX7_isGivenAs_55 : decode cX7_isGivenAs 55 = .ok (.iconst 0, 1) := by decide +kernel
theorem dX7_isGivenAs_56 : decode cX7_isGivenAs 56 = .ok (.ireturn, 1) := by decide +kernel
theorem dX7_isGiven_0 : decode cX7_isGiven 0 = .ok (.aload_n 0, 1) := by decide +kernel
theorem dX7_isGiven_1 : decode cX7_isGiven 1 = .ok (.iload_n 1, 1) := by decide +kernel
theorem dX7_isGiven_2 : decode cX7_isGiven 2 = .ok (.iconst 0, 1) := by decide +kernel
theorem dX7_isGiven_3 : decode cX7_isGiven 3 = .ok (.invokevirtual 296, 3) := by decide +kernel
theorem dX7_isGiven_6 : decode cX7_isGiven 6 = .ok (.ifCond .ne 21, 3) := by decide +kernel
theorem dX7_isGiven_9 : decode cX7_isGiven 9 = .ok (.aload_n 0, 1) := by decide +kernel
theorem dX7_isGiven_10 : decode cX7_isGiven 10 = .ok (.iload_n 1, 1) := by decide +kernel
theorem dX7_isGiven_11 : decode cX7_isGiven 11 = .ok (.iconst 1, 1) := by decide +kernel
theorem dX7_isGiven_12 : decode cX7_isGiven 12 = .ok (.invokevirtual 296, 3) := by decide +kernel
theorem dX7_isGiven_15 : decode cX7_isGiven 15 = .ok (.ifCond .ne 12, 3) := by decide +kernel
theorem dX7_isGiven_18 : decode cX7_isGiven 18 = .ok (.aload_n 0, 1) := by decide +kernel
theorem dX7_isGiven_19 : decode cX7_isGiven 19 = .ok (.iload_n 1, 1) := by decide +kernel
theorem dX7_isGiven_20 : decode cX7_isGiven 20 = .ok (.iconst 2, 1) := by decide +kernel
theorem dX7_isGiven_21 : decode cX7_isGiven 21 = .ok (.invokevirtual 296, 3) := by decide +kernel
theorem dX7_isGiven_24 : decode cX7_isGiven 24 = .ok (.ifCond .eq 7, 3) := by decide +kernel
theorem dX7_isGiven_27 : decode cX7_isGiven 27 = .ok (.iconst 1, 1) := by decide +kernel
theorem dX7_isGiven_28 : decode cX7_isGiven 28 = .ok (.goto 4, 3) := by decide +kernel
theorem dX7_isGiven_31 : decode cX7_isGiven 31 = .ok (.iconst 0, 1) := by decide +kernel
theorem dX7_isGiven_32 : decode cX7_isGiven 32 = .ok (.ireturn, 1) := by decide +kernel
theorem dX7_givenPictures_0 : decode cX7_givenPictures 0 = .ok (.iconst 0, 1) := by decide +kernel
theorem dX7_givenPictures_1 : decode cX7_givenPictures 1 = .ok (.istore_n 1, 1) := by decide +kernel
theorem dX7_givenPictures_2 : decode cX7_givenPictures 2 = .ok (.iconst 0, 1) := by decide +kernel
theorem dX7_givenPictures_3 : decode cX7_givenPictures 3 = .ok (.istore_n 2, 1) := by decide +kernel
theorem dX7_givenPictures_4 : decode cX7_givenPictures 4 = .ok (.iload_n 2, 1) := by decide +kernel
theorem dX7_givenPictures_5 : decode cX7_givenPictures 5 = .ok (.aload_n 0, 1) := by decide +kernel
theorem dX7_givenPictures_6 : decode cX7_givenPictures 6 = .ok (.getfield 26, 3) := by decide +kernel
theorem dX7_givenPictures_9 : decode cX7_givenPictures 9 = .ok (.invokevirtual 105, 3) := by decide +kernel
theorem dX7_givenPictures_12 : decode cX7_givenPictures 12 = .ok (.if_icmp .ge 20, 3) := by decide +kernel
theorem dX7_givenPictures_15 : decode cX7_givenPictures 15 = .ok (.iload_n 1, 1) := by decide +kernel
theorem dX7_givenPictures_16 : decode cX7_givenPictures 16 = .ok (.aload_n 0, 1) := by decide +kernel
theorem dX7_givenPictures_17 : decode cX7_givenPictures 17 = .ok (.iload_n 2, 1) := by decide +kernel
theorem dX7_givenPictures_18 : decode cX7_givenPictures 18 = .ok (.invokevirtual 299, 3) := by decide +kernel
theorem dX7_givenPictures_21 : decode cX7_givenPictures 21 = .ok (.invokestatic 131, 3) := by decide +kernel
theorem dX7_givenPictures_24 : decode cX7_givenPictures 24 = .ok (.iadd, 1) := by decide +kernel
theorem dX7_givenPictures_25 : decode cX7_givenPictures 25 = .ok (.istore_n 1, 1) := by decide +kernel
theorem dX7_givenPictures_26 : decode cX7_givenPictures 26 = .ok (.iinc 2 1, 3) := by decide +kernel
theorem dX7_givenPictures_29 : decode cX7_givenPictures 29 = .ok (.goto (-25), 3) := by decide +kernel
theorem dX7_givenPictures_32 : decode cX7_givenPictures 32 = .ok (.iload_n 1, 1) := by decide +kernel
theorem dX7_givenPictures_33 : decode cX7_givenPictures 33 = .ok (.ireturn, 1) := by decide +kernel
theorem dX7_looksOfOthersAtGiven_0 : decode cX7_looksOfOthersAtGiven 0 = .ok (.iconst 0, 1) := by decide +kernel
theorem dX7_looksOfOthersAtGiven_1 : decode cX7_looksOfOthersAtGiven 1 = .ok (.istore_n 1, 1) := by decide +kernel
theorem dX7_looksOfOthersAtGiven_2 : decode cX7_looksOfOthersAtGiven 2 = .ok (.iconst 0, 1) := by decide +kernel
theorem dX7_looksOfOthersAtGiven_3 : decode cX7_looksOfOthersAtGiven 3 = .ok (.istore_n 2, 1) := by decide +kernel
theorem dX7_looksOfOthersAtGiven_4 : decode cX7_looksOfOthersAtGiven 4 = .ok (.iload_n 2, 1) := by decide +kernel
theorem dX7_looksOfOthersAtGiven_5 : decode cX7_looksOfOthersAtGiven 5 = .ok (.aload_n 0, 1) := by decide +kernel
theorem dX7_looksOfOthersAtGiven_6 : decode cX7_looksOfOthersAtGiven 6 = .ok (.getfield 40, 3) := by decide +kernel
theorem dX7_looksOfOthersAtGiven_9 : decode cX7_looksOfOthersAtGiven 9 = .ok (.invokevirtual 109, 3) := by decide +kernel
theorem dX7_looksOfOthersAtGiven_12 : decode cX7_looksOfOthersAtGiven 12 = .ok (.if_icmp .ge 54, 3) := by decide +kernel
theorem dX7_looksOfOthersAtGiven_15 : decode cX7_looksOfOthersAtGiven 15 = .ok (.iload_n 1, 1) := by decide +kernel
theorem dX7_looksOfOthersAtGiven_16 : decode cX7_looksOfOthersAtGiven 16 = .ok (.aload_n 0, 1) := by decide +kernel
theorem dX7_looksOfOthersAtGiven_17 : decode cX7_looksOfOthersAtGiven 17 = .ok (.getfield 33, 3) := by decide +kernel
theorem dX7_looksOfOthersAtGiven_20 : decode cX7_looksOfOthersAtGiven 20 = .ok (.aload_n 0, 1) := by decide +kernel
theorem dX7_looksOfOthersAtGiven_21 : decode cX7_looksOfOthersAtGiven 21 = .ok (.getfield 40, 3) := by decide +kernel
theorem dX7_looksOfOthersAtGiven_24 : decode cX7_looksOfOthersAtGiven 24 = .ok (.iload_n 2, 1) := by decide +kernel
theorem dX7_looksOfOthersAtGiven_25 : decode cX7_looksOfOthersAtGiven 25 = .ok (.invokevirtual 163, 3) := by decide +kernel
theorem dX7_looksOfOthersAtGiven_28 : decode cX7_looksOfOthersAtGiven 28 = .ok (.invokevirtual 261, 3) := by decide +kernel
theorem dX7_looksOfOthersAtGiven_31 : decode cX7_looksOfOthersAtGiven 31 = .ok (.iconst 4, 1) := by decide +kernel
theorem dX7_looksOfOthersAtGiven_32 : decode cX7_looksOfOthersAtGiven 32 = .ok (.if_icmp .eq 22, 3) := by decide +kernel
theorem dX7_looksOfOthersAtGiven_35 : decode cX7_looksOfOthersAtGiven 35 = .ok (.aload_n 0, 1) := by decide +kernel
theorem dX7_looksOfOthersAtGiven_36 : decode cX7_looksOfOthersAtGiven 36 = .ok (.aload_n 0, 1) := by decide +kernel
theorem dX7_looksOfOthersAtGiven_37 : decode cX7_looksOfOthersAtGiven 37 = .ok (.getfield 40, 3) := by decide +kernel
theorem dX7_looksOfOthersAtGiven_40 : decode cX7_looksOfOthersAtGiven 40 = .ok (.iload_n 2, 1) := by decide +kernel
theorem dX7_looksOfOthersAtGiven_41 : decode cX7_looksOfOthersAtGiven 41 = .ok (.invokevirtual 166, 3) := by decide +kernel
theorem dX7_looksOfOthersAtGiven_44 : decode cX7_looksOfOthersAtGiven 44 = .ok (.invokevirtual 299, 3) := by decide +kernel
theorem dX7_looksOfOthersAtGiven_47 : decode cX7_looksOfOthersAtGiven 47 = .ok (.ifCond .eq 7, 3) := by decide +kernel
theorem dX7_looksOfOthersAtGiven_50 : decode cX7_looksOfOthersAtGiven 50 = .ok (.iconst 1, 1) := by decide +kernel
theorem dX7_looksOfOthersAtGiven_51 : decode cX7_looksOfOthersAtGiven 51 = .ok (.goto 4, 3) := by decide +kernel
theorem dX7_looksOfOthersAtGiven_54 : decode cX7_looksOfOthersAtGiven 54 = .ok (.iconst 0, 1) := by decide +kernel
theorem dX7_looksOfOthersAtGiven_55 : decode cX7_looksOfOthersAtGiven 55 = .ok (.invokestatic 131, 3) := by decide +kernel
theorem dX7_looksOfOthersAtGiven_58 : decode cX7_looksOfOthersAtGiven 58 = .ok (.iadd, 1) := by decide +kernel
theorem dX7_looksOfOthersAtGiven_59 : decode cX7_looksOfOthersAtGiven 59 = .ok (.istore_n 1, 1) := by decide +kernel
theorem dX7_looksOfOthersAtGiven_60 : decode cX7_looksOfOthersAtGiven 60 = .ok (.iinc 2 1, 3) := by decide +kernel
theorem dX7_looksOfOthersAtGiven_63 : decode cX7_looksOfOthersAtGiven 63 = .ok (.goto (-59), 3) := by decide +kernel
theorem dX7_looksOfOthersAtGiven_66 : decode cX7_looksOfOthersAtGiven 66 = .ok (.iload_n 1, 1) := by decide +kernel
theorem dX7_looksOfOthersAtGiven_67 : decode cX7_looksOfOthersAtGiven 67 = .ok (.ireturn, 1) := by decide +kernel
theorem dX7_wronglyGivenPictures_0 : decode cX7_wronglyGivenPictures 0 = .ok (.iconst 0, 1) := by decide +kernel
theorem dX7_wronglyGivenPictures_1 : decode cX7_wronglyGivenPictures 1 = .ok (.istore_n 1, 1) := by decide +kernel
theorem dX7_wronglyGivenPictures_2 : decode cX7_wronglyGivenPictures 2 = .ok (.iconst 0, 1) := by decide +kernel
theorem dX7_wronglyGivenPictures_3 : decode cX7_wronglyGivenPictures 3 = .ok (.istore_n 2, 1) := by decide +kernel
theorem dX7_wronglyGivenPictures_4 : decode cX7_wronglyGivenPictures 4 = .ok (.iload_n 2, 1) := by decide +kernel
theorem dX7_wronglyGivenPictures_5 : decode cX7_wronglyGivenPictures 5 = .ok (.aload_n 0, 1) := by decide +kernel
theorem dX7_wronglyGivenPictures_6 : decode cX7_wronglyGivenPictures 6 = .ok (.getfield 26, 3) := by decide +kernel
theorem dX7_wronglyGivenPictures_9 : decode cX7_wronglyGivenPictures 9 = .ok (.invokevirtual 105, 3) := by decide +kernel
theorem dX7_wronglyGivenPictures_12 : decode cX7_wronglyGivenPictures 12 = .ok (.if_icmp .ge 66, 3) := by decide +kernel
theorem dX7_wronglyGivenPictures_15 : decode cX7_wronglyGivenPictures 15 = .ok (.iconst 0, 1) := by decide +kernel
theorem dX7_wronglyGivenPictures_16 : decode cX7_wronglyGivenPictures 16 = .ok (.istore_n 3, 1) := by decide +kernel
theorem dX7_wronglyGivenPictures_17 : decode cX7_wronglyGivenPictures 17 = .ok (.iconst 0, 1) := by decide +kernel
theorem dX7_wronglyGivenPictures_18 : decode cX7_wronglyGivenPictures 18 = .ok (.istore 4, 2) := by decide +kernel
theorem dX7_wronglyGivenPictures_20 : decode cX7_wronglyGivenPictures 20 = .ok (.iload 4, 2) := by decide +kernel
theorem dX7_wronglyGivenPictures_22 : decode cX7_wronglyGivenPictures 22 = .ok (.iconst 2, 1) := by decide +kernel
theorem dX7_wronglyGivenPictures_23 : decode cX7_wronglyGivenPictures 23 = .ok (.if_icmp .gt 42, 3) := by decide +kernel
theorem dX7_wronglyGivenPictures_26 : decode cX7_wronglyGivenPictures 26 = .ok (.iload_n 3, 1) := by decide +kernel
theorem dX7_wronglyGivenPictures_27 : decode cX7_wronglyGivenPictures 27 = .ok (.ifCond .ne 26, 3) := by decide +kernel
theorem dX7_wronglyGivenPictures_30 : decode cX7_wronglyGivenPictures 30 = .ok (.iload 4, 2) := by decide +kernel
theorem dX7_wronglyGivenPictures_32 : decode cX7_wronglyGivenPictures 32 = .ok (.aload_n 0, 1) := by decide +kernel
theorem dX7_wronglyGivenPictures_33 : decode cX7_wronglyGivenPictures 33 = .ok (.getfield 26, 3) := by decide +kernel
theorem dX7_wronglyGivenPictures_36 : decode cX7_wronglyGivenPictures 36 = .ok (.iload_n 2, 1) := by decide +kernel
theorem dX7_wronglyGivenPictures_37 : decode cX7_wronglyGivenPictures 37 = .ok (.invokevirtual 77, 3) := by decide +kernel
theorem dX7_wronglyGivenPictures_40 : decode cX7_wronglyGivenPictures 40 = .ok (.if_icmp .eq 17, 3) := by decide +kernel
theorem dX7_wronglyGivenPictures_43 : decode cX7_wronglyGivenPictures 43 = .ok (.aload_n 0, 1) := by decide +kernel
theorem dX7_wronglyGivenPictures_44 : decode cX7_wronglyGivenPictures 44 = .ok (.iload_n 2, 1) := by decide +kernel
theorem dX7_wronglyGivenPictures_45 : decode cX7_wronglyGivenPictures 45 = .ok (.iload 4, 2) := by decide +kernel
theorem dX7_wronglyGivenPictures_47 : decode cX7_wronglyGivenPictures 47 = .ok (.invokevirtual 296, 3) := by decide +kernel
theorem dX7_wronglyGivenPictures_50 : decode cX7_wronglyGivenPictures 50 = .ok (.ifCond .eq 7, 3) := by decide +kernel
theorem dX7_wronglyGivenPictures_53 : decode cX7_wronglyGivenPictures 53 = .ok (.iconst 1, 1) := by decide +kernel
theorem dX7_wronglyGivenPictures_54 : decode cX7_wronglyGivenPictures 54 = .ok (.goto 4, 3) := by decide +kernel
theorem dX7_wronglyGivenPictures_57 : decode cX7_wronglyGivenPictures 57 = .ok (.iconst 0, 1) := by decide +kernel
theorem dX7_wronglyGivenPictures_58 : decode cX7_wronglyGivenPictures 58 = .ok (.istore_n 3, 1) := by decide +kernel
theorem dX7_wronglyGivenPictures_59 : decode cX7_wronglyGivenPictures 59 = .ok (.iinc 4 1, 3) := by decide +kernel
theorem dX7_wronglyGivenPictures_62 : decode cX7_wronglyGivenPictures 62 = .ok (.goto (-42), 3) := by decide +kernel
theorem dX7_wronglyGivenPictures_65 : decode cX7_wronglyGivenPictures 65 = .ok (.iload_n 1, 1) := by decide +kernel
theorem dX7_wronglyGivenPictures_66 : decode cX7_wronglyGivenPictures 66 = .ok (.iload_n 3, 1) := by decide +kernel
theorem dX7_wronglyGivenPictures_67 : decode cX7_wronglyGivenPictures 67 = .ok (.invokestatic 131, 3) := by decide +kernel
theorem dX7_wronglyGivenPictures_70 : decode cX7_wronglyGivenPictures 70 = .ok (.iadd, 1) := by decide +kernel
theorem dX7_wronglyGivenPictures_71 : decode cX7_wronglyGivenPictures 71 = .ok (.istore_n 1, 1) := by decide +kernel
theorem dX7_wronglyGivenPictures_72 : decode cX7_wronglyGivenPictures 72 = .ok (.iinc 2 1, 3) := by decide +kernel
theorem dX7_wronglyGivenPictures_75 : decode cX7_wronglyGivenPictures 75 = .ok (.goto (-71), 3) := by decide +kernel
theorem dX7_wronglyGivenPictures_78 : decode cX7_wronglyGivenPictures 78 = .ok (.iload_n 1, 1) := by decide +kernel
theorem dX7_wronglyGivenPictures_79 : decode cX7_wronglyGivenPictures 79 = .ok (.ireturn, 1) := by decide +kernel
theorem dX8_init_0 : decode cX8_init 0 = .ok (.aload_n 0, 1) := by decide +kernel
theorem dX8_init_1 : decode cX8_init 1 = .ok (.invokespecial 1, 3) := by decide +kernel
theorem dX8_init_4 : decode cX8_init 4 = .ok (.aload_n 0, 1) := by decide +kernel
theorem dX8_init_5 : decode cX8_init 5 = .ok (.bipush 8, 2) := by decide +kernel
theorem dX8_init_7 : decode cX8_init 7 = .ok (.newarray .int, 2) := by decide +kernel
theorem dX8_init_9 : decode cX8_init 9 = .ok (.putfield 7, 3) := by decide +kernel
theorem dX8_init_12 : decode cX8_init 12 = .ok (.aload_n 0, 1) := by decide +kernel
theorem dX8_init_13 : decode cX8_init 13 = .ok (.bipush 8, 2) := by decide +kernel
theorem dX8_init_15 : decode cX8_init 15 = .ok (.newarray .int, 2) := by decide +kernel
theorem dX8_init_17 : decode cX8_init 17 = .ok (.putfield 13, 3) := by decide +kernel
theorem dX8_init_20 : decode cX8_init 20 = .ok (.aload_n 0, 1) := by decide +kernel
theorem dX8_init_21 : decode cX8_init 21 = .ok (.sipush 160, 3) := by decide +kernel
theorem dX8_init_24 : decode cX8_init 24 = .ok (.newarray .int, 2) := by decide +kernel
theorem dX8_init_26 : decode cX8_init 26 = .ok (.putfield 16, 3) := by decide +kernel
theorem dX8_init_29 : decode cX8_init 29 = .ok (.aload_n 0, 1) := by decide +kernel
theorem dX8_init_30 : decode cX8_init 30 = .ok (.iconst (-1), 1) := by decide +kernel
theorem dX8_init_31 : decode cX8_init 31 = .ok (.putfield 19, 3) := by decide +kernel
theorem dX8_init_34 : decode cX8_init 34 = .ok (.aload_n 0, 1) := by decide +kernel
theorem dX8_init_35 : decode cX8_init 35 = .ok (.bipush 24, 2) := by decide +kernel
theorem dX8_init_37 : decode cX8_init 37 = .ok (.newarray .int, 2) := by decide +kernel
theorem dX8_init_39 : decode cX8_init 39 = .ok (.putfield 23, 3) := by decide +kernel
theorem dX8_init_42 : decode cX8_init 42 = .ok (.aload_n 0, 1) := by decide +kernel
theorem dX8_init_43 : decode cX8_init 43 = .ok (.bipush 24, 2) := by decide +kernel
theorem dX8_init_45 : decode cX8_init 45 = .ok (.newarray .int, 2) := by decide +kernel
theorem dX8_init_47 : decode cX8_init 47 = .ok (.putfield 26, 3) := by decide +kernel
theorem dX8_init_50 : decode cX8_init 50 = .ok (.aload_n 0, 1) := by decide +kernel
theorem dX8_init_51 : decode cX8_init 51 = .ok (.bipush 24, 2) := by decide +kernel
theorem dX8_init_53 : decode cX8_init 53 = .ok (.newarray .int, 2) := by decide +kernel
theorem dX8_init_55 : decode cX8_init 55 = .ok (.putfield 29, 3) := by decide +kernel
theorem dX8_init_58 : decode cX8_init 58 = .ok (.aload_n 0, 1) := by decide +kernel
theorem dX8_init_59 : decode cX8_init 59 = .ok (.bipush 24, 2) := by decide +kernel
theorem dX8_init_61 : decode cX8_init 61 = .ok (.newarray .boolean, 2) := by decide +kernel
theorem dX8_init_63 : decode cX8_init 63 = .ok (.putfield 32, 3) := by decide +kernel
theorem dX8_init_66 : decode cX8_init 66 = .ok (.aload_n 0, 1) := by decide +kernel
theorem dX8_init_67 : decode cX8_init 67 = .ok (.bipush 24, 2) := by decide +kernel
theorem dX8_init_69 : decode cX8_init 69 = .ok (.newarray .int, 2) := by decide +kernel
theorem dX8_init_71 : decode cX8_init 71 = .ok (.putfield 36, 3) := by decide +kernel
theorem dX8_init_74 : decode cX8_init 74 = .ok (.aload_n 0, 1) := by decide +kernel
theorem dX8_init_75 : decode cX8_init 75 = .ok (.bipush 8, 2) := by decide +kernel
theorem dX8_init_77 : decode cX8_init 77 = .ok (.newarray .int, 2) := by decide +kernel
theorem dX8_init_79 : decode cX8_init 79 = .ok (.putfield 39, 3) := by decide +kernel
theorem dX8_init_82 : decode cX8_init 82 = .ok (.aload_n 0, 1) := by decide +kernel
theorem dX8_init_83 : decode cX8_init 83 = .ok (.sipush 200, 3) := by decide +kernel
theorem dX8_init_86 : decode cX8_init 86 = .ok (.newarray .int, 2) := by decide +kernel
theorem dX8_init_88 : decode cX8_init 88 = .ok (.putfield 42, 3) := by decide +kernel
theorem dX8_init_91 : decode cX8_init 91 = .ok (.aload_n 0, 1) := by decide +kernel
theorem dX8_init_92 : decode cX8_init 92 = .ok (.sipush 200, 3) := by decide +kernel
theorem dX8_init_95 : decode cX8_init 95 = .ok (.newarray .int, 2) := by decide +kernel
theorem dX8_init_97 : decode cX8_init 97 = .ok (.putfield 45, 3) := by decide +kernel
theorem dX8_init_100 : decode cX8_init 100 = .ok (.aload_n 0, 1) := by decide +kernel
theorem dX8_init_101 : decode cX8_init 101 = .ok (.sipush 200, 3) := by decide +kernel
theorem dX8_init_104 : decode cX8_init 104 = .ok (.newarray .int, 2) := by decide +kernel
theorem dX8_init_106 : decode cX8_init 106 = .ok (.putfield 48, 3) := by decide +kernel
theorem dX8_init_109 : decode cX8_init 109 = .ok (.aload_n 0, 1) := by decide +kernel
theorem dX8_init_110 : decode cX8_init 110 = .ok (.bipush 72, 2) := by decide +kernel
theorem dX8_init_112 : decode cX8_init 112 = .ok (.newarray .int, 2) := by decide +kernel
theorem dX8_init_114 : decode cX8_init 114 = .ok (.putfield 51, 3) := by decide +kernel
theorem dX8_init_117 : decode cX8_init 117 = .ok (.aload_n 0, 1) := by decide +kernel
theorem dX8_init_118 : decode cX8_init 118 = .ok (.bipush 96, 2) := by decide +kernel
theorem dX8_init_120 : decode cX8_init 120 = .ok (.newarray .int, 2) := by decide +kernel
theorem dX8_init_122 : decode cX8_init 122 = .ok (.putfield 54, 3) := by decide +kernel
theorem dX8_init_125 : decode cX8_init 125 = .ok (.aload_n 0, 1) := by decide +kernel
theorem dX8_init_126 : decode cX8_init 126 = .ok (.iconst 3, 1) := by decide +kernel
theorem dX8_init_127 : decode cX8_init 127 = .ok (.newarray .int, 2) := by decide +kernel
theorem dX8_init_129 : decode cX8_init 129 = .ok (.putfield 57, 3) := by decide +kernel
theorem dX8_init_132 : decode cX8_init 132 = .ok (.aload_n 0, 1) := by decide +kernel
theorem dX8_init_133 : decode cX8_init 133 = .ok (.iconst 3, 1) := by decide +kernel
theorem dX8_init_134 : decode cX8_init 134 = .ok (.newarray .long, 2) := by decide +kernel
theorem dX8_init_136 : decode cX8_init 136 = .ok (.putfield 60, 3) := by decide +kernel
theorem dX8_init_139 : decode cX8_init 139 = .ok (.aload_n 0, 1) := by decide +kernel
theorem dX8_init_140 : decode cX8_init 140 = .ok (.iconst 3, 1) := by decide +kernel
theorem dX8_init_141 : decode cX8_init 141 = .ok (.newarray .int, 2) := by decide +kernel
theorem dX8_init_143 : decode cX8_init 143 = .ok (.putfield 64, 3) := by decide +kernel
theorem dX8_init_146 : decode cX8_init 146 = .ok (.aload_n 0, 1) := by decide +kernel
theorem dX8_init_147 : decode cX8_init 147 = .ok (.bipush 12, 2) := by decide +kernel
theorem dX8_init_149 : decode cX8_init 149 = .ok (.newarray .int, 2) := by decide +kernel
theorem dX8_init_151 : decode cX8_init 151 = .ok (.putfield 67, 3) := by decide +kernel
theorem dX8_init_154 : decode cX8_init 154 = .ok (.aload_n 0, 1) := by decide +kernel
theorem dX8_init_155 : decode cX8_init 155 = .ok (.iconst 3, 1) := by decide +kernel
theorem dX8_init_156 : decode cX8_init 156 = .ok (.newarray .int, 2) := by decide +kernel
theorem dX8_init_158 : decode cX8_init 158 = .ok (.putfield 70, 3) := by decide +kernel
theorem dX8_init_161 : decode cX8_init 161 = .ok (.aload_n 0, 1) := by decide +kernel
theorem dX8_init_162 : decode cX8_init 162 = .ok (.bipush 8, 2) := by decide +kernel
theorem dX8_init_164 : decode cX8_init 164 = .ok (.newarray .int, 2) := by decide +kernel
theorem dX8_init_166 : decode cX8_init 166 = .ok (.putfield 73, 3) := by decide +kernel
theorem dX8_init_169 : decode cX8_init 169 = .ok (.aload_n 0, 1) := by decide +kernel
theorem dX8_init_170 : decode cX8_init 170 = .ok (.bipush 6, 2) := by decide +kernel
theorem dX8_init_172 : decode cX8_init 172 = .ok (.newarray .int, 2) := by decide +kernel
theorem dX8_init_174 : decode cX8_init 174 = .ok (.putfield 76, 3) := by decide +kernel
theorem dX8_init_177 : decode cX8_init 177 = .ok (.aload_n 0, 1) := by decide +kernel
theorem dX8_init_178 : decode cX8_init 178 = .ok (.sipush 256, 3) := by decide +kernel
theorem dX8_init_181 : decode cX8_init 181 = .ok (.newarray .int, 2) := by decide +kernel
theorem dX8_init_183 : decode cX8_init 183 = .ok (.putfield 79, 3) := by decide +kernel
theorem dX8_init_186 : decode cX8_init 186 = .ok (.aload_n 0, 1) := by decide +kernel
theorem dX8_init_187 : decode cX8_init 187 = .ok (.sipush 256, 3) := by decide +kernel
theorem dX8_init_190 : decode cX8_init 190 = .ok (.newarray .int, 2) := by decide +kernel
theorem dX8_init_192 : decode cX8_init 192 = .ok (.putfield 82, 3) := by decide +kernel
theorem dX8_init_195 : decode cX8_init 195 = .ok (.aload_n 0, 1) := by decide +kernel
theorem dX8_init_196 : decode cX8_init 196 = .ok (.sipush 256, 3) := by decide +kernel
theorem dX8_init_199 : decode cX8_init 199 = .ok (.newarray .int, 2) := by decide +kernel
theorem dX8_init_201 : decode cX8_init 201 = .ok (.putfield 85, 3) := by decide +kernel
theorem dX8_init_204 : decode cX8_init 204 = .ok (.iconst 0, 1) := by decide +kernel
theorem dX8_init_205 : decode cX8_init 205 = .ok (.istore_n 1, 1) := by decide +kernel
theorem dX8_init_206 : decode cX8_init 206 = .ok (.iload_n 1, 1) := by decide +kernel
theorem dX8_init_207 : decode cX8_init 207 = .ok (.bipush 8, 2) := by decide +kernel
theorem dX8_init_209 : decode cX8_init 209 = .ok (.if_icmp .ge 19, 3) := by decide +kernel
theorem dX8_init_212 : decode cX8_init 212 = .ok (.aload_n 0, 1) := by decide +kernel
theorem dX8_init_213 : decode cX8_init 213 = .ok (.getfield 7, 3) := by decide +kernel
theorem dX8_init_216 : decode cX8_init 216 = .ok (.iload_n 1, 1) := by decide +kernel
theorem dX8_init_217 : decode cX8_init 217 = .ok (.iload_n 1, 1) := by decide +kernel
theorem dX8_init_218 : decode cX8_init 218 = .ok (.invokestatic 88, 3) := by decide +kernel
theorem dX8_init_221 : decode cX8_init 221 = .ok (.iastore, 1) := by decide +kernel
theorem dX8_init_222 : decode cX8_init 222 = .ok (.iinc 1 1, 3) := by decide +kernel
theorem dX8_init_225 : decode cX8_init 225 = .ok (.goto (-19), 3) := by decide +kernel
theorem dX8_init_228 : decode cX8_init 228 = .ok (.aload_n 0, 1) := by decide +kernel
theorem dX8_init_229 : decode cX8_init 229 = .ok (.invokevirtual 92, 3) := by decide +kernel
theorem dX8_init_232 : decode cX8_init 232 = .ok (.aload_n 0, 1) := by decide +kernel
theorem dX8_init_233 : decode cX8_init 233 = .ok (.iconst 2, 1) := by decide +kernel
theorem dX8_init_234 : decode cX8_init 234 = .ok (.putfield 95, 3) := by decide +kernel
theorem dX8_init_237 : decode cX8_init 237 = .ok (.iconst 0, 1) := by decide +kernel
theorem dX8_init_238 : decode cX8_init 238 = .ok (.istore_n 1, 1) := by decide +kernel
theorem dX8_init_239 : decode cX8_init 239 = .ok (.iload_n 1, 1) := by decide +kernel
theorem dX8_init_240 : decode cX8_init 240 = .ok (.bipush 8, 2) := by decide +kernel
theorem dX8_init_242 : decode cX8_init 242 = .ok (.if_icmp .ge 16, 3) := by decide +kernel
theorem dX8_init_245 : decode cX8_init 245 = .ok (.aload_n 0, 1) := by decide +kernel
theorem dX8_init_246 : decode cX8_init 246 = .ok (.getfield 73, 3) := by decide +kernel
theorem dX8_init_249 : decode cX8_init 249 = .ok (.iload_n 1, 1) := by decide +kernel
theorem dX8_init_250 : decode cX8_init 250 = .ok (.iconst 1, 1) := by decide +kernel
theorem dX8_init_251 : decode cX8_init 251 = .ok (.iastore, 1) := by decide +kernel
theorem dX8_init_252 : decode cX8_init 252 = .ok (.iinc 1 1, 3) := by decide +kernel
theorem dX8_init_255 : decode cX8_init 255 = .ok (.goto (-16), 3) := by decide +kernel
theorem dX8_init_258 : decode cX8_init 258 = .ok (.return_, 1) := by decide +kernel
theorem dX8_in_0 : decode cX8_in 0 = .ok (.lload_n 0, 1) := by decide +kernel
theorem dX8_in_1 : decode cX8_in 1 = .ok (.lload_n 2, 1) := by decide +kernel
theorem dX8_in_2 : decode cX8_in 2 = .ok (.lcmp, 1) := by decide +kernel
theorem dX8_in_3 : decode cX8_in 3 = .ok (.ifCond .lt 14, 3) := by decide +kernel
theorem dX8_in_6 : decode cX8_in 6 = .ok (.lload_n 0, 1) := by decide +kernel
theorem dX8_in_7 : decode cX8_in 7 = .ok (.lload 4, 2) := by decide +kernel
theorem dX8_in_9 : decode cX8_in 9 = .ok (.lcmp, 1) := by decide +kernel
theorem dX8_in_10 : decode cX8_in 10 = .ok (.ifCond .gt 7, 3) := by decide +kernel
theorem dX8_in_13 : decode cX8_in 13 = .ok (.iconst 1, 1) := by decide +kernel
theorem dX8_in_14 : decode cX8_in 14 = .ok (.goto 4, 3) := by decide +kernel
theorem dX8_in_17 : decode cX8_in 17 = .ok (.iconst 0, 1) := by decide +kernel
theorem dX8_in_18 : decode cX8_in 18 = .ok (.ireturn, 1) := by decide +kernel
theorem dX8_one_0 : decode cX8_one 0 = .ok (.iload_n 0, 1) := by decide +kernel
theorem dX8_one_1 : decode cX8_one 1 = .ok (.ifCond .eq 7, 3) := by decide +kernel
theorem dX8_one_4 : decode cX8_one 4 = .ok (.iconst 1, 1) := by decide +kernel
theorem dX8_one_5 : decode cX8_one 5 = .ok (.goto 4, 3) := by decide +kernel
theorem dX8_one_8 : decode cX8_one 8 = .ok (.iconst 0, 1) := by decide +kernel
theorem dX8_one_9 : decode cX8_one 9 = .ok (.ireturn, 1) := by decide +kernel
theorem dX8_atFirst_0 : decode cX8_atFirst 0 = .ok (.iload_n 0, 1) := by decide +kernel
theorem dX8_atFirst_1 : decode cX8_atFirst 1 = .ok (.ifCond .eq 8, 3) := by decide +kernel
theorem dX8_atFirst_4 : decode cX8_atFirst 4 = .ok (.iload_n 0, 1) := by decide +kernel
theorem dX8_atFirst_5 : decode cX8_atFirst 5 = .ok (.iconst 4, 1) := by decide +kernel
theorem dX8_atFirst_6 : decode cX8_atFirst 6 = .ok (.if_icmp .ne 8, 3) := by decide +kernel
theorem dX8_atFirst_9 : decode cX8_atFirst 9 = .ok (.bipush 90, 2) := by decide +kernel
theorem dX8_atFirst_11 : decode cX8_atFirst 11 = .ok (.goto 54, 3) := by decide +kernel
theorem dX8_atFirst_14 : decode cX8_atFirst 14 = .ok (.iload_n 0, 1) := by decide +kernel
theorem dX8_atFirst_15 : decode cX8_atFirst 15 = .ok (.iconst 1, 1) := by decide +kernel
theorem dX8_atFirst_16 : decode cX8_atFirst 16 = .ok (.if_icmp .ne 8, 3) := by decide +kernel
theorem dX8_atFirst_19 : decode cX8_atFirst 19 = .ok (.bipush 60, 2) := by decide +kernel
theorem dX8_atFirst_21 : decode cX8_atFirst 21 = .ok (.goto 44, 3) := by decide +kernel
theorem dX8_atFirst_24 : decode cX8_atFirst 24 = .ok (.iload_n 0, 1) := by decide +kernel
theorem dX8_atFirst_25 : decode cX8_atFirst 25 = .ok (.iconst 2, 1) := by decide +kernel
theorem dX8_atFirst_26 : decode cX8_atFirst 26 = .ok (.if_icmp .ne 8, 3) := by decide +kernel
theorem dX8_atFirst_29 : decode cX8_atFirst 29 = .ok (.bipush 30, 2) := by decide +kernel
theorem dX8_atFirst_31 : decode cX8_atFirst 31 = .ok (.goto 34, 3) := by decide +kernel
theorem dX8_atFirst_34 : decode cX8_atFirst 34 = .ok (.iload_n 0, 1) := by decide +kernel
theorem dX8_atFirst_35 : decode cX8_atFirst 35 = .ok (.iconst 3, 1) := by decide +kernel
theorem dX8_atFirst_36 : decode cX8_atFirst 36 = .ok (.if_icmp .ne 7, 3) := by decide +kernel
theorem dX8_atFirst_39 : decode cX8_atFirst 39 = .ok (.iconst 5, 1) := by decide +kernel
theorem dX8_atFirst_40 : decode cX8_atFirst 40 = .ok (.goto 25, 3) := by decide +kernel
theorem dX8_atFirst_43 : decode cX8_atFirst 43 = .ok (.iload_n 0, 1) := by decide +kernel
theorem dX8_atFirst_44 : decode cX8_atFirst 44 = .ok (.iconst 5, 1) := by decide +kernel
theorem dX8_atFirst_45 : decode cX8_atFirst 45 = .ok (.if_icmp .ne 8, 3) := by decide +kernel
theorem dX8_atFirst_48 : decode cX8_atFirst 48 = .ok (.bipush 8, 2) := by decide +kernel
theorem dX8_atFirst_50 : decode cX8_atFirst 50 = .ok (.goto 15, 3) := by decide +kernel
theorem dX8_atFirst_53 : decode cX8_atFirst 53 = .ok (.iload_n 0, 1) := by decide +kernel
theorem dX8_atFirst_54 : decode cX8_atFirst 54 = .ok (.bipush 6, 2) := by decide +kernel
theorem dX8_atFirst_56 : decode cX8_atFirst 56 = .ok (.if_icmp .ne 7, 3) := by decide +kernel
theorem dX8_atFirst_59 : decode cX8_atFirst 59 = .ok (.iconst 3, 1) := by decide +kernel
theorem dX8_atFirst_60 : decode cX8_atFirst 60 = .ok (.goto 5, 3) := by decide +kernel
theorem dX8_atFirst_63 : decode cX8_atFirst 63 = .ok (.bipush 95, 2) := by decide +kernel
theorem dX8_atFirst_65 : decode cX8_atFirst 65 = .ok (.ireturn, 1) := by decide +kernel
theorem dX8_feed_0 : decode cX8_feed 0 = .ok (.iload_n 1, 1) := by decide +kernel
theorem dX8_feed_1 : decode cX8_feed 1 = .ok (.i2l, 1) := by decide +kernel
theorem dX8_feed_2 : decode cX8_feed 2 = .ok (.lconst 1, 1) := by decide +kernel
theorem dX8_feed_3 : decode cX8_feed 3 = .ok (.ldc2_w 98, 3) := by decide +kernel
theorem dX8_feed_6 : decode cX8_feed 6 = .ok (.invokestatic 100, 3) := by decide +kernel
theorem dX8_feed_9 : decode cX8_feed 9 = .ok (.ifCond .ne 7, 3) := by decide +kernel
theorem dX8_feed_12 : decode cX8_feed 12 = .ok (.sipush (-1002), 3) := by decide +kernel
theorem dX8_feed_15 : decode cX8_feed 15 = .ok (.ireturn, 1) := by decide +kernel
theorem dX8_feed_16 : decode cX8_feed 16 = .ok (.aload_n 0, 1) := by decide +kernel
theorem dX8_feed_17 : decode cX8_feed 17 = .ok (.getfield 104, 3) := by decide +kernel
theorem dX8_feed_20 : decode cX8_feed 20 = .ok (.iload_n 1, 1) := by decide +kernel
theorem dX8_feed_21 : decode cX8_feed 21 = .ok (.iadd, 1) := by decide +kernel
theorem dX8_feed_22 : decode cX8_feed 22 = .ok (.sipush 160, 3) := by decide +kernel
theorem dX8_feed_25 : decode cX8_feed 25 = .ok (.if_icmp .le 7, 3) := by decide +kernel
theorem dX8_feed_28 : decode cX8_feed 28 = .ok (.sipush (-1004), 3) := by decide +kernel
theorem dX8_feed_31 : decode cX8_feed 31 = .ok (.ireturn, 1) := by decide +kernel
theorem dX8_feed_32 : decode cX8_feed 32 = .ok (.iload_n 1, 1) := by decide +kernel
theorem dX8_feed_33 : decode cX8_feed 33 = .ok (.iconst 1, 1) := by decide +kernel
theorem dX8_feed_34 : decode cX8_feed 34 = .ok (.isub, 1) := by decide +kernel
theorem dX8_feed_35 : decode cX8_feed 35 = .ok (.istore 4, 2) := by decide +kernel
theorem dX8_feed_37 : decode cX8_feed 37 = .ok (.iload 4, 2) := by decide +kernel
theorem dX8_feed_39 : decode cX8_feed 39 = .ok (.ifCond .lt 40, 3) := by decide +kernel
theorem dX8_feed_42 : decode cX8_feed 42 = .ok (.aload_n 0, 1) := by decide +kernel
theorem dX8_feed_43 : decode cX8_feed 43 = .ok (.getfield 16, 3) := by decide +kernel
theorem dX8_feed_46 : decode cX8_feed 46 = .ok (.aload_n 0, 1) := by decide +kernel
theorem dX8_feed_47 : decode cX8_feed 47 = .ok (.getfield 104, 3) := by decide +kernel
theorem dX8_feed_50 : decode cX8_feed 50 = .ok (.lload_n 2, 1) := by decide +kernel
theorem dX8_feed_51 : decode cX8_feed 51 = .ok (.bipush 8, 2) := by decide +kernel
theorem dX8_feed_53 : decode cX8_feed 53 = .ok (.iload 4, 2) := by decide +kernel
theorem dX8_feed_55 : decode cX8_feed 55 = .ok (.imul, 1) := by decide +kernel
theorem dX8_feed_56 : decode cX8_feed 56 = .ok (.lshr, 1) := by decide +kernel
theorem dX8_feed_57 : decode cX8_feed 57 = .ok (.ldc2_w 107, 3) := by decide +kernel
theorem dX8_feed_60 : decode cX8_feed 60 = .ok (.land, 1) := by decide +kernel
theorem dX8_feed_61 : decode cX8_feed 61 = .ok (.l2i, 1) := by decide +kernel
theorem dX8_feed_62 : decode cX8_feed 62 = .ok (.iastore, 1) := by decide +kernel
theorem dX8_feed_63 : decode cX8_feed 63 = .ok (.aload_n 0, 1) := by decide +kernel
theorem dX8_feed_64 : decode cX8_feed 64 = .ok (.dup, 1) := by decide +kernel
theorem dX8_feed_65 : decode cX8_feed 65 = .ok (.getfield 104, 3) := by decide +kernel
theorem dX8_feed_68 : decode cX8_feed 68 = .ok (.iconst 1, 1) := by decide +kernel
theorem dX8_feed_69 : decode cX8_feed 69 = .ok (.iadd, 1) := by decide +kernel
theorem dX8_feed_70 : decode cX8_feed 70 = .ok (.putfield 104, 3) := by decide +kernel
theorem dX8_feed_73 : decode cX8_feed 73 = .ok (.iinc 4 (-1), 3) := by decide +kernel
theorem dX8_feed_76 : decode cX8_feed 76 = .ok (.goto (-39), 3) := by decide +kernel
theorem dX8_feed_79 : decode cX8_feed 79 = .ok (.aload_n 0, 1) := by decide +kernel
theorem dX8_feed_80 : decode cX8_feed 80 = .ok (.getfield 104, 3) := by decide +kernel
theorem dX8_feed_83 : decode cX8_feed 83 = .ok (.ireturn, 1) := by decide +kernel
theorem dX8_here_0 : decode cX8_here 0 = .ok (.aload_n 0, 1) := by decide +kernel
theorem dX8_here_1 : decode cX8_here 1 = .ok (.getfield 109, 3) := by decide +kernel
theorem dX8_here_4 : decode cX8_here 4 = .ok (.aload_n 0, 1) := by decide +kernel
theorem dX8_here_5 : decode cX8_here 5 = .ok (.getfield 104, 3) := by decide +kernel
theorem dX8_here_8 : decode cX8_here 8 = .ok (.if_icmp .ge 30, 3) := by decide +kernel
theorem dX8_here_11 : decode cX8_here 11 = .ok (.aload_n 0, 1) := by decide +kernel
theorem dX8_here_12 : decode cX8_here 12 = .ok (.getfield 16, 3) := by decide +kernel
theorem dX8_here_15 : decode cX8_here 15 = .ok (.aload_n 0, 1) := by decide +kernel
theorem dX8_here_16 : decode cX8_here 16 = .ok (.getfield 109, 3) := by decide +kernel
theorem dX8_here_19 : decode cX8_here 19 = .ok (.iaload, 1) := by decide +kernel
theorem dX8_here_20 : decode cX8_here 20 = .ok (.bipush 32, 2) := by decide +kernel
theorem dX8_here_22 : decode cX8_here 22 = .ok (.if_icmp .ne 16, 3) := by decide +kernel
theorem dX8_here_25 : decode cX8_here 25 = .ok (.aload_n 0, 1) := by decide +kernel
theorem dX8_here_26 : decode cX8_here 26 = .ok (.dup, 1) := by decide +kernel
theorem dX8_here_27 : decode cX8_here 27 = .ok (.getfield 109, 3) := by decide +kernel
theorem dX8_here_30 : decode cX8_here 30 = .ok (.iconst 1, 1) := by decide +kernel
theorem dX8_here_31 : decode cX8_here 31 = .ok (.iadd, 1) := by decide +kernel
theorem dX8_here_32 : decode cX8_here 32 = .ok (.putfield 109, 3) := by decide +kernel
theorem dX8_here_35 : decode cX8_here 35 = .ok (.goto (-35), 3) := by decide +kernel
theorem dX8_here_38 : decode cX8_here 38 = .ok (.aload_n 0, 1) := by decide +kernel
theorem dX8_here_39 : decode cX8_here 39 = .ok (.getfield 109, 3) := by decide +kernel
theorem dX8_here_42 : decode cX8_here 42 = .ok (.aload_n 0, 1) := by decide +kernel
theorem dX8_here_43 : decode cX8_here 43 = .ok (.getfield 104, 3) := by decide +kernel
theorem dX8_here_46 : decode cX8_here 46 = .ok (.if_icmp .ge 15, 3) := by decide +kernel
theorem dX8_here_49 : decode cX8_here 49 = .ok (.aload_n 0, 1) := by decide +kernel
theorem dX8_here_50 : decode cX8_here 50 = .ok (.getfield 16, 3) := by decide +kernel
theorem dX8_here_53 : decode cX8_here 53 = .ok (.aload_n 0, 1) := by decide +kernel
theorem dX8_here_54 : decode cX8_here 54 = .ok (.getfield 109, 3) := by decide +kernel
theorem dX8_here_57 : decode cX8_here 57 = .ok (.iaload, 1) := by decide +kernel
theorem dX8_here_58 : decode cX8_here 58 = .ok (.goto 4, 3) := by decide +kernel
theorem dX8_here_61 : decode cX8_here 61 = .ok (.iconst (-1), 1) := by decide +kernel
theorem dX8_here_62 : decode cX8_here 62 = .ok (.ireturn, 1) := by decide +kernel
theorem dX8_want_0 : decode cX8_want 0 = .ok (.iload_n 1, 1) := by decide +kernel
theorem dX8_want_1 : decode cX8_want 1 = .ok (.ifCond .ne 20, 3) := by decide +kernel
theorem dX8_want_4 : decode cX8_want 4 = .ok (.aload_n 0, 1) := by decide +kernel
theorem dX8_want_5 : decode cX8_want 5 = .ok (.getfield 112, 3) := by decide +kernel
theorem dX8_want_8 : decode cX8_want 8 = .ok (.ifCond .ne 13, 3) := by decide +kernel
theorem dX8_want_11 : decode cX8_want 11 = .ok (.aload_n 0, 1) := by decide +kernel
theorem dX8_want_12 : decode cX8_want 12 = .ok (.iload_n 2, 1) := by decide +kernel
theorem dX8_want_13 : decode cX8_want 13 = .ok (.putfield 112, 3) := by decide +kernel
theorem dX8_want_16 : decode cX8_want 16 = .ok (.aload_n 0, 1) := by decide +kernel
theorem dX8_want_17 : decode cX8_want 17 = .ok (.iload_n 3, 1) := by decide +kernel
theorem dX8_want_18 : decode cX8_want 18 = .ok (.putfield 19, 3) := by decide +kernel
theorem dX8_want_21 : decode cX8_want 21 = .ok (.aload_n 0, 1) := by decide +kernel
theorem dX8_want_22 : decode cX8_want 22 = .ok (.getfield 112, 3) := by decide +kernel
theorem dX8_want_25 : decode cX8_want 25 = .ok (.ifCond .ne 7, 3) := by decide +kernel
theorem dX8_want_28 : decode cX8_want 28 = .ok (.iconst 1, 1) := by decide +kernel
theorem dX8_want_29 : decode cX8_want 29 = .ok (.goto 4, 3) := by decide +kernel
theorem dX8_want_32 : decode cX8_want 32 = .ok (.iconst 0, 1) := by decide +kernel
theorem dX8_want_33 : decode cX8_want 33 = .ok (.ireturn, 1) := by decide +kernel
theorem dX8_isWord_0 : decode cX8_isWord 0 = .ok (.aload_n 0, 1) := by decide +kernel
theorem dX8_isWord_1 : decode cX8_isWord 1 = .ok (.getfield 115, 3) := by decide +kernel
theorem dX8_isWord_4 : decode cX8_isWord 4 = .ok (.iload_n 1, 1) := by decide +kernel
theorem dX8_isWord_5 : decode cX8_isWord 5 = .ok (.if_icmp .ne 7, 3) := by decide +kernel
theorem dX8_isWord_8 : decode cX8_isWord 8 = .ok (.iconst 1, 1) := by decide +kernel
theorem dX8_isWord_9 : decode cX8_isWord 9 = .ok (.goto 4, 3) := by decide +kernel
theorem dX8_isWord_12 : decode cX8_isWord 12 = .ok (.iconst 0, 1) := by decide +kernel
theorem dX8_isWord_13 : decode cX8_isWord 13 = .ok (.istore 7, 2) := by decide +kernel
theorem dX8_isWord_15 : decode cX8_isWord 15 = .ok (.iconst 0, 1) := by decide +kernel
theorem dX8_isWord_16 : decode cX8_isWord 16 = .ok (.istore 8, 2) := by decide +kernel
theorem dX8_isWord_18 : decode cX8_isWord 18 = .ok (.iload 8, 2) := by decide +kernel
theorem dX8_isWord_20 : decode cX8_isWord 20 = .ok (.iload_n 1, 1) := by decide +kernel
theorem dX8_isWord_21 : decode cX8_isWord 21 = .ok (.if_icmp .ge 85, 3) := by decide +kernel
theorem dX8_isWord_24 : decode cX8_isWord 24 = .ok (.iload 8, 2) := by decide +kernel
theorem dX8_isWord_26 : decode cX8_isWord 26 = .ok (.iconst 5, 1) := by decide +kernel
theorem dX8_isWord_27 : decode cX8_isWord 27 = .ok (.if_icmp .ge 79, 3) := by decide +kernel
theorem dX8_isWord_30 : decode cX8_isWord 30 = .ok (.iload 7, 2) := by decide +kernel
theorem dX8_isWord_32 : decode cX8_isWord 32 = .ok (.ifCond .eq 74, 3) := by decide +kernel
theorem dX8_isWord_35 : decode cX8_isWord 35 = .ok (.aload_n 0, 1) := by decide +kernel
theorem dX8_isWord_36 : decode cX8_isWord 36 = .ok (.getfield 16, 3) := by decide +kernel
theorem dX8_isWord_39 : decode cX8_isWord 39 = .ok (.aload_n 0, 1) := by decide +kernel
theorem dX8_isWord_40 : decode cX8_isWord 40 = .ok (.getfield 118, 3) := by decide +kernel
theorem dX8_isWord_43 : decode cX8_isWord 43 = .ok (.iload 8, 2) := by decide +kernel
theorem dX8_isWord_45 : decode cX8_isWord 45 = .ok (.iadd, 1) := by decide +kernel
theorem dX8_isWord_46 : decode cX8_isWord 46 = .ok (.iaload, 1) := by decide +kernel
theorem dX8_isWord_47 : decode cX8_isWord 47 = .ok (.iload 8, 2) := by decide +kernel
theorem dX8_isWord_49 : decode cX8_isWord 49 = .ok (.ifCond .ne 7, 3) := by decide +kernel
theorem dX8_isWord_52 : decode cX8_isWord 52 = .ok (.iload_n 2, 1) := by decide +kernel
theorem dX8_isWord_53 : decode cX8_isWord 53 = .ok (.goto 37, 3) := by decide +kernel
theorem dX8_isWord_56 : decode cX8_isWord 56 = .ok (.iload 8, 2) := by decide +kernel
theorem dX8_isWord_58 : decode cX8_isWord 58 = .ok (.iconst 1, 1) := by decide +kernel
theorem dX8_isWord_59 : decode cX8_isWord 59 = .ok (.if_icmp .ne 7, 3) := by decide +kernel
theorem dX8_isWord_62 : decode cX8_isWord 62 = .ok (.iload_n 3, 1) := by decide +kernel
theorem dX8_isWord_63 : decode cX8_isWord 63 = .ok (.goto 27, 3) := by decide +kernel
theorem dX8_isWord_66 : decode cX8_isWord 66 = .ok (.iload 8, 2) := by decide +kernel
theorem dX8_isWord_68 : decode cX8_isWord 68 = .ok (.iconst 2, 1) := by decide +kernel
theorem dX8_isWord_69 : decode cX8_isWord 69 = .ok (.if_icmp .ne 8, 3) := by decide +kernel
theorem dX8_isWord_72 : decode cX8_isWord 72 = .ok (.iload 4, 2) := by decide +kernel
theorem dX8_isWord_74 : decode cX8_isWord 74 = .ok (.goto 16, 3) := by decide +kernel
theorem dX8_isWord_77 : decode cX8_isWord 77 = .ok (.iload 8, 2) := by decide +kernel
theorem dX8_isWord_79 : decode cX8_isWord 79 = .ok (.iconst 3, 1) := by decide +kernel
theorem dX8_isWord_80 : decode cX8_isWord 80 = .ok (.if_icmp .ne 8, 3) := by decide +kernel
theorem dX8_isWord_83 : decode cX8_isWord 83 = .ok (.iload 5, 2) := by decide +kernel
theorem dX8_isWord_85 : decode cX8_isWord 85 = .ok (.goto 5, 3) := by decide +kernel
theorem dX8_isWord_88 : decode cX8_isWord 88 = .ok (.iload 6, 2) := by decide +kernel
theorem dX8_isWord_90 : decode cX8_isWord 90 = .ok (.if_icmp .ne 7, 3) := by decide +kernel
theorem dX8_isWord_93 : decode cX8_isWord 93 = .ok (.iconst 1, 1) := by decide +kernel
theorem dX8_isWord_94 : decode cX8_isWord 94 = .ok (.goto 4, 3) := by decide +kernel
theorem dX8_isWord_97 : decode cX8_isWord 97 = .ok (.iconst 0, 1) := by decide +kernel
theorem dX8_isWord_98 : decode cX8_isWord 98 = .ok (.istore 7, 2) := by decide +kernel
theorem dX8_isWord_100 : decode cX8_isWord 100 = .ok (.iinc 8 1, 3) := by decide +kernel
theorem dX8_isWord_103 : decode cX8_isWord 103 = .ok (.goto (-85), 3) := by decide +kernel
theorem dX8_isWord_106 : decode cX8_isWord 106 = .ok (.iload 7, 2) := by decide +kernel
theorem dX8_isWord_108 : decode cX8_isWord 108 = .ok (.ireturn, 1) := by decide +kernel
theorem dX8_kindOf_0 : decode cX8_kindOf 0 = .ok (.aload_n 0, 1) := by decide +kernel
theorem dX8_kindOf_1 : decode cX8_kindOf 1 = .ok (.iconst 5, 1) := by decide +kernel
theorem dX8_kindOf_2 : decode cX8_kindOf 2 = .ok (.bipush 115, 2) := by decide +kernel
theorem dX8_kindOf_4 : decode cX8_kindOf 4 = .ok (.bipush 104, 2) := by decide +kernel
theorem dX8_kindOf_6 : decode cX8_kindOf 6 = .ok (.bipush 97, 2) := by decide +kernel
theorem dX8_kindOf_8 : decode cX8_kindOf 8 = .ok (.bipush 114, 2) := by decide +kernel
theorem dX8_kindOf_10 : decode cX8_kindOf 10 = .ok (.bipush 112, 2) := by decide +kernel
theorem dX8_kindOf_12 : decode cX8_kindOf 12 = .ok (.invokevirtual 121, 3) := by decide +kernel
theorem dX8_kindOf_15 : decode cX8_kindOf 15 = .ok (.ifCond .eq 5, 3) := by decide +kernel
theorem dX8_kindOf_18 : decode cX8_kindOf 18 = .ok (.iconst 0, 1) := by decide +kernel
theorem dX8_kindOf_19 : decode cX8_kindOf 19 = .ok (.ireturn, 1) := by decide +kernel
theorem dX8_kindOf_20 : decode cX8_kindOf 20 = .ok (.aload_n 0, 1) := by decide +kernel
theorem dX8_kindOf_21 : decode cX8_kindOf 21 = .ok (.iconst 3, 1) := by decide +kernel
theorem dX8_kindOf_22 : decode cX8_kindOf 22 = .ok (.bipush 102, 2) := by decide +kernel
theorem dX8_kindOf_24 : decode cX8_kindOf 24 = .ok (.bipush 97, 2) := by decide +kernel
theorem dX8_kindOf_26 : decode cX8_kindOf 26 = .ok (.bipush 114, 2) := by decide +kernel
theorem dX8_kindOf_28 : decode cX8_kindOf 28 = .ok (.iconst 0, 1) := by decide +kernel
theorem dX8_kindOf_29 : decode cX8_kindOf 29 = .ok (.iconst 0, 1) := by decide +kernel
theorem dX8_kindOf_30 : decode cX8_kindOf 30 = .ok (.invokevirtual 121, 3) := by decide +kernel
theorem dX8_kindOf_33 : decode cX8_kindOf 33 = .ok (.ifCond .eq 5, 3) := by decide +kernel
theorem dX8_kindOf_36 : decode cX8_kindOf 36 = .ok (.iconst 1, 1) := by decide +kernel
theorem dX8_kindOf_37 : decode cX8_kindOf 37 = .ok (.ireturn, 1) := by decide +kernel
theorem dX8_kindOf_38 : decode cX8_kindOf 38 = .ok (.aload_n 0, 1) := by decide +kernel
theorem dX8_kindOf_39 : decode cX8_kindOf 39 = .ok (.iconst 4, 1) := by decide +kernel
theorem dX8_kindOf_40 : decode cX8_kindOf 40 = .ok (.bipush 108, 2) := by decide +kernel
theorem dX8_kindOf_42 : decode cX8_kindOf 42 = .ok (.bipush 101, 2) := by decide +kernel
theorem dX8_kindOf_44 : decode cX8_kindOf 44 = .ok (.bipush 97, 2) := by decide +kernel
theorem dX8_kindOf_46 : decode cX8_kindOf 46 = .ok (.bipush 110, 2) := by decide +kernel
theorem dX8_kindOf_48 : decode cX8_kindOf 48 = .ok (.iconst 0, 1) := by decide +kernel
theorem dX8_kindOf_49 : decode cX8_kindOf 49 = .ok (.invokevirtual 121, 3) := by decide +kernel
theorem dX8_kindOf_52 : decode cX8_kindOf 52 = .ok (.ifCond .eq 5, 3) := by decide +kernel
theorem dX8_kindOf_55 : decode cX8_kindOf 55 = .ok (.iconst 2, 1) := by decide +kernel
theorem dX8_kindOf_56 : decode cX8_kindOf 56 = .ok (.ireturn, 1) := by decide +kernel
theorem dX8_kindOf_57 : decode cX8_kindOf 57 = .ok (.aload_n 0, 1) := by decide +kernel
theorem dX8_kindOf_58 : decode cX8_kindOf 58 = .ok (.iconst 4, 1) := by decide +kernel
theorem dX8_kindOf_59 : decode cX8_kindOf 59 = .ok (.bipush 116, 2) := by decide +kernel
theorem dX8_kindOf_61 : decode cX8_kindOf 61 = .ok (.bipush 105, 2) := by decide +kernel
theorem dX8_kindOf_63 : decode cX8_kindOf 63 = .ok (.bipush 114, 2) := by decide +kernel
theorem dX8_kindOf_65 : decode cX8_kindOf 65 = .ok (.bipush 101, 2) := by decide +kernel
theorem dX8_kindOf_67 : decode cX8_kindOf 67 = .ok (.iconst 0, 1) := by decide +kernel
theorem dX8_kindOf_68 : decode cX8_kindOf 68 = .ok (.invokevirtual 121, 3) := by decide +kernel
theorem dX8_kindOf_71 : decode cX8_kindOf 71 = .ok (.ifCond .eq 5, 3) := by decide +kernel
theorem dX8_kindOf_74 : decode cX8_kindOf 74 = .ok (.iconst 3, 1) := by decide +kernel
theorem dX8_kindOf_75 : decode cX8_kindOf 75 = .ok (.ireturn, 1) := by decide +kernel
theorem dX8_kindOf_76 : decode cX8_kindOf 76 = .ok (.aload_n 0, 1) := by decide +kernel
theorem dX8_kindOf_77 : decode cX8_kindOf 77 = .ok (.iconst 4, 1) := by decide +kernel
theorem dX8_kindOf_78 : decode cX8_kindOf 78 = .ok (.bipush 108, 2) := by decide +kernel
theorem dX8_kindOf_80 : decode cX8_kindOf 80 = .ok (.bipush 105, 2) := by decide +kernel
theorem dX8_kindOf_82 : decode cX8_kindOf 82 = .ok (.bipush 110, 2) := by decide +kernel
theorem dX8_kindOf_84 : decode cX8_kindOf 84 = .ok (.bipush 101, 2) := by decide +kernel
theorem dX8_kindOf_86 : decode cX8_kindOf 86 = .ok (.iconst 0, 1) := by decide +kernel
theorem dX8_kindOf_87 : decode cX8_kindOf 87 = .ok (.invokevirtual 121, 3) := by decide +kernel
theorem dX8_kindOf_90 : decode cX8_kindOf 90 = .ok (.ifCond .eq 5, 3) := by decide +kernel
theorem dX8_kindOf_93 : decode cX8_kindOf 93 = .ok (.iconst 4, 1) := by decide +kernel
theorem dX8_kindOf_94 : decode cX8_kindOf 94 = .ok (.ireturn, 1) := by decide +kernel
theorem dX8_kindOf_95 : decode cX8_kindOf 95 = .ok (.aload_n 0, 1) := by decide +kernel
theorem dX8_kindOf_96 : decode cX8_kindOf 96 = .ok (.iconst 4, 1) := by decide +kernel
theorem dX8_kindOf_97 : decode cX8_kindOf 97 = .ok (.bipush 109, 2) := by decide +kernel
theorem dX8_kindOf_99 : decode cX8_kindOf 99 = .ok (.bipush 111, 2) := by decide +kernel
theorem dX8_kindOf_101 : decode cX8_kindOf 101 = .ok (.bipush 115, 2) := by decide +kernel
theorem dX8_kindOf_103 : decode cX8_kindOf 103 = .ok (.bipush 116, 2) := by decide +kernel
theorem dX8_kindOf_105 : decode cX8_kindOf 105 = .ok (.iconst 0, 1) := by decide +kernel
theorem dX8_kindOf_106 : decode cX8_kindOf 106 = .ok (.invokevirtual 121, 3) := by decide +kernel
theorem dX8_kindOf_109 : decode cX8_kindOf 109 = .ok (.ifCond .eq 5, 3) := by decide +kernel
theorem dX8_kindOf_112 : decode cX8_kindOf 112 = .ok (.iconst 5, 1) := by decide +kernel
theorem dX8_kindOf_113 : decode cX8_kindOf 113 = .ok (.ireturn, 1) := by decide +kernel
theorem dX8_kindOf_114 : decode cX8_kindOf 114 = .ok (.aload_n 0, 1) := by decide +kernel
theorem dX8_kindOf_115 : decode cX8_kindOf 115 = .ok (.bipush 8, 2) := by decide +kernel
theorem dX8_kindOf_117 : decode cX8_kindOf 117 = .ok (.bipush 112, 2) := by decide +kernel
theorem dX8_kindOf_119 : decode cX8_kindOf 119 = .ok (.bipush 97, 2) := by decide +kernel
theorem dX8_kindOf_121 : decode cX8_kindOf 121 = .ok (.bipush 116, 2) := by decide +kernel
theorem dX8_kindOf_123 : decode cX8_kindOf 123 = .ok (.bipush 105, 2) := by decide +kernel
theorem dX8_kindOf_125 : decode cX8_kindOf 125 = .ok (.bipush 101, 2) := by decide +kernel
theorem dX8_kindOf_127 : decode cX8_kindOf 127 = .ok (.invokevirtual 121, 3) := by decide +kernel
theorem dX8_kindOf_130 : decode cX8_kindOf 130 = .ok (.ifCond .eq 56, 3) := by decide +kernel
theorem dX8_kindOf_133 : decode cX8_kindOf 133 = .ok (.aload_n 0, 1) := by decide +kernel
theorem dX8_kindOf_134 : decode cX8_kindOf 134 = .ok (.getfield 16, 3) := by decide +kernel
theorem dX8_kindOf_137 : decode cX8_kindOf 137 = .ok (.aload_n 0, 1) := by decide +kernel
theorem dX8_kindOf_138 : decode cX8_kindOf 138 = .ok (.getfield 118, 3) := by decide +kernel
theorem dX8_kindOf_141 : decode cX8_kindOf 141 = .ok (.iconst 5, 1) := by decide +kernel
theorem dX8_kindOf_142 : decode cX8_kindOf 142 = .ok (.iadd, 1) := by decide +kernel
theorem dX8_kindOf_143 : decode cX8_kindOf 143 = .ok (.iaload, 1) := by decide +kernel
theorem dX8_kindOf_144 : decode cX8_kindOf 144 = .ok (.bipush 110, 2) := by decide +kernel
theorem dX8_kindOf_146 : decode cX8_kindOf 146 = .ok (.if_icmp .ne 40, 3) := by decide +kernel
theorem dX8_kindOf_149 : decode cX8_kindOf 149 = .ok (.aload_n 0, 1) := by decide +kernel
theorem dX8_kindOf_150 : decode cX8_kindOf 150 = .ok (.getfield 16, 3) := by decide +kernel
theorem dX8_kindOf_153 : decode cX8_kindOf 153 = .ok (.aload_n 0, 1) := by decide +kernel
theorem dX8_kindOf_154 : decode cX8_kindOf 154 = .ok (.getfield 118, 3) := by decide +kernel
theorem dX8_kindOf_157 : decode cX8_kindOf 157 = .ok (.bipush 6, 2) := by decide +kernel
theorem dX8_kindOf_159 : decode cX8_kindOf 159 = .ok (.iadd, 1) := by decide +kernel
theorem dX8_kindOf_160 : decode cX8_kindOf 160 = .ok (.iaload, 1) := by decide +kernel
theorem dX8_kindOf_161 : decode cX8_kindOf 161 = .ok (.bipush 99, 2) := by decide +kernel
theorem dX8_kindOf_163 : decode cX8_kindOf 163 = .ok (.if_icmp .ne 23, 3) := by decide +kernel
theorem dX8_kindOf_166 : decode cX8_kindOf 166 = .ok (.aload_n 0, 1) := by decide +kernel
theorem dX8_kindOf_167 : decode cX8_kindOf 167 = .ok (.getfield 16, 3) := by decide +kernel
theorem dX8_kindOf_170 : decode cX8_kindOf 170 = .ok (.aload_n 0, 1) := by decide +kernel
theorem dX8_kindOf_171 : decode cX8_kindOf 171 = .ok (.getfield 118, 3) := by decide +kernel
theorem dX8_kindOf_174 : decode cX8_kindOf 174 = .ok (.bipush 7, 2) := by decide +kernel
theorem dX8_kindOf_176 : decode cX8_kindOf 176 = .ok (.iadd, 1) := by decide +kernel
theorem dX8_kindOf_177 : decode cX8_kindOf 177 = .ok (.iaload, 1) := by decide +kernel
theorem dX8_kindOf_178 : decode cX8_kindOf 178 = .ok (.bipush 101, 2) := by decide +kernel
theorem dX8_kindOf_180 : decode cX8_kindOf 180 = .ok (.if_icmp .ne 6, 3) := by decide +kernel
theorem dX8_kindOf_183 : decode cX8_kindOf 183 = .ok (.bipush 6, 2) := by decide +kernel
theorem dX8_kindOf_185 : decode cX8_kindOf 185 = .ok (.ireturn, 1) := by decide +kernel
theorem dX8_kindOf_186 : decode cX8_kindOf 186 = .ok (.aload_n 0, 1) := by decide +kernel
theorem dX8_kindOf_187 : decode cX8_kindOf 187 = .ok (.iconst 4, 1) := by decide +kernel
theorem dX8_kindOf_188 : decode cX8_kindOf 188 = .ok (.bipush 115, 2) := by decide +kernel
theorem dX8_kindOf_190 : decode cX8_kindOf 190 = .ok (.bipush 117, 2) := by decide +kernel
theorem dX8_kindOf_192 : decode cX8_kindOf 192 = .ok (.bipush 114, 2) := by decide +kernel
theorem dX8_kindOf_194 : decode cX8_kindOf 194 = .ok (.bipush 101, 2) := by decide +kernel
theorem dX8_kindOf_196 : decode cX8_kindOf 196 = .ok (.iconst 0, 1) := by decide +kernel
theorem dX8_kindOf_197 : decode cX8_kindOf 197 = .ok (.invokevirtual 121, 3) := by decide +kernel
theorem dX8_kindOf_200 : decode cX8_kindOf 200 = .ok (.ifCond .eq 8, 3) := by decide +kernel
theorem dX8_kindOf_203 : decode cX8_kindOf 203 = .ok (.bipush 7, 2) := by decide +kernel
theorem dX8_kindOf_205 : decode cX8_kindOf 205 = .ok (.goto 4, 3) := by decide +kernel
theorem dX8_kindOf_208 : decode cX8_kindOf 208 = .ok (.iconst (-1), 1) := by decide +kernel
theorem dX8_kindOf_209 : decode cX8_kindOf 209 = .ok (.ireturn, 1) := by decide +kernel
theorem dX8_takeNumber_0 : decode cX8_takeNumber 0 = .ok (.aload_n 0, 1) := by decide +kernel
theorem dX8_takeNumber_1 : decode cX8_takeNumber 1 = .ok (.getfield 112, 3) := by decide +kernel
theorem dX8_takeNumber_4 : decode cX8_takeNumber 4 = .ok (.ifCond .le 5, 3) := by decide +kernel
theorem dX8_takeNumber_7 : decode cX8_takeNumber 7 = .ok (.iconst 0, 1) := by decide +kernel
theorem dX8_takeNumber_8 : decode cX8_takeNumber 8 = .ok (.ireturn, 1) := by decide +kernel
theorem dX8_takeNumber_9 : decode cX8_takeNumber 9 = .ok (.aload_n 0, 1) := by decide +kernel
theorem dX8_takeNumber_10 : decode cX8_takeNumber 10 = .ok (.invokevirtual 125, 3) := by decide +kernel
theorem dX8_takeNumber_13 : decode cX8_takeNumber 13 = .ok (.istore_n 3, 1) := by decide +kernel
theorem dX8_takeNumber_14 : decode cX8_takeNumber 14 = .ok (.aload_n 0, 1) := by decide +kernel
theorem dX8_takeNumber_15 : decode cX8_takeNumber 15 = .ok (.aload_n 0, 1) := by decide +kernel
theorem dX8_takeNumber_16 : decode cX8_takeNumber 16 = .ok (.getfield 109, 3) := by decide +kernel
theorem dX8_takeNumber_19 : decode cX8_takeNumber 19 = .ok (.putfield 118, 3) := by decide +kernel
theorem dX8_takeNumber_22 : decode cX8_takeNumber 22 = .ok (.aload_n 0, 1) := by decide +kernel
theorem dX8_takeNumber_23 : decode cX8_takeNumber 23 = .ok (.iload_n 3, 1) := by decide +kernel
theorem dX8_takeNumber_24 : decode cX8_takeNumber 24 = .ok (.i2l, 1) := by decide +kernel
theorem dX8_takeNumber_25 : decode cX8_takeNumber 25 = .ok (.ldc2_w 129, 3) := by decide +kernel
theorem dX8_takeNumber_28 : decode cX8_takeNumber 28 = .ok (.ldc2_w 131, 3) := by decide +kernel
theorem dX8_takeNumber_31 : decode cX8_takeNumber 31 = .ok (.invokestatic 100, 3) := by decide +kernel
theorem dX8_takeNumber_34 : decode cX8_takeNumber 34 = .ok (.iconst 1, 1) := by decide +kernel
theorem dX8_takeNumber_35 : decode cX8_takeNumber 35 = .ok (.aload_n 0, 1) := by decide +kernel
theorem dX8_takeNumber_36 : decode cX8_takeNumber 36 = .ok (.getfield 109, 3) := by decide +kernel
theorem dX8_takeNumber_39 : decode cX8_takeNumber 39 = .ok (.invokevirtual 133, 3) := by decide +kernel
theorem dX8_takeNumber_42 : decode cX8_takeNumber 42 = .ok (.ifCond .ne 5, 3) := by decide +kernel
theorem dX8_takeNumber_45 : decode cX8_takeNumber 45 = .ok (.iconst 0, 1) := by decide +kernel
theorem dX8_takeNumber_46 : decode cX8_takeNumber 46 = .ok (.ireturn, 1) := by decide +kernel
theorem dX8_takeNumber_47 : decode cX8_takeNumber 47 = .ok (.iconst 0, 1) := by decide +kernel
theorem dX8_takeNumber_48 : decode cX8_takeNumber 48 = .ok (.istore 4, 2) := by decide +kernel
theorem dX8_takeNumber_50 : decode cX8_takeNumber 50 = .ok (.aload_n 0, 1) := by decide +kernel
theorem dX8_takeNumber_51 : decode cX8_takeNumber 51 = .ok (.getfield 109, 3) := by decide +kernel
theorem dX8_takeNumber_54 : decode cX8_takeNumber 54 = .ok (.aload_n 0, 1) := by decide +kernel
theorem dX8_takeNumber_55 : decode cX8_takeNumber 55 = .ok (.getfield 104, 3) := by decide +kernel
theorem dX8_takeNumber_58 : decode cX8_takeNumber 58 = .ok (.if_icmp .ge 71, 3) := by decide +kernel
theorem dX8_takeNumber_61 : decode cX8_takeNumber 61 = .ok (.aload_n 0, 1) := by decide +kernel
theorem dX8_takeNumber_62 : decode cX8_takeNumber 62 = .ok (.getfield 16, 3) := by decide +kernel
theorem dX8_takeNumber_65 : decode cX8_takeNumber 65 = .ok (.aload_n 0, 1) := by decide +kernel
theorem dX8_takeNumber_66 : decode cX8_takeNumber 66 = .ok (.getfield 109, 3) := by decide +kernel
theorem dX8_takeNumber_69 : decode cX8_takeNumber 69 = .ok (.iaload, 1) := by decide +kernel
theorem dX8_takeNumber_70 : decode cX8_takeNumber 70 = .ok (.i2l, 1) := by decide +kernel
theorem dX8_takeNumber_71 : decode cX8_takeNumber 71 = .ok (.ldc2_w 129, 3) := by decide +kernel
theorem dX8_takeNumber_74 : decode cX8_takeNumber 74 = .ok (.ldc2_w 131, 3) := by decide +kernel
theorem dX8_takeNumber_77 : decode cX8_takeNumber 77 = .ok (.invokestatic 100, 3) := by decide +kernel
theorem dX8_takeNumber_80 : decode cX8_takeNumber 80 = .ok (.ifCond .eq 49, 3) := by decide +kernel
theorem dX8_takeNumber_83 : decode cX8_takeNumber 83 = .ok (.iload 4, 2) := by decide +kernel
theorem dX8_takeNumber_85 : decode cX8_takeNumber 85 = .ok (.sipush 999, 3) := by decide +kernel
theorem dX8_takeNumber_88 : decode cX8_takeNumber 88 = .ok (.if_icmp .le 8, 3) := by decide +kernel
theorem dX8_takeNumber_91 : decode cX8_takeNumber 91 = .ok (.iload 4, 2) := by decide +kernel
