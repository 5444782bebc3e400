theorem dX3_best_41 : decode cX3_best 41 = .ok (.iload_n 1, 1) := by decide +kernel
theorem dX3_best_42 : decode cX3_best 42 = .ok (.iaload, 1) := by decide +kernel
theorem dX3_best_43 : decode cX3_best 43 = .ok (.if_icmp .ge 34, 3) := by decide +kernel
theorem dX3_best_46 : decode cX3_best 46 = .ok (.aload_n 0, 1) := by decide +kernel
theorem dX3_best_47 : decode cX3_best 47 = .ok (.iload_n 1, 1) := by decide +kernel
theorem dX3_best_48 : decode cX3_best 48 = .ok (.iload 6, 2) := by decide +kernel
theorem dX3_best_50 : decode cX3_best 50 = .ok (.iload_n 2, 1) := by decide +kernel
theorem dX3_best_51 : decode cX3_best 51 = .ok (.invokevirtual 150, 3) := by decide +kernel
theorem dX3_best_54 : decode cX3_best 54 = .ok (.lstore 7, 2) := by decide +kernel
theorem dX3_best_56 : decode cX3_best 56 = .ok (.lload 7, 2) := by decide +kernel
theorem dX3_best_58 : decode cX3_best 58 = .ok (.lload 4, 2) := by decide +kernel
theorem dX3_best_60 : decode cX3_best 60 = .ok (.lcmp, 1) := by decide +kernel
theorem dX3_best_61 : decode cX3_best 61 = .ok (.ifCond .le 10, 3) := by decide +kernel
theorem dX3_best_64 : decode cX3_best 64 = .ok (.lload 7, 2) := by decide +kernel
theorem dX3_best_66 : decode cX3_best 66 = .ok (.lstore 4, 2) := by decide +kernel
theorem dX3_best_68 : decode cX3_best 68 = .ok (.iload 6, 2) := by decide +kernel
theorem dX3_best_70 : decode cX3_best 70 = .ok (.istore_n 3, 1) := by decide +kernel
theorem dX3_best_71 : decode cX3_best 71 = .ok (.iinc 6 1, 3) := by decide +kernel
theorem dX3_best_74 : decode cX3_best 74 = .ok (.goto (-39), 3) := by decide +kernel
theorem dX3_best_77 : decode cX3_best 77 = .ok (.iload_n 3, 1) := by decide +kernel
theorem dX3_best_78 : decode cX3_best 78 = .ok (.ireturn, 1) := by decide +kernel
theorem dX3_rest_0 : decode cX3_rest 0 = .ok (.iload_n 1, 1) := by decide +kernel
theorem dX3_rest_1 : decode cX3_rest 1 = .ok (.iconst (-1), 1) := by decide +kernel
theorem dX3_rest_2 : decode cX3_rest 2 = .ok (.if_icmp .ge 6, 3) := by decide +kernel
theorem dX3_rest_5 : decode cX3_rest 5 = .ok (.bipush (-10), 2) := by decide +kernel
theorem dX3_rest_7 : decode cX3_rest 7 = .ok (.ireturn, 1) := by decide +kernel
theorem dX3_rest_8 : decode cX3_rest 8 = .ok (.aload_n 0, 1) := by decide +kernel
theorem dX3_rest_9 : decode cX3_rest 9 = .ok (.invokevirtual 154, 3) := by decide +kernel
theorem dX3_rest_12 : decode cX3_rest 12 = .ok (.aload_n 0, 1) := by decide +kernel
theorem dX3_rest_13 : decode cX3_rest 13 = .ok (.invokevirtual 157, 3) := by decide +kernel
theorem dX3_rest_16 : decode cX3_rest 16 = .ok (.aload_n 0, 1) := by decide +kernel
theorem dX3_rest_17 : decode cX3_rest 17 = .ok (.iload_n 1, 1) := by decide +kernel
theorem dX3_rest_18 : decode cX3_rest 18 = .ok (.invokevirtual 160, 3) := by decide +kernel
theorem dX3_rest_21 : decode cX3_rest 21 = .ok (.ireturn, 1) := by decide +kernel
theorem dX3_lose_0 : decode cX3_lose 0 = .ok (.iload_n 1, 1) := by decide +kernel
theorem dX3_lose_1 : decode cX3_lose 1 = .ok (.ifCond .eq 11, 3) := by decide +kernel
theorem dX3_lose_4 : decode cX3_lose 4 = .ok (.iload_n 1, 1) := by decide +kernel
theorem dX3_lose_5 : decode cX3_lose 5 = .ok (.iconst 1, 1) := by decide +kernel
theorem dX3_lose_6 : decode cX3_lose 6 = .ok (.if_icmp .eq 6, 3) := by decide +kernel
theorem dX3_lose_9 : decode cX3_lose 9 = .ok (.bipush (-2), 2) := by decide +kernel
theorem dX3_lose_11 : decode cX3_lose 11 = .ok (.ireturn, 1) := by decide +kernel
theorem dX3_lose_12 : decode cX3_lose 12 = .ok (.aload_n 0, 1) := by decide +kernel
theorem dX3_lose_13 : decode cX3_lose 13 = .ok (.invokevirtual 154, 3) := by decide +kernel
theorem dX3_lose_16 : decode cX3_lose 16 = .ok (.aload_n 0, 1) := by decide +kernel
theorem dX3_lose_17 : decode cX3_lose 17 = .ok (.invokevirtual 157, 3) := by decide +kernel
theorem dX3_lose_20 : decode cX3_lose 20 = .ok (.iconst 0, 1) := by decide +kernel
theorem dX3_lose_21 : decode cX3_lose 21 = .ok (.istore_n 2, 1) := by decide +kernel
theorem dX3_lose_22 : decode cX3_lose 22 = .ok (.iconst 0, 1) := by decide +kernel
theorem dX3_lose_23 : decode cX3_lose 23 = .ok (.istore_n 3, 1) := by decide +kernel
theorem dX3_lose_24 : decode cX3_lose 24 = .ok (.iload_n 3, 1) := by decide +kernel
theorem dX3_lose_25 : decode cX3_lose 25 = .ok (.aload_n 0, 1) := by decide +kernel
theorem dX3_lose_26 : decode cX3_lose 26 = .ok (.getfield 7, 3) := by decide +kernel
theorem dX3_lose_29 : decode cX3_lose 29 = .ok (.iconst 0, 1) := by decide +kernel
theorem dX3_lose_30 : decode cX3_lose 30 = .ok (.iaload, 1) := by decide +kernel
theorem dX3_lose_31 : decode cX3_lose 31 = .ok (.if_icmp .ge 67, 3) := by decide +kernel
theorem dX3_lose_34 : decode cX3_lose 34 = .ok (.iconst 0, 1) := by decide +kernel
theorem dX3_lose_35 : decode cX3_lose 35 = .ok (.istore 4, 2) := by decide +kernel
theorem dX3_lose_37 : decode cX3_lose 37 = .ok (.iload 4, 2) := by decide +kernel
theorem dX3_lose_39 : decode cX3_lose 39 = .ok (.aload_n 0, 1) := by decide +kernel
theorem dX3_lose_40 : decode cX3_lose 40 = .ok (.getfield 7, 3) := by decide +kernel
theorem dX3_lose_43 : decode cX3_lose 43 = .ok (.iconst 1, 1) := by decide +kernel
theorem dX3_lose_44 : decode cX3_lose 44 = .ok (.iaload, 1) := by decide +kernel
theorem dX3_lose_45 : decode cX3_lose 45 = .ok (.if_icmp .ge 47, 3) := by decide +kernel
theorem dX3_lose_48 : decode cX3_lose 48 = .ok (.iload_n 1, 1) := by decide +kernel
theorem dX3_lose_49 : decode cX3_lose 49 = .ok (.ifCond .ne 16, 3) := by decide +kernel
theorem dX3_lose_52 : decode cX3_lose 52 = .ok (.aload_n 0, 1) := by decide +kernel
theorem dX3_lose_53 : decode cX3_lose 53 = .ok (.iload_n 3, 1) := by decide +kernel
theorem dX3_lose_54 : decode cX3_lose 54 = .ok (.iload 4, 2) := by decide +kernel
theorem dX3_lose_56 : decode cX3_lose 56 = .ok (.invokevirtual 163, 3) := by decide +kernel
theorem dX3_lose_59 : decode cX3_lose 59 = .ok (.ifCond .eq 27, 3) := by decide +kernel
theorem dX3_lose_62 : decode cX3_lose 62 = .ok (.goto 21, 3) := by decide +kernel
theorem dX3_lose_65 : decode cX3_lose 65 = .ok (.aload_n 0, 1) := by decide +kernel
theorem dX3_lose_66 : decode cX3_lose 66 = .ok (.getfield 35, 3) := by decide +kernel
theorem dX3_lose_69 : decode cX3_lose 69 = .ok (.iconst 0, 1) := by decide +kernel
theorem dX3_lose_70 : decode cX3_lose 70 = .ok (.aaload, 1) := by decide +kernel
theorem dX3_lose_71 : decode cX3_lose 71 = .ok (.iload_n 3, 1) := by decide +kernel
theorem dX3_lose_72 : decode cX3_lose 72 = .ok (.iload 4, 2) := by decide +kernel
theorem dX3_lose_74 : decode cX3_lose 74 = .ok (.invokestatic 166, 3) := by decide +kernel
theorem dX3_lose_77 : decode cX3_lose 77 = .ok (.iaload, 1) := by decide +kernel
theorem dX3_lose_78 : decode cX3_lose 78 = .ok (.bipush (-5), 2) := by decide +kernel
theorem dX3_lose_80 : decode cX3_lose 80 = .ok (.if_icmp .ne 6, 3) := by decide +kernel
theorem dX3_lose_83 : decode cX3_lose 83 = .ok (.iinc 2 1, 3) := by decide +kernel
theorem dX3_lose_86 : decode cX3_lose 86 = .ok (.iinc 4 1, 3) := by decide +kernel
theorem dX3_lose_89 : decode cX3_lose 89 = .ok (.goto (-52), 3) := by decide +kernel
theorem dX3_lose_92 : decode cX3_lose 92 = .ok (.iinc 3 1, 3) := by decide +kernel
theorem dX3_lose_95 : decode cX3_lose 95 = .ok (.goto (-71), 3) := by decide +kernel
theorem dX3_lose_98 : decode cX3_lose 98 = .ok (.iload_n 2, 1) := by decide +kernel
theorem dX3_lose_99 : decode cX3_lose 99 = .ok (.ireturn, 1) := by decide +kernel
theorem dX3_weight_0 : decode cX3_weight 0 = .ok (.aload_n 0, 1) := by decide +kernel
theorem dX3_weight_1 : decode cX3_weight 1 = .ok (.iload_n 1, 1) := by decide +kernel
theorem dX3_weight_2 : decode cX3_weight 2 = .ok (.iload_n 2, 1) := by decide +kernel
theorem dX3_weight_3 : decode cX3_weight 3 = .ok (.invokevirtual 85, 3) := by decide +kernel
theorem dX3_weight_6 : decode cX3_weight 6 = .ok (.ifCond .eq 13, 3) := by decide +kernel
theorem dX3_weight_9 : decode cX3_weight 9 = .ok (.iload_n 3, 1) := by decide +kernel
theorem dX3_weight_10 : decode cX3_weight 10 = .ok (.ifCond .lt 9, 3) := by decide +kernel
theorem dX3_weight_13 : decode cX3_weight 13 = .ok (.iload_n 3, 1) := by decide +kernel
theorem dX3_weight_14 : decode cX3_weight 14 = .ok (.bipush 9, 2) := by decide +kernel
theorem dX3_weight_16 : decode cX3_weight 16 = .ok (.if_icmp .le 6, 3) := by decide +kernel
theorem dX3_weight_19 : decode cX3_weight 19 = .ok (.bipush (-2), 2) := by decide +kernel
theorem dX3_weight_21 : decode cX3_weight 21 = .ok (.ireturn, 1) := by decide +kernel
theorem dX3_weight_22 : decode cX3_weight 22 = .ok (.aload_n 0, 1) := by decide +kernel
theorem dX3_weight_23 : decode cX3_weight 23 = .ok (.iload_n 1, 1) := by decide +kernel
theorem dX3_weight_24 : decode cX3_weight 24 = .ok (.iload_n 2, 1) := by decide +kernel
theorem dX3_weight_25 : decode cX3_weight 25 = .ok (.invokevirtual 77, 3) := by decide +kernel
theorem dX3_weight_28 : decode cX3_weight 28 = .ok (.astore 4, 2) := by decide +kernel
theorem dX3_weight_30 : decode cX3_weight 30 = .ok (.aload 4, 2) := by decide +kernel
theorem dX3_weight_32 : decode cX3_weight 32 = .ok (.getfield 169, 3) := by decide +kernel
theorem dX3_weight_35 : decode cX3_weight 35 = .ok (.istore 5, 2) := by decide +kernel
theorem dX3_weight_37 : decode cX3_weight 37 = .ok (.aload 4, 2) := by decide +kernel
theorem dX3_weight_39 : decode cX3_weight 39 = .ok (.iload_n 3, 1) := by decide +kernel
theorem dX3_weight_40 : decode cX3_weight 40 = .ok (.putfield 169, 3) := by decide +kernel
theorem dX3_weight_43 : decode cX3_weight 43 = .ok (.iload 5, 2) := by decide +kernel
theorem dX3_weight_45 : decode cX3_weight 45 = .ok (.ireturn, 1) := by decide +kernel
theorem dX3_thought_0 : decode cX3_thought 0 = .ok (.iload_n 1, 1) := by decide +kernel
theorem dX3_thought_1 : decode cX3_thought 1 = .ok (.invokestatic 73, 3) := by decide +kernel
theorem dX3_thought_4 : decode cX3_thought 4 = .ok (.ifCond .ne 6, 3) := by decide +kernel
theorem dX3_thought_7 : decode cX3_thought 7 = .ok (.bipush (-2), 2) := by decide +kernel
theorem dX3_thought_9 : decode cX3_thought 9 = .ok (.ireturn, 1) := by decide +kernel
theorem dX3_thought_10 : decode cX3_thought 10 = .ok (.aload_n 0, 1) := by decide +kernel
theorem dX3_thought_11 : decode cX3_thought 11 = .ok (.iconst 1, 1) := by decide +kernel
theorem dX3_thought_12 : decode cX3_thought 12 = .ok (.iload_n 1, 1) := by decide +kernel
theorem dX3_thought_13 : decode cX3_thought 13 = .ok (.isub, 1) := by decide +kernel
theorem dX3_thought_14 : decode cX3_thought 14 = .ok (.invokevirtual 172, 3) := by decide +kernel
theorem dX3_thought_17 : decode cX3_thought 17 = .ok (.istore_n 2, 1) := by decide +kernel
theorem dX3_thought_18 : decode cX3_thought 18 = .ok (.iload_n 2, 1) := by decide +kernel
theorem dX3_thought_19 : decode cX3_thought 19 = .ok (.iconst 1, 1) := by decide +kernel
theorem dX3_thought_20 : decode cX3_thought 20 = .ok (.if_icmp .ge 6, 3) := by decide +kernel
theorem dX3_thought_23 : decode cX3_thought 23 = .ok (.bipush (-3), 2) := by decide +kernel
theorem dX3_thought_25 : decode cX3_thought 25 = .ok (.ireturn, 1) := by decide +kernel
theorem dX3_thought_26 : decode cX3_thought 26 = .ok (.aload_n 0, 1) := by decide +kernel
theorem dX3_thought_27 : decode cX3_thought 27 = .ok (.invokevirtual 154, 3) := by decide +kernel
theorem dX3_thought_30 : decode cX3_thought 30 = .ok (.aload_n 0, 1) := by decide +kernel
theorem dX3_thought_31 : decode cX3_thought 31 = .ok (.invokevirtual 157, 3) := by decide +kernel
theorem dX3_thought_34 : decode cX3_thought 34 = .ok (.iconst 0, 1) := by decide +kernel
theorem dX3_thought_35 : decode cX3_thought 35 = .ok (.istore_n 3, 1) := by decide +kernel
theorem dX3_thought_36 : decode cX3_thought 36 = .ok (.aload_n 0, 1) := by decide +kernel
theorem dX3_thought_37 : decode cX3_thought 37 = .ok (.iload_n 1, 1) := by decide +kernel
theorem dX3_thought_38 : decode cX3_thought 38 = .ok (.iconst 0, 1) := by decide +kernel
theorem dX3_thought_39 : decode cX3_thought 39 = .ok (.invokevirtual 175, 3) := by decide +kernel
theorem dX3_thought_42 : decode cX3_thought 42 = .ok (.lstore 4, 2) := by decide +kernel
theorem dX3_thought_44 : decode cX3_thought 44 = .ok (.iconst 1, 1) := by decide +kernel
theorem dX3_thought_45 : decode cX3_thought 45 = .ok (.istore 6, 2) := by decide +kernel
theorem dX3_thought_47 : decode cX3_thought 47 = .ok (.iload 6, 2) := by decide +kernel
theorem dX3_thought_49 : decode cX3_thought 49 = .ok (.aload_n 0, 1) := by decide +kernel
theorem dX3_thought_50 : decode cX3_thought 50 = .ok (.getfield 7, 3) := by decide +kernel
theorem dX3_thought_53 : decode cX3_thought 53 = .ok (.iload_n 1, 1) := by decide +kernel
theorem dX3_thought_54 : decode cX3_thought 54 = .ok (.iaload, 1) := by decide +kernel
theorem dX3_thought_55 : decode cX3_thought 55 = .ok (.if_icmp .ge 33, 3) := by decide +kernel
theorem dX3_thought_58 : decode cX3_thought 58 = .ok (.aload_n 0, 1) := by decide +kernel
theorem dX3_thought_59 : decode cX3_thought 59 = .ok (.iload_n 1, 1) := by decide +kernel
theorem dX3_thought_60 : decode cX3_thought 60 = .ok (.iload 6, 2) := by decide +kernel
theorem dX3_thought_62 : decode cX3_thought 62 = .ok (.invokevirtual 175, 3) := by decide +kernel
theorem dX3_thought_65 : decode cX3_thought 65 = .ok (.lstore 7, 2) := by decide +kernel
theorem dX3_thought_67 : decode cX3_thought 67 = .ok (.lload 7, 2) := by decide +kernel
theorem dX3_thought_69 : decode cX3_thought 69 = .ok (.lload 4, 2) := by decide +kernel
theorem dX3_thought_71 : decode cX3_thought 71 = .ok (.lcmp, 1) := by decide +kernel
theorem dX3_thought_72 : decode cX3_thought 72 = .ok (.ifCond .le 10, 3) := by decide +kernel
theorem dX3_thought_75 : decode cX3_thought 75 = .ok (.lload 7, 2) := by decide +kernel
theorem dX3_thought_77 : decode cX3_thought 77 = .ok (.lstore 4, 2) := by decide +kernel
theorem dX3_thought_79 : decode cX3_thought 79 = .ok (.iload 6, 2) := by decide +kernel
theorem dX3_thought_81 : decode cX3_thought 81 = .ok (.istore_n 3, 1) := by decide +kernel
theorem dX3_thought_82 : decode cX3_thought 82 = .ok (.iinc 6 1, 3) := by decide +kernel
theorem dX3_thought_85 : decode cX3_thought 85 = .ok (.goto (-38), 3) := by decide +kernel
theorem dX3_thought_88 : decode cX3_thought 88 = .ok (.aload_n 0, 1) := by decide +kernel
theorem dX3_thought_89 : decode cX3_thought 89 = .ok (.lload 4, 2) := by decide +kernel
theorem dX3_thought_91 : decode cX3_thought 91 = .ok (.aload_n 0, 1) := by decide +kernel
theorem dX3_thought_92 : decode cX3_thought 92 = .ok (.invokevirtual 142, 3) := by decide +kernel
theorem dX3_thought_95 : decode cX3_thought 95 = .ok (.iload_n 2, 1) := by decide +kernel
theorem dX3_thought_96 : decode cX3_thought 96 = .ok (.imul, 1) := by decide +kernel
theorem dX3_thought_97 : decode cX3_thought 97 = .ok (.i2l, 1) := by decide +kernel
theorem dX3_thought_98 : decode cX3_thought 98 = .ok (.invokevirtual 146, 3) := by decide +kernel
theorem dX3_thought_101 : decode cX3_thought 101 = .ok (.iload_n 3, 1) := by decide +kernel
theorem dX3_thought_102 : decode cX3_thought 102 = .ok (.ireturn, 1) := by decide +kernel
theorem dX3_paid_0 : decode cX3_paid 0 = .ok (.aload_n 0, 1) := by decide +kernel
theorem dX3_paid_1 : decode cX3_paid 1 = .ok (.iload_n 1, 1) := by decide +kernel
theorem dX3_paid_2 : decode cX3_paid 2 = .ok (.iload_n 2, 1) := by decide +kernel
theorem dX3_paid_3 : decode cX3_paid 3 = .ok (.invokevirtual 85, 3) := by decide +kernel
theorem dX3_paid_6 : decode cX3_paid 6 = .ok (.ifCond .eq 18, 3) := by decide +kernel
theorem dX3_paid_9 : decode cX3_paid 9 = .ok (.iload_n 2, 1) := by decide +kernel
theorem dX3_paid_10 : decode cX3_paid 10 = .ok (.ifCond .eq 14, 3) := by decide +kernel
theorem dX3_paid_13 : decode cX3_paid 13 = .ok (.aload_n 0, 1) := by decide +kernel
theorem dX3_paid_14 : decode cX3_paid 14 = .ok (.iconst 1, 1) := by decide +kernel
theorem dX3_paid_15 : decode cX3_paid 15 = .ok (.iload_n 1, 1) := by decide +kernel
theorem dX3_paid_16 : decode cX3_paid 16 = .ok (.isub, 1) := by decide +kernel
theorem dX3_paid_17 : decode cX3_paid 17 = .ok (.iload_n 3, 1) := by decide +kernel
theorem dX3_paid_18 : decode cX3_paid 18 = .ok (.invokevirtual 85, 3) := by decide +kernel
theorem dX3_paid_21 : decode cX3_paid 21 = .ok (.ifCond .ne 6, 3) := by decide +kernel
theorem dX3_paid_24 : decode cX3_paid 24 = .ok (.bipush (-2), 2) := by decide +kernel
theorem dX3_paid_26 : decode cX3_paid 26 = .ok (.ireturn, 1) := by decide +kernel
theorem dX3_paid_27 : decode cX3_paid 27 = .ok (.aload_n 0, 1) := by decide +kernel
theorem dX3_paid_28 : decode cX3_paid 28 = .ok (.iload_n 1, 1) := by decide +kernel
theorem dX3_paid_29 : decode cX3_paid 29 = .ok (.iload_n 2, 1) := by decide +kernel
theorem dX3_paid_30 : decode cX3_paid 30 = .ok (.invokevirtual 77, 3) := by decide +kernel
theorem dX3_paid_33 : decode cX3_paid 33 = .ok (.getfield 70, 3) := by decide +kernel
theorem dX3_paid_36 : decode cX3_paid 36 = .ok (.astore 4, 2) := by decide +kernel
theorem dX3_paid_38 : decode cX3_paid 38 = .ok (.aload 4, 2) := by decide +kernel
theorem dX3_paid_40 : decode cX3_paid 40 = .ok (.bipush 6, 2) := by decide +kernel
theorem dX3_paid_42 : decode cX3_paid 42 = .ok (.iaload, 1) := by decide +kernel
theorem dX3_paid_43 : decode cX3_paid 43 = .ok (.istore 5, 2) := by decide +kernel
theorem dX3_paid_45 : decode cX3_paid 45 = .ok (.aload 4, 2) := by decide +kernel
theorem dX3_paid_47 : decode cX3_paid 47 = .ok (.bipush 7, 2) := by decide +kernel
theorem dX3_paid_49 : decode cX3_paid 49 = .ok (.iaload, 1) := by decide +kernel
theorem dX3_paid_50 : decode cX3_paid 50 = .ok (.istore 6, 2) := by decide +kernel
theorem dX3_paid_52 : decode cX3_paid 52 = .ok (.iconst (-1), 1) := by decide +kernel
theorem dX3_paid_53 : decode cX3_paid 53 = .ok (.istore 7, 2) := by decide +kernel
theorem dX3_paid_55 : decode cX3_paid 55 = .ok (.lconst 0, 1) := by decide +kernel
theorem dX3_paid_56 : decode cX3_paid 56 = .ok (.lstore 8, 2) := by decide +kernel
theorem dX3_paid_58 : decode cX3_paid 58 = .ok (.iconst 0, 1) := by decide +kernel
theorem dX3_paid_59 : decode cX3_paid 59 = .ok (.istore 10, 2) := by decide +kernel
theorem dX3_paid_61 : decode cX3_paid 61 = .ok (.iload 10, 2) := by decide +kernel
theorem dX3_paid_63 : decode cX3_paid 63 = .ok (.aload_n 0, 1) := by decide +kernel
theorem dX3_paid_64 : decode cX3_paid 64 = .ok (.getfield 43, 3) := by decide +kernel
theorem dX3_paid_67 : decode cX3_paid 67 = .ok (.if_icmp .gt 76, 3) := by decide +kernel
theorem dX3_paid_70 : decode cX3_paid 70 = .ok (.iconst 0, 1) := by decide +kernel
theorem dX3_paid_71 : decode cX3_paid 71 = .ok (.istore 11, 2) := by decide +kernel
theorem dX3_paid_73 : decode cX3_paid 73 = .ok (.iload 11, 2) := by decide +kernel
theorem dX3_paid_75 : decode cX3_paid 75 = .ok (.bipush 20, 2) := by decide +kernel
theorem dX3_paid_77 : decode cX3_paid 77 = .ok (.if_icmp .gt 60, 3) := by decide +kernel
theorem dX3_paid_80 : decode cX3_paid 80 = .ok (.aload 4, 2) := by decide +kernel
theorem dX3_paid_82 : decode cX3_paid 82 = .ok (.bipush 6, 2) := by decide +kernel
theorem dX3_paid_84 : decode cX3_paid 84 = .ok (.iload 10, 2) := by decide +kernel
theorem dX3_paid_86 : decode cX3_paid 86 = .ok (.iastore, 1) := by decide +kernel
theorem dX3_paid_87 : decode cX3_paid 87 = .ok (.aload 4, 2) := by decide +kernel
theorem dX3_paid_89 : decode cX3_paid 89 = .ok (.bipush 7, 2) := by decide +kernel
theorem dX3_paid_91 : decode cX3_paid 91 = .ok (.iload 11, 2) := by decide +kernel
theorem dX3_paid_93 : decode cX3_paid 93 = .ok (.iastore, 1) := by decide +kernel
theorem dX3_paid_94 : decode cX3_paid 94 = .ok (.aload_n 0, 1) := by decide +kernel
theorem dX3_paid_95 : decode cX3_paid 95 = .ok (.iload_n 1, 1) := by decide +kernel
theorem dX3_paid_96 : decode cX3_paid 96 = .ok (.iload_n 2, 1) := by decide +kernel
theorem dX3_paid_97 : decode cX3_paid 97 = .ok (.iload_n 3, 1) := by decide +kernel
theorem dX3_paid_98 : decode cX3_paid 98 = .ok (.invokevirtual 150, 3) := by decide +kernel
theorem dX3_paid_101 : decode cX3_paid 101 = .ok (.lstore 12, 2) := by decide +kernel
theorem dX3_paid_103 : decode cX3_paid 103 = .ok (.iload 7, 2) := by decide +kernel
theorem dX3_paid_105 : decode cX3_paid 105 = .ok (.iconst (-1), 1) := by decide +kernel
theorem dX3_paid_106 : decode cX3_paid 106 = .ok (.if_icmp .eq 11, 3) := by decide +kernel
theorem dX3_paid_109 : decode cX3_paid 109 = .ok (.lload 12, 2) := by decide +kernel
theorem dX3_paid_111 : decode cX3_paid 111 = .ok (.lload 8, 2) := by decide +kernel
theorem dX3_paid_113 : decode cX3_paid 113 = .ok (.lcmp, 1) := by decide +kernel
theorem dX3_paid_114 : decode cX3_paid 114 = .ok (.ifCond .le 17, 3) := by decide +kernel
theorem dX3_paid_117 : decode cX3_paid 117 = .ok (.lload 12, 2) := by decide +kernel
theorem dX3_paid_119 : decode cX3_paid 119 = .ok (.lstore 8, 2) := by decide +kernel
theorem dX3_paid_121 : decode cX3_paid 121 = .ok (.bipush 100, 2) := by decide +kernel
theorem dX3_paid_123 : decode cX3_paid 123 = .ok (.iload 10, 2) := by decide +kernel
theorem dX3_paid_125 : decode cX3_paid 125 = .ok (.imul, 1) := by decide +kernel
theorem dX3_paid_126 : decode cX3_paid 126 = .ok (.iload 11, 2) := by decide +kernel
theorem dX3_paid_128 : decode cX3_paid 128 = .ok (.iadd, 1) := by decide +kernel
theorem dX3_paid_129 : decode cX3_paid 129 = .ok (.istore 7, 2) := by decide +kernel
theorem dX3_paid_131 : decode cX3_paid 131 = .ok (.iinc 11 1, 3) := by decide +kernel
theorem dX3_paid_134 : decode cX3_paid 134 = .ok (.goto (-61), 3) := by decide +kernel
theorem dX3_paid_137 : decode cX3_paid 137 = .ok (.iinc 10 1, 3) := by decide +kernel
theorem dX3_paid_140 : decode cX3_paid 140 = .ok (.goto (-79), 3) := by decide +kernel
theorem dX3_paid_143 : decode cX3_paid 143 = .ok (.aload 4, 2) := by decide +kernel
theorem dX3_paid_145 : decode cX3_paid 145 = .ok (.bipush 6, 2) := by decide +kernel
theorem dX3_paid_147 : decode cX3_paid 147 = .ok (.iload 5, 2) := by decide +kernel
theorem dX3_paid_149 : decode cX3_paid 149 = .ok (.iastore, 1) := by decide +kernel
theorem dX3_paid_150 : decode cX3_paid 150 = .ok (.aload 4, 2) := by decide +kernel
theorem dX3_paid_152 : decode cX3_paid 152 = .ok (.bipush 7, 2) := by decide +kernel
theorem dX3_paid_154 : decode cX3_paid 154 = .ok (.iload 6, 2) := by decide +kernel
theorem dX3_paid_156 : decode cX3_paid 156 = .ok (.iastore, 1) := by decide +kernel
theorem dX3_paid_157 : decode cX3_paid 157 = .ok (.iload 7, 2) := by decide +kernel
theorem dX3_paid_159 : decode cX3_paid 159 = .ok (.ireturn, 1) := by decide +kernel
theorem dX3_hard_0 : decode cX3_hard 0 = .ok (.aload_n 0, 1) := by decide +kernel
theorem dX3_hard_1 : decode cX3_hard 1 = .ok (.iload_n 1, 1) := by decide +kernel
theorem dX3_hard_2 : decode cX3_hard 2 = .ok (.iload_n 2, 1) := by decide +kernel
theorem dX3_hard_3 : decode cX3_hard 3 = .ok (.invokevirtual 85, 3) := by decide +kernel
theorem dX3_hard_6 : decode cX3_hard 6 = .ok (.ifCond .eq 14, 3) := by decide +kernel
theorem dX3_hard_9 : decode cX3_hard 9 = .ok (.aload_n 0, 1) := by decide +kernel
theorem dX3_hard_10 : decode cX3_hard 10 = .ok (.iconst 1, 1) := by decide +kernel
theorem dX3_hard_11 : decode cX3_hard 11 = .ok (.iload_n 1, 1) := by decide +kernel
theorem dX3_hard_12 : decode cX3_hard 12 = .ok (.isub, 1) := by decide +kernel
theorem dX3_hard_13 : decode cX3_hard 13 = .ok (.iload_n 3, 1) := by decide +kernel
theorem dX3_hard_14 : decode cX3_hard 14 = .ok (.invokevirtual 85, 3) := by decide +kernel
theorem dX3_hard_17 : decode cX3_hard 17 = .ok (.ifCond .ne 6, 3) := by decide +kernel
theorem dX3_hard_20 : decode cX3_hard 20 = .ok (.bipush (-2), 2) := by decide +kernel
theorem dX3_hard_22 : decode cX3_hard 22 = .ok (.ireturn, 1) := by decide +kernel
theorem dX3_hard_23 : decode cX3_hard 23 = .ok (.aload_n 0, 1) := by decide +kernel
theorem dX3_hard_24 : decode cX3_hard 24 = .ok (.iload_n 1, 1) := by decide +kernel
theorem dX3_hard_25 : decode cX3_hard 25 = .ok (.iload_n 2, 1) := by decide +kernel
theorem dX3_hard_26 : decode cX3_hard 26 = .ok (.invokevirtual 77, 3) := by decide +kernel
theorem dX3_hard_29 : decode cX3_hard 29 = .ok (.getfield 70, 3) := by decide +kernel
theorem dX3_hard_32 : decode cX3_hard 32 = .ok (.astore 4, 2) := by decide +kernel
theorem dX3_hard_34 : decode cX3_hard 34 = .ok (.aload 4, 2) := by decide +kernel
theorem dX3_hard_36 : decode cX3_hard 36 = .ok (.iconst 5, 1) := by decide +kernel
theorem dX3_hard_37 : decode cX3_hard 37 = .ok (.iaload, 1) := by decide +kernel
theorem dX3_hard_38 : decode cX3_hard 38 = .ok (.istore 5, 2) := by decide +kernel
theorem dX3_hard_40 : decode cX3_hard 40 = .ok (.iconst (-1), 1) := by decide +kernel
theorem dX3_hard_41 : decode cX3_hard 41 = .ok (.istore 6, 2) := by decide +kernel
theorem dX3_hard_43 : decode cX3_hard 43 = .ok (.aload_n 0, 1) := by decide +kernel
theorem dX3_hard_44 : decode cX3_hard 44 = .ok (.getfield 43, 3) := by decide +kernel
theorem dX3_hard_47 : decode cX3_hard 47 = .ok (.istore 7, 2) := by decide +kernel
theorem dX3_hard_49 : decode cX3_hard 49 = .ok (.iload 7, 2) := by decide +kernel
theorem dX3_hard_51 : decode cX3_hard 51 = .ok (.ifCond .lt 52, 3) := by decide +kernel
theorem dX3_hard_54 : decode cX3_hard 54 = .ok (.iload 6, 2) := by decide +kernel
theorem dX3_hard_56 : decode cX3_hard 56 = .ok (.iconst (-1), 1) := by decide +kernel
theorem dX3_hard_57 : decode cX3_hard 57 = .ok (.if_icmp .ne 46, 3) := by decide +kernel
theorem dX3_hard_60 : decode cX3_hard 60 = .ok (.aload 4, 2) := by decide +kernel
theorem dX3_hard_62 : decode cX3_hard 62 = .ok (.iconst 5, 1) := by decide +kernel
theorem dX3_hard_63 : decode cX3_hard 63 = .ok (.iload 7, 2) := by decide +kernel
theorem dX3_hard_65 : decode cX3_hard 65 = .ok (.iastore, 1) := by decide +kernel
theorem dX3_hard_66 : decode cX3_hard 66 = .ok (.aload_n 0, 1) := by decide +kernel
theorem dX3_hard_67 : decode cX3_hard 67 = .ok (.iload_n 1, 1) := by decide +kernel
theorem dX3_hard_68 : decode cX3_hard 68 = .ok (.ifCond .ne 7, 3) := by decide +kernel
theorem dX3_hard_71 : decode cX3_hard 71 = .ok (.iload_n 2, 1) := by decide +kernel
theorem dX3_hard_72 : decode cX3_hard 72 = .ok (.goto 4, 3) := by decide +kernel
theorem dX3_hard_75 : decode cX3_hard 75 = .ok (.iload_n 3, 1) := by decide +kernel
theorem dX3_hard_76 : decode cX3_hard 76 = .ok (.iload_n 1, 1) := by decide +kernel
theorem dX3_hard_77 : decode cX3_hard 77 = .ok (.ifCond .ne 7, 3) := by decide +kernel
theorem dX3_hard_80 : decode cX3_hard 80 = .ok (.iload_n 3, 1) := by decide +kernel
theorem dX3_hard_81 : decode cX3_hard 81 = .ok (.goto 4, 3) := by decide +kernel
theorem dX3_hard_84 : decode cX3_hard 84 = .ok (.iload_n 2, 1) := by decide +kernel
theorem dX3_hard_85 : decode cX3_hard 85 = .ok (.invokevirtual 132, 3) := by decide +kernel
theorem dX3_hard_88 : decode cX3_hard 88 = .ok (.bipush (-5), 2) := by decide +kernel
theorem dX3_hard_90 : decode cX3_hard 90 = .ok (.if_icmp .eq 7, 3) := by decide +kernel
theorem dX3_hard_93 : decode cX3_hard 93 = .ok (.iload 7, 2) := by decide +kernel
theorem dX3_hard_95 : decode cX3_hard 95 = .ok (.istore 6, 2) := by decide +kernel
theorem dX3_hard_97 : decode cX3_hard 97 = .ok (.iinc 7 (-1), 3) := by decide +kernel
theorem dX3_hard_100 : decode cX3_hard 100 = .ok (.goto (-51), 3) := by decide +kernel
theorem dX3_hard_103 : decode cX3_hard 103 = .ok (.aload 4, 2) := by decide +kernel
theorem dX3_hard_105 : decode cX3_hard 105 = .ok (.iconst 5, 1) := by decide +kernel
theorem dX3_hard_106 : decode cX3_hard 106 = .ok (.iload 5, 2) := by decide +kernel
theorem dX3_hard_108 : decode cX3_hard 108 = .ok (.iastore, 1) := by decide +kernel
theorem dX3_hard_109 : decode cX3_hard 109 = .ok (.iload 6, 2) := by decide +kernel
theorem dX3_hard_111 : decode cX3_hard 111 = .ok (.ireturn, 1) := by decide +kernel
theorem dX3_committee_0 : decode cX3_committee 0 = .ok (.iload_n 1, 1) := by decide +kernel
theorem dX3_committee_1 : decode cX3_committee 1 = .ok (.iconst 1, 1) := by decide +kernel
theorem dX3_committee_2 : decode cX3_committee 2 = .ok (.if_icmp .lt 37, 3) := by decide +kernel
theorem dX3_committee_5 : decode cX3_committee 5 = .ok (.iload_n 1, 1) := by decide +kernel
theorem dX3_committee_6 : decode cX3_committee 6 = .ok (.iconst 1, 1) := by decide +kernel
theorem dX3_committee_7 : decode cX3_committee 7 = .ok (.aload_n 0, 1) := by decide +kernel
theorem dX3_committee_8 : decode cX3_committee 8 = .ok (.getfield 7, 3) := by decide +kernel
theorem dX3_committee_11 : decode cX3_committee 11 = .ok (.iconst 0, 1) := by decide +kernel
theorem dX3_committee_12 : decode cX3_committee 12 = .ok (.iaload, 1) := by decide +kernel
theorem dX3_committee_13 : decode cX3_committee 13 = .ok (.ishl, 1) := by decide +kernel
theorem dX3_committee_14 : decode cX3_committee 14 = .ok (.if_icmp .ge 25, 3) := by decide +kernel
theorem dX3_committee_17 : decode cX3_committee 17 = .ok (.iload_n 2, 1) := by decide +kernel
theorem dX3_committee_18 : decode cX3_committee 18 = .ok (.iconst 1, 1) := by decide +kernel
theorem dX3_committee_19 : decode cX3_committee 19 = .ok (.if_icmp .lt 20, 3) := by decide +kernel
theorem dX3_committee_22 : decode cX3_committee 22 = .ok (.iload_n 2, 1) := by decide +kernel
theorem dX3_committee_23 : decode cX3_committee 23 = .ok (.iload_n 1, 1) := by decide +kernel
theorem dX3_committee_24 : decode cX3_committee 24 = .ok (.invokestatic 178, 3) := by decide +kernel
theorem dX3_committee_27 : decode cX3_committee 27 = .ok (.if_icmp .gt 12, 3) := by decide +kernel
theorem dX3_committee_30 : decode cX3_committee 30 = .ok (.aload_n 0, 1) := by decide +kernel
theorem dX3_committee_31 : decode cX3_committee 31 = .ok (.iconst 1, 1) := by decide +kernel
theorem dX3_committee_32 : decode cX3_committee 32 = .ok (.iload_n 3, 1) := by decide +kernel
theorem dX3_committee_33 : decode cX3_committee 33 = .ok (.invokevirtual 85, 3) := by decide +kernel
theorem dX3_committee_36 : decode cX3_committee 36 = .ok (.ifCond .ne 6, 3) := by decide +kernel
theorem dX3_committee_39 : decode cX3_committee 39 = .ok (.bipush (-2), 2) := by decide +kernel
theorem dX3_committee_41 : decode cX3_committee 41 = .ok (.ireturn, 1) := by decide +kernel
theorem dX3_committee_42 : decode cX3_committee 42 = .ok (.aload_n 0, 1) := by decide +kernel
theorem dX3_committee_43 : decode cX3_committee 43 = .ok (.getfield 29, 3) := by decide +kernel
theorem dX3_committee_46 : decode cX3_committee 46 = .ok (.aload_n 0, 1) := by decide +kernel
theorem dX3_committee_47 : decode cX3_committee 47 = .ok (.getfield 43, 3) := by decide +kernel
theorem dX3_committee_50 : decode cX3_committee 50 = .ok (.aload_n 0, 1) := by decide +kernel
theorem dX3_committee_51 : decode cX3_committee 51 = .ok (.iconst 0, 1) := by decide +kernel
theorem dX3_committee_52 : decode cX3_committee 52 = .ok (.iconst 0, 1) := by decide +kernel
theorem dX3_committee_53 : decode cX3_committee 53 = .ok (.invokevirtual 77, 3) := by decide +kernel
theorem dX3_committee_56 : decode cX3_committee 56 = .ok (.aload_n 0, 1) := by decide +kernel
theorem dX3_committee_57 : decode cX3_committee 57 = .ok (.iconst 1, 1) := by decide +kernel
theorem dX3_committee_58 : decode cX3_committee 58 = .ok (.iload_n 3, 1) := by decide +kernel
theorem dX3_committee_59 : decode cX3_committee 59 = .ok (.invokevirtual 77, 3) := by decide +kernel
theorem dX3_committee_62 : decode cX3_committee 62 = .ok (.invokevirtual 183, 3) := by decide +kernel
theorem dX3_committee_65 : decode cX3_committee 65 = .ok (.iconst 0, 1) := by decide +kernel
theorem dX3_committee_66 : decode cX3_committee 66 = .ok (.istore 4, 2) := by decide +kernel
theorem dX3_committee_68 : decode cX3_committee 68 = .ok (.iload 4, 2) := by decide +kernel
theorem dX3_committee_70 : decode cX3_committee 70 = .ok (.aload_n 0, 1) := by decide +kernel
theorem dX3_committee_71 : decode cX3_committee 71 = .ok (.getfield 43, 3) := by decide +kernel
theorem dX3_committee_74 : decode cX3_committee 74 = .ok (.if_icmp .gt 70, 3) := by decide +kernel
theorem dX3_committee_77 : decode cX3_committee 77 = .ok (.aload_n 0, 1) := by decide +kernel
theorem dX3_committee_78 : decode cX3_committee 78 = .ok (.iconst 1, 1) := by decide +kernel
theorem dX3_committee_79 : decode cX3_committee 79 = .ok (.iload_n 3, 1) := by decide +kernel
theorem dX3_committee_80 : decode cX3_committee 80 = .ok (.invokevirtual 77, 3) := by decide +kernel
theorem dX3_committee_83 : decode cX3_committee 83 = .ok (.aload_n 0, 1) := by decide +kernel
theorem dX3_committee_84 : decode cX3_committee 84 = .ok (.getfield 43, 3) := by decide +kernel
theorem dX3_committee_87 : decode cX3_committee 87 = .ok (.iload 4, 2) := by decide +kernel
theorem dX3_committee_89 : decode cX3_committee 89 = .ok (.isub, 1) := by decide +kernel
theorem dX3_committee_90 : decode cX3_committee 90 = .ok (.aload_n 0, 1) := by decide +kernel
theorem dX3_committee_91 : decode cX3_committee 91 = .ok (.getfield 29, 3) := by decide +kernel
theorem dX3_committee_94 : decode cX3_committee 94 = .ok (.getfield 187, 3) := by decide +kernel
theorem dX3_committee_97 : decode cX3_committee 97 = .ok (.iconst 1, 1) := by decide +kernel
theorem dX3_committee_98 : decode cX3_committee 98 = .ok (.aaload, 1) := by decide +kernel
theorem dX3_committee_99 : decode cX3_committee 99 = .ok (.iload 4, 2) := by decide +kernel
theorem dX3_committee_101 : decode cX3_committee 101 = .ok (.iaload, 1) := by decide +kernel
theorem dX3_committee_102 : decode cX3_committee 102 = .ok (.invokevirtual 103, 3) := by decide +kernel
theorem dX3_committee_105 : decode cX3_committee 105 = .ok (.istore 5, 2) := by decide +kernel
theorem dX3_committee_107 : decode cX3_committee 107 = .ok (.aload_n 0, 1) := by decide +kernel
theorem dX3_committee_108 : decode cX3_committee 108 = .ok (.getfield 29, 3) := by decide +kernel
theorem dX3_committee_111 : decode cX3_committee 111 = .ok (.getfield 190, 3) := by decide +kernel
theorem dX3_committee_114 : decode cX3_committee 114 = .ok (.iload 4, 2) := by decide +kernel
theorem dX3_committee_116 : decode cX3_committee 116 = .ok (.iload 5, 2) := by decide +kernel
theorem dX3_committee_118 : decode cX3_committee 118 = .ok (.ifCond .eq 18, 3) := by decide +kernel
theorem dX3_committee_121 : decode cX3_committee 121 = .ok (.aload_n 0, 1) := by decide +kernel
theorem dX3_committee_122 : decode cX3_committee 122 = .ok (.iload_n 1, 1) := by decide +kernel
theorem dX3_committee_123 : decode cX3_committee 123 = .ok (.iload 4, 2) := by decide +kernel
theorem dX3_committee_125 : decode cX3_committee 125 = .ok (.invokevirtual 194, 3) := by decide +kernel
theorem dX3_committee_128 : decode cX3_committee 128 = .ok (.iload_n 2, 1) := by decide +kernel
theorem dX3_committee_129 : decode cX3_committee 129 = .ok (.if_icmp .lt 7, 3) := by decide +kernel
theorem dX3_committee_132 : decode cX3_committee 132 = .ok (.iconst 1, 1) := by decide +kernel
theorem dX3_committee_133 : decode cX3_committee 133 = .ok (.goto 4, 3) := by decide +kernel
theorem dX3_committee_136 : decode cX3_committee 136 = .ok (.iconst 0, 1) := by decide +kernel
theorem dX3_committee_137 : decode cX3_committee 137 = .ok (.bastore, 1) := by decide +kernel
theorem dX3_committee_138 : decode cX3_committee 138 = .ok (.iinc 4 1, 3) := by decide +kernel
theorem dX3_committee_141 : decode cX3_committee 141 = .ok (.goto (-73), 3) := by decide +kernel
theorem dX3_committee_144 : decode cX3_committee 144 = .ok (.aload_n 0, 1) := by decide +kernel
theorem dX3_committee_145 : decode cX3_committee 145 = .ok (.invokevirtual 197, 3) := by decide +kernel
theorem dX3_committee_148 : decode cX3_committee 148 = .ok (.ireturn, 1) := by decide +kernel
theorem dX3_recall_0 : decode cX3_recall 0 = .ok (.iload_n 1, 1) := by decide +kernel
theorem dX3_recall_1 : decode cX3_recall 1 = .ok (.invokestatic 73, 3) := by decide +kernel
theorem dX3_recall_4 : decode cX3_recall 4 = .ok (.ifCond .eq 12, 3) := by decide +kernel
theorem dX3_recall_7 : decode cX3_recall 7 = .ok (.aload_n 0, 1) := by decide +kernel
theorem dX3_recall_8 : decode cX3_recall 8 = .ok (.iload_n 2, 1) := by decide +kernel
theorem dX3_recall_9 : decode cX3_recall 9 = .ok (.iload_n 3, 1) := by decide +kernel
theorem dX3_recall_10 : decode cX3_recall 10 = .ok (.invokevirtual 129, 3) := by decide +kernel
theorem dX3_recall_13 : decode cX3_recall 13 = .ok (.ifCond .ne 6, 3) := by decide +kernel
theorem dX3_recall_16 : decode cX3_recall 16 = .ok (.bipush (-2), 2) := by decide +kernel
theorem dX3_recall_18 : decode cX3_recall 18 = .ok (.ireturn, 1) := by decide +kernel
theorem dX3_recall_19 : decode cX3_recall 19 = .ok (.aload_n 0, 1) := by decide +kernel
theorem dX3_recall_20 : decode cX3_recall 20 = .ok (.getfield 47, 3) := by decide +kernel
theorem dX3_recall_23 : decode cX3_recall 23 = .ok (.iconst 2, 1) := by decide +kernel
theorem dX3_recall_24 : decode cX3_recall 24 = .ok (.if_icmp .eq 14, 3) := by decide +kernel
theorem dX3_recall_27 : decode cX3_recall 27 = .ok (.aload_n 0, 1) := by decide +kernel
theorem dX3_recall_28 : decode cX3_recall 28 = .ok (.iload_n 2, 1) := by decide +kernel
theorem dX3_recall_29 : decode cX3_recall 29 = .ok (.iload_n 3, 1) := by decide +kernel
theorem dX3_recall_30 : decode cX3_recall 30 = .ok (.invokevirtual 132, 3) := by decide +kernel
theorem dX3_recall_33 : decode cX3_recall 33 = .ok (.bipush (-5), 2) := by decide +kernel
theorem dX3_recall_35 : decode cX3_recall 35 = .ok (.if_icmp .ne 6, 3) := by decide +kernel
theorem dX3_recall_38 : decode cX3_recall 38 = .ok (.bipush (-3), 2) := by decide +kernel
theorem dX3_recall_40 : decode cX3_recall 40 = .ok (.ireturn, 1) := by decide +kernel
theorem dX3_recall_41 : decode cX3_recall 41 = .ok (.aload_n 0, 1) := by decide +kernel
theorem dX3_recall_42 : decode cX3_recall 42 = .ok (.iload_n 1, 1) := by decide +kernel
theorem dX3_recall_43 : decode cX3_recall 43 = .ok (.iload_n 1, 1) := by decide +kernel
theorem dX3_recall_44 : decode cX3_recall 44 = .ok (.ifCond .ne 7, 3) := by decide +kernel
theorem dX3_recall_47 : decode cX3_recall 47 = .ok (.iload_n 2, 1) := by decide +kernel
theorem dX3_recall_48 : decode cX3_recall 48 = .ok (.goto 4, 3) := by decide +kernel
theorem dX3_recall_51 : decode cX3_recall 51 = .ok (.iload_n 3, 1) := by decide +kernel
theorem dX3_recall_52 : decode cX3_recall 52 = .ok (.invokevirtual 77, 3) := by decide +kernel
theorem dX3_recall_55 : decode cX3_recall 55 = .ok (.astore 4, 2) := by decide +kernel
theorem dX3_recall_57 : decode cX3_recall 57 = .ok (.iconst 0, 1) := by decide +kernel
theorem dX3_recall_58 : decode cX3_recall 58 = .ok (.aload_n 0, 1) := by decide +kernel
theorem dX3_recall_59 : decode cX3_recall 59 = .ok (.iload_n 1, 1) := by decide +kernel
theorem dX3_recall_60 : decode cX3_recall 60 = .ok (.aload 4, 2) := by decide +kernel
theorem dX3_recall_62 : decode cX3_recall 62 = .ok (.invokevirtual 200, 3) := by decide +kernel
theorem dX3_recall_65 : decode cX3_recall 65 = .ok (.aload_n 0, 1) := by decide +kernel
theorem dX3_recall_66 : decode cX3_recall 66 = .ok (.iload_n 1, 1) := by decide +kernel
theorem dX3_recall_67 : decode cX3_recall 67 = .ok (.aload 4, 2) := by decide +kernel
theorem dX3_recall_69 : decode cX3_recall 69 = .ok (.aload_n 0, 1) := by decide +kernel
theorem dX3_recall_70 : decode cX3_recall 70 = .ok (.getfield 29, 3) := by decide +kernel
theorem dX3_recall_73 : decode cX3_recall 73 = .ok (.getfield 204, 3) := by decide +kernel
theorem dX3_recall_76 : decode cX3_recall 76 = .ok (.invokevirtual 207, 3) := by decide +kernel
theorem dX3_recall_79 : decode cX3_recall 79 = .ok (.isub, 1) := by decide +kernel
theorem dX3_recall_80 : decode cX3_recall 80 = .ok (.invokestatic 211, 3) := by decide +kernel
theorem dX3_recall_83 : decode cX3_recall 83 = .ok (.ireturn, 1) := by decide +kernel
theorem dX3_middle_0 : decode cX3_middle 0 = .ok (.aload_n 0, 1) := by decide +kernel
theorem dX3_middle_1 : decode cX3_middle 1 = .ok (.iload_n 1, 1) := by decide +kernel
theorem dX3_middle_2 : decode cX3_middle 2 = .ok (.iload_n 2, 1) := by decide +kernel
theorem dX3_middle_3 : decode cX3_middle 3 = .ok (.invokevirtual 129, 3) := by decide +kernel
theorem dX3_middle_6 : decode cX3_middle 6 = .ok (.ifCond .eq 8, 3) := by decide +kernel
theorem dX3_middle_9 : decode cX3_middle 9 = .ok (.iload_n 3, 1) := by decide +kernel
theorem dX3_middle_10 : decode cX3_middle 10 = .ok (.iconst (-1), 1) := by decide +kernel
theorem dX3_middle_11 : decode cX3_middle 11 = .ok (.if_icmp .ge 6, 3) := by decide +kernel
theorem dX3_middle_14 : decode cX3_middle 14 = .ok (.bipush (-10), 2) := by decide +kernel
theorem dX3_middle_16 : decode cX3_middle 16 = .ok (.ireturn, 1) := by decide +kernel
theorem dX3_middle_17 : decode cX3_middle 17 = .ok (.aload_n 0, 1) := by decide +kernel
theorem dX3_middle_18 : decode cX3_middle 18 = .ok (.getfield 47, 3) := by decide +kernel
theorem dX3_middle_21 : decode cX3_middle 21 = .ok (.iconst 2, 1) := by decide +kernel
theorem dX3_middle_22 : decode cX3_middle 22 = .ok (.if_icmp .ne 6, 3) := by decide +kernel
theorem dX3_middle_25 : decode cX3_middle 25 = .ok (.bipush (-20), 2) := by decide +kernel
theorem dX3_middle_27 : decode cX3_middle 27 = .ok (.ireturn, 1) := by decide +kernel
theorem dX3_middle_28 : decode cX3_middle 28 = .ok (.aload_n 0, 1) := by decide +kernel
theorem dX3_middle_29 : decode cX3_middle 29 = .ok (.iload_n 1, 1) := by decide +kernel
theorem dX3_middle_30 : decode cX3_middle 30 = .ok (.iload_n 2, 1) := by decide +kernel
theorem dX3_middle_31 : decode cX3_middle 31 = .ok (.invokevirtual 132, 3) := by decide +kernel
theorem dX3_middle_34 : decode cX3_middle 34 = .ok (.pop, 1) := by decide +kernel
theorem dX3_middle_35 : decode cX3_middle 35 = .ok (.aload_n 0, 1) := by decide +kernel
theorem dX3_middle_36 : decode cX3_middle 36 = .ok (.iconst 0, 1) := by decide +kernel
theorem dX3_middle_37 : decode cX3_middle 37 = .ok (.iload_n 1, 1) := by decide +kernel
theorem dX3_middle_38 : decode cX3_middle 38 = .ok (.invokevirtual 138, 3) := by decide +kernel
theorem dX3_middle_41 : decode cX3_middle 41 = .ok (.lstore 4, 2) := by decide +kernel
theorem dX3_middle_43 : decode cX3_middle 43 = .ok (.aload_n 0, 1) := by decide +kernel
theorem dX3_middle_44 : decode cX3_middle 44 = .ok (.iconst 1, 1) := by decide +kernel
theorem dX3_middle_45 : decode cX3_middle 45 = .ok (.iload_n 2, 1) := by decide +kernel
theorem dX3_middle_46 : decode cX3_middle 46 = .ok (.invokevirtual 138, 3) := by decide +kernel
theorem dX3_middle_49 : decode cX3_middle 49 = .ok (.lstore 6, 2) := by decide +kernel
theorem dX3_middle_51 : decode cX3_middle 51 = .ok (.iconst 0, 1) := by decide +kernel
theorem dX3_middle_52 : decode cX3_middle 52 = .ok (.istore 8, 2) := by decide +kernel
theorem dX3_middle_54 : decode cX3_middle 54 = .ok (.iconst 0, 1) := by decide +kernel
theorem dX3_middle_55 : decode cX3_middle 55 = .ok (.istore 9, 2) := by decide +kernel
theorem dX3_middle_57 : decode cX3_middle 57 = .ok (.iload 9, 2) := by decide +kernel
theorem dX3_middle_59 : decode cX3_middle 59 = .ok (.aload_n 0, 1) := by decide +kernel
theorem dX3_middle_60 : decode cX3_middle 60 = .ok (.getfield 43, 3) := by decide +kernel
theorem dX3_middle_63 : decode cX3_middle 63 = .ok (.if_icmp .gt 74, 3) := by decide +kernel
theorem dX3_middle_66 : decode cX3_middle 66 = .ok (.aload_n 0, 1) := by decide +kernel
theorem dX3_middle_67 : decode cX3_middle 67 = .ok (.getfield 29, 3) := by decide +kernel
theorem dX3_middle_70 : decode cX3_middle 70 = .ok (.getfield 190, 3) := by decide +kernel
theorem dX3_middle_73 : decode cX3_middle 73 = .ok (.iload 9, 2) := by decide +kernel
theorem dX3_middle_75 : decode cX3_middle 75 = .ok (.baload, 1) := by decide +kernel
theorem dX3_middle_76 : decode cX3_middle 76 = .ok (.ifCond .eq 55, 3) := by decide +kernel
theorem dX3_middle_79 : decode cX3_middle 79 = .ok (.aload_n 0, 1) := by decide +kernel
theorem dX3_middle_80 : decode cX3_middle 80 = .ok (.iconst 0, 1) := by decide +kernel
theorem dX3_middle_81 : decode cX3_middle 81 = .ok (.aload_n 0, 1) := by decide +kernel
theorem dX3_middle_82 : decode cX3_middle 82 = .ok (.iconst 0, 1) := by decide +kernel
theorem dX3_middle_83 : decode cX3_middle 83 = .ok (.iload_n 1, 1) := by decide +kernel
theorem dX3_middle_84 : decode cX3_middle 84 = .ok (.invokevirtual 77, 3) := by decide +kernel
theorem dX3_middle_87 : decode cX3_middle 87 = .ok (.iload 9, 2) := by decide +kernel
theorem dX3_middle_89 : decode cX3_middle 89 = .ok (.invokevirtual 207, 3) := by decide +kernel
theorem dX3_middle_92 : decode cX3_middle 92 = .ok (.i2l, 1) := by decide +kernel
theorem dX3_middle_93 : decode cX3_middle 93 = .ok (.lload 4, 2) := by decide +kernel
theorem dX3_middle_95 : decode cX3_middle 95 = .ok (.lcmp, 1) := by decide +kernel
theorem dX3_middle_96 : decode cX3_middle 96 = .ok (.ifCond .le 35, 3) := by decide +kernel
theorem dX3_middle_99 : decode cX3_middle 99 = .ok (.aload_n 0, 1) := by decide +kernel
theorem dX3_middle_100 : decode cX3_middle 100 = .ok (.iconst 1, 1) := by decide +kernel
theorem dX3_middle_101 : decode cX3_middle 101 = .ok (.aload_n 0, 1) := by decide +kernel
theorem dX3_middle_102 : decode cX3_middle 102 = .ok (.iconst 1, 1) := by decide +kernel
theorem dX3_middle_103 : decode cX3_middle 103 = .ok (.iload_n 2, 1) := by decide +kernel
theorem dX3_middle_104 : decode cX3_middle 104 = .ok (.invokevirtual 77, 3) := by decide +kernel
theorem dX3_middle_107 : decode cX3_middle 107 = .ok (.iload 9, 2) := by decide +kernel
theorem dX3_middle_109 : decode cX3_middle 109 = .ok (.invokevirtual 207, 3) := by decide +kernel
theorem dX3_middle_112 : decode cX3_middle 112 = .ok (.i2l, 1) := by decide +kernel
theorem dX3_middle_113 : decode cX3_middle 113 = .ok (.lload 6, 2) := by decide +kernel
theorem dX3_middle_115 : decode cX3_middle 115 = .ok (.lcmp, 1) := by decide +kernel
theorem dX3_middle_116 : decode cX3_middle 116 = .ok (.ifCond .le 15, 3) := by decide +kernel
theorem dX3_middle_119 : decode cX3_middle 119 = .ok (.iload 8, 2) := by decide +kernel
theorem dX3_middle_121 : decode cX3_middle 121 = .ok (.iload_n 3, 1) := by decide +kernel
theorem dX3_middle_122 : decode cX3_middle 122 = .ok (.if_icmp .ne 6, 3) := by decide +kernel
theorem dX3_middle_125 : decode cX3_middle 125 = .ok (.iload 9, 2) := by decide +kernel
theorem dX3_middle_127 : decode cX3_middle 127 = .ok (.ireturn, 1) := by decide +kernel
theorem dX3_middle_128 : decode cX3_middle 128 = .ok (.iinc 8 1, 3) := by decide +kernel
theorem dX3_middle_131 : decode cX3_middle 131 = .ok (.iinc 9 1, 3) := by decide +kernel
theorem dX3_middle_134 : decode cX3_middle 134 = .ok (.goto (-77), 3) := by decide +kernel
theorem dX3_middle_137 : decode cX3_middle 137 = .ok (.iload_n 3, 1) := by decide +kernel
theorem dX3_middle_138 : decode cX3_middle 138 = .ok (.iconst (-1), 1) := by decide +kernel
theorem dX3_middle_139 : decode cX3_middle 139 = .ok (.if_icmp .ne 8, 3) := by decide +kernel
theorem dX3_middle_142 : decode cX3_middle 142 = .ok (.iload 8, 2) := by decide +kernel
theorem dX3_middle_144 : decode cX3_middle 144 = .ok (.goto 5, 3) := by decide +kernel
theorem dX3_middle_147 : decode cX3_middle 147 = .ok (.bipush (-5), 2) := by decide +kernel
theorem dX3_middle_149 : decode cX3_middle 149 = .ok (.ireturn, 1) := by decide +kernel
theorem dX3_edge_0 : decode cX3_edge 0 = .ok (.iload_n 1, 1) := by decide +kernel
theorem dX3_edge_1 : decode cX3_edge 1 = .ok (.invokestatic 73, 3) := by decide +kernel
theorem dX3_edge_4 : decode cX3_edge 4 = .ok (.ifCond .ne 6, 3) := by decide +kernel
theorem dX3_edge_7 : decode cX3_edge 7 = .ok (.bipush (-2), 2) := by decide +kernel
theorem dX3_edge_9 : decode cX3_edge 9 = .ok (.ireturn, 1) := by decide +kernel
theorem dX3_edge_10 : decode cX3_edge 10 = .ok (.aload_n 0, 1) := by decide +kernel
theorem dX3_edge_11 : decode cX3_edge 11 = .ok (.iload_n 1, 1) := by decide +kernel
theorem dX3_edge_12 : decode cX3_edge 12 = .ok (.iconst 0, 1) := by decide +kernel
theorem dX3_edge_13 : decode cX3_edge 13 = .ok (.invokevirtual 77, 3) := by decide +kernel
theorem dX3_edge_16 : decode cX3_edge 16 = .ok (.getfield 70, 3) := by decide +kernel
theorem dX3_edge_19 : decode cX3_edge 19 = .ok (.astore_n 2, 1) := by decide +kernel
theorem dX3_edge_20 : decode cX3_edge 20 = .ok (.aload_n 2, 1) := by decide +kernel
theorem dX3_edge_21 : decode cX3_edge 21 = .ok (.iconst 0, 1) := by decide +kernel
theorem dX3_edge_22 : decode cX3_edge 22 = .ok (.iaload, 1) := by decide +kernel
theorem dX3_edge_23 : decode cX3_edge 23 = .ok (.istore_n 3, 1) := by decide +kernel
theorem dX3_edge_24 : decode cX3_edge 24 = .ok (.aload_n 0, 1) := by decide +kernel
theorem dX3_edge_25 : decode cX3_edge 25 = .ok (.invokevirtual 154, 3) := by decide +kernel
theorem dX3_edge_28 : decode cX3_edge 28 = .ok (.aload_n 0, 1) := by decide +kernel
theorem dX3_edge_29 : decode cX3_edge 29 = .ok (.invokevirtual 157, 3) := by decide +kernel
theorem dX3_edge_32 : decode cX3_edge 32 = .ok (.aload_n 0, 1) := by decide +kernel
theorem dX3_edge_33 : decode cX3_edge 33 = .ok (.iconst 0, 1) := by decide +kernel
theorem dX3_edge_34 : decode cX3_edge 34 = .ok (.invokevirtual 160, 3) := by decide +kernel
theorem dX3_edge_37 : decode cX3_edge 37 = .ok (.istore 4, 2) := by decide +kernel
theorem dX3_edge_39 : decode cX3_edge 39 = .ok (.iconst (-1), 1) := by decide +kernel
theorem dX3_edge_40 : decode cX3_edge 40 = .ok (.istore 5, 2) := by decide +kernel
theorem dX3_edge_42 : decode cX3_edge 42 = .ok (.iconst 1, 1) := by decide +kernel
theorem dX3_edge_43 : decode cX3_edge 43 = .ok (.istore 6, 2) := by decide +kernel
theorem dX3_edge_45 : decode cX3_edge 45 = .ok (.iload 6, 2) := by decide +kernel
theorem dX3_edge_47 : decode cX3_edge 47 = .ok (.bipush 30, 2) := by decide +kernel
theorem dX3_edge_49 : decode cX3_edge 49 = .ok (.if_icmp .gt 45, 3) := by decide +kernel
theorem dX3_edge_52 : decode cX3_edge 52 = .ok (.iload 5, 2) := by decide +kernel
theorem dX3_edge_54 : decode cX3_edge 54 = .ok (.iconst (-1), 1) := by decide +kernel
theorem dX3_edge_55 : decode cX3_edge 55 = .ok (.if_icmp .ne 39, 3) := by decide +kernel
theorem dX3_edge_58 : decode cX3_edge 58 = .ok (.aload_n 2, 1) := by decide +kernel
theorem dX3_edge_59 : decode cX3_edge 59 = .ok (.iconst 0, 1) := by decide +kernel
theorem dX3_edge_60 : decode cX3_edge 60 = .ok (.iload_n 3, 1) := by decide +kernel
theorem dX3_edge_61 : decode cX3_edge 61 = .ok (.iload 6, 2) := by decide +kernel
theorem dX3_edge_63 : decode cX3_edge 63 = .ok (.iadd, 1) := by decide +kernel
theorem dX3_edge_64 : decode cX3_edge 64 = .ok (.iastore, 1) := by decide +kernel
theorem dX3_edge_65 : decode cX3_edge 65 = .ok (.aload_n 0, 1) := by decide +kernel
theorem dX3_edge_66 : decode cX3_edge 66 = .ok (.iload_n 1, 1) := by decide +kernel
theorem dX3_edge_67 : decode cX3_edge 67 = .ok (.invokevirtual 216, 3) := by decide +kernel
theorem dX3_edge_70 : decode cX3_edge 70 = .ok (.aload_n 0, 1) := by decide +kernel
theorem dX3_edge_71 : decode cX3_edge 71 = .ok (.invokevirtual 157, 3) := by decide +kernel
theorem dX3_edge_74 : decode cX3_edge 74 = .ok (.aload_n 0, 1) := by decide +kernel
theorem dX3_edge_75 : decode cX3_edge 75 = .ok (.iconst 0, 1) := by decide +kernel
theorem dX3_edge_76 : decode cX3_edge 76 = .ok (.invokevirtual 160, 3) := by decide +kernel
theorem dX3_edge_79 : decode cX3_edge 79 = .ok (.iload 4, 2) := by decide +kernel
theorem dX3_edge_81 : decode cX3_edge 81 = .ok (.if_icmp .eq 7, 3) := by decide +kernel
theorem dX3_edge_84 : decode cX3_edge 84 = .ok (.iload 6, 2) := by decide +kernel
theorem dX3_edge_86 : decode cX3_edge 86 = .ok (.istore 5, 2) := by decide +kernel
theorem dX3_edge_88 : decode cX3_edge 88 = .ok (.iinc 6 1, 3) := by decide +kernel
theorem dX3_edge_91 : decode cX3_edge 91 = .ok (.goto (-46), 3) := by decide +kernel
theorem dX3_edge_94 : decode cX3_edge 94 = .ok (.aload_n 2, 1) := by decide +kernel
theorem dX3_edge_95 : decode cX3_edge 95 = .ok (.iconst 0, 1) := by decide +kernel
theorem dX3_edge_96 : decode cX3_edge 96 = .ok (.iload_n 3, 1) := by decide +kernel
theorem dX3_edge_97 : decode cX3_edge 97 = .ok (.iastore, 1) := by decide +kernel
theorem dX3_edge_98 : decode cX3_edge 98 = .ok (.iload 5, 2) := by decide +kernel
theorem dX3_edge_100 : decode cX3_edge 100 = .ok (.ireturn, 1) := by decide +kernel
theorem dX3_part_0 : decode cX3_part 0 = .ok (.iload_n 1, 1) := by decide +kernel
theorem dX3_part_1 : decode cX3_part 1 = .ok (.ifCond .eq 12, 3) := by decide +kernel
theorem dX3_part_4 : decode cX3_part 4 = .ok (.iload_n 1, 1) := by decide +kernel
theorem dX3_part_5 : decode cX3_part 5 = .ok (.iconst 1, 1) := by decide +kernel
theorem dX3_part_6 : decode cX3_part 6 = .ok (.if_icmp .eq 7, 3) := by decide +kernel
theorem dX3_part_9 : decode cX3_part 9 = .ok (.ldc2_w 219, 3) := by decide +kernel
theorem dX3_part_12 : decode cX3_part 12 = .ok (.lreturn, 1) := by decide +kernel
theorem dX3_part_13 : decode cX3_part 13 = .ok (.iload_n 1, 1) := by decide +kernel
theorem dX3_part_14 : decode cX3_part 14 = .ok (.ifCond .ne 10, 3) := by decide +kernel
theorem dX3_part_17 : decode cX3_part 17 = .ok (.aload_n 0, 1) := by decide +kernel
theorem dX3_part_18 : decode cX3_part 18 = .ok (.getfield 62, 3) := by decide +kernel
theorem dX3_part_21 : decode cX3_part 21 = .ok (.goto 7, 3) := by decide +kernel
theorem dX3_part_24 : decode cX3_part 24 = .ok (.aload_n 0, 1) := by decide +kernel
theorem dX3_part_25 : decode cX3_part 25 = .ok (.getfield 66, 3) := by decide +kernel
theorem dX3_part_28 : decode cX3_part 28 = .ok (.lreturn, 1) := by decide +kernel
theorem dX3_count_0 : decode cX3_count 0 = .ok (.iload_n 1, 1) := by decide +kernel
theorem dX3_count_1 : decode cX3_count 1 = .ok (.invokestatic 73, 3) := by decide +kernel
theorem dX3_count_4 : decode cX3_count 4 = .ok (.ifCond .eq 12, 3) := by decide +kernel
theorem dX3_count_7 : decode cX3_count 7 = .ok (.aload_n 0, 1) := by decide +kernel
theorem dX3_count_8 : decode cX3_count 8 = .ok (.getfield 7, 3) := by decide +kernel
theorem dX3_count_11 : decode cX3_count 11 = .ok (.iload_n 1, 1) := by decide +kernel
theorem dX3_count_12 : decode cX3_count 12 = .ok (.iaload, 1) := by decide +kernel
theorem dX3_count_13 : decode cX3_count 13 = .ok (.goto 5, 3) := by decide +kernel
theorem dX3_count_16 : decode cX3_count 16 = .ok (.bipush (-2), 2) := by decide +kernel
theorem dX3_count_18 : decode cX3_count 18 = .ok (.ireturn, 1) := by decide +kernel
theorem dX3_digest_0 : decode cX3_digest 0 = .ok (.ldc2_w 221, 3) := by decide +kernel
theorem dX3_digest_3 : decode cX3_digest 3 = .ok (.lstore_n 1, 1) := by decide +kernel
theorem dX3_digest_4 : decode cX3_digest 4 = .ok (.ldc2_w 223, 3) := by decide +kernel
theorem dX3_digest_7 : decode cX3_digest 7 = .ok (.lload_n 1, 1) := by decide +kernel
theorem dX3_digest_8 : decode cX3_digest 8 = .ok (.lmul, 1) := by decide +kernel
theorem dX3_digest_9 : decode cX3_digest 9 = .ok (.aload_n 0, 1) := by decide +kernel
theorem dX3_digest_10 : decode cX3_digest 10 = .ok (.getfield 43, 3) := by decide +kernel
theorem dX3_digest_13 : decode cX3_digest 13 = .ok (.i2l, 1) := by decide +kernel
theorem dX3_digest_14 : decode cX3_digest 14 = .ok (.ladd, 1) := by decide +kernel
theorem dX3_digest_15 : decode cX3_digest 15 = .ok (.lstore_n 1, 1) := by decide +kernel
theorem dX3_digest_16 : decode cX3_digest 16 = .ok (.ldc2_w 223, 3) := by decide +kernel
theorem dX3_digest_19 : decode cX3_digest 19 = .ok (.lload_n 1, 1) := by decide +kernel
theorem dX3_digest_20 : decode cX3_digest 20 = .ok (.lmul, 1) := by decide +kernel
theorem dX3_digest_21 : decode cX3_digest 21 = .ok (.aload_n 0, 1) := by decide +kernel
theorem dX3_digest_22 : decode cX3_digest 22 = .ok (.getfield 7, 3) := by decide +kernel
theorem dX3_digest_25 : decode cX3_digest 25 = .ok (.iconst 0, 1) := by decide +kernel
theorem dX3_digest_26 : decode cX3_digest 26 = .ok (.iaload, 1) := by decide +kernel
theorem dX3_digest_27 : decode cX3_digest 27 = .ok (.i2l, 1) := by decide +kernel
theorem dX3_digest_28 : decode cX3_digest 28 = .ok (.ladd, 1) := by decide +kernel
theorem dX3_digest_29 : decode cX3_digest 29 = .ok (.lstore_n 1, 1) := by decide +kernel
theorem dX3_digest_30 : decode cX3_digest 30 = .ok (.ldc2_w 223, 3) := by decide +kernel
theorem dX3_digest_33 : decode cX3_digest 33 = .ok (.lload_n 1, 1) := by decide +kernel
theorem dX3_digest_34 : decode cX3_digest 34 = .ok (.lmul, 1) := by decide +kernel
theorem dX3_digest_35 : decode cX3_digest 35 = .ok (.aload_n 0, 1) := by decide +kernel
theorem dX3_digest_36 : decode cX3_digest 36 = .ok (.getfield 7, 3) := by decide +kernel
theorem dX3_digest_39 : decode cX3_digest 39 = .ok (.iconst 1, 1) := by decide +kernel
theorem dX3_digest_40 : decode cX3_digest 40 = .ok (.iaload, 1) := by decide +kernel
theorem dX3_digest_41 : decode cX3_digest 41 = .ok (.i2l, 1) := by decide +kernel
theorem dX3_digest_42 : decode cX3_digest 42 = .ok (.ladd, 1) := by decide +kernel
theorem dX3_digest_43 : decode cX3_digest 43 = .ok (.lstore_n 1, 1) := by decide +kernel
theorem dX3_digest_44 : decode cX3_digest 44 = .ok (.iconst 0, 1) := by decide +kernel
theorem dX3_digest_45 : decode cX3_digest 45 = .ok (.istore_n 3, 1) := by decide +kernel
theorem dX3_digest_46 : decode cX3_digest 46 = .ok (.iload_n 3, 1) := by decide +kernel
theorem dX3_digest_47 : decode cX3_digest 47 = .ok (.iconst 2, 1) := by decide +kernel
theorem dX3_digest_48 : decode cX3_digest 48 = .ok (.if_icmp .ge 41, 3) := by decide +kernel
theorem dX3_digest_51 : decode cX3_digest 51 = .ok (.iconst 0, 1) := by decide +kernel
theorem dX3_digest_52 : decode cX3_digest 52 = .ok (.istore 4, 2) := by decide +kernel
theorem dX3_digest_54 : decode cX3_digest 54 = .ok (.iload 4, 2) := by decide +kernel
theorem dX3_digest_56 : decode cX3_digest 56 = .ok (.aload_n 0, 1) := by decide +kernel
theorem dX3_digest_57 : decode cX3_digest 57 = .ok (.getfield 7, 3) := by decide +kernel
theorem dX3_digest_60 : decode cX3_digest 60 = .ok (.iload_n 3, 1) := by decide +kernel
theorem dX3_digest_61 : decode cX3_digest 61 = .ok (.iaload, 1) := by decide +kernel
theorem dX3_digest_62 : decode cX3_digest 62 = .ok (.if_icmp .ge 21, 3) := by decide +kernel
theorem dX3_digest_65 : decode cX3_digest 65 = .ok (.aload_n 0, 1) := by decide +kernel
theorem dX3_digest_66 : decode cX3_digest 66 = .ok (.iload_n 3, 1) := by decide +kernel
theorem dX3_digest_67 : decode cX3_digest 67 = .ok (.iload 4, 2) := by decide +kernel
theorem dX3_digest_69 : decode cX3_digest 69 = .ok (.invokevirtual 77, 3) := by decide +kernel
theorem dX3_digest_72 : decode cX3_digest 72 = .ok (.lload_n 1, 1) := by decide +kernel
theorem dX3_digest_73 : decode cX3_digest 73 = .ok (.invokevirtual 225, 3) := by decide +kernel
theorem dX3_digest_76 : decode cX3_digest 76 = .ok (.lstore_n 1, 1) := by decide +kernel
theorem dX3_digest_77 : decode cX3_digest 77 = .ok (.iinc 4 1, 3) := by decide +kernel
theorem dX3_digest_80 : decode cX3_digest 80 = .ok (.goto (-26), 3) := by decide +kernel
theorem dX3_digest_83 : decode cX3_digest 83 = .ok (.iinc 3 1, 3) := by decide +kernel
theorem dX3_digest_86 : decode cX3_digest 86 = .ok (.goto (-40), 3) := by decide +kernel
theorem dX3_digest_89 : decode cX3_digest 89 = .ok (.ldc2_w 223, 3) := by decide +kernel
theorem dX3_digest_92 : decode cX3_digest 92 = .ok (.lload_n 1, 1) := by decide +kernel
theorem dX3_digest_93 : decode cX3_digest 93 = .ok (.lmul, 1) := by decide +kernel
theorem dX3_digest_94 : decode cX3_digest 94 = .ok (.aload_n 0, 1) := by decide +kernel
theorem dX3_digest_95 : decode cX3_digest 95 = .ok (.getfield 47, 3) := by decide +kernel
theorem dX3_digest_98 : decode cX3_digest 98 = .ok (.i2l, 1) := by decide +kernel
theorem dX3_digest_99 : decode cX3_digest 99 = .ok (.ladd, 1) := by decide +kernel
theorem dX3_digest_100 : decode cX3_digest 100 = .ok (.lstore_n 1, 1) := by decide +kernel
theorem dX3_digest_101 : decode cX3_digest 101 = .ok (.ldc2_w 223, 3) := by decide +kernel
theorem dX3_digest_104 : decode cX3_digest 104 = .ok (.lload_n 1, 1) := by decide +kernel
theorem dX3_digest_105 : decode cX3_digest 105 = .ok (.lmul, 1) := by decide +kernel
theorem dX3_digest_106 : decode cX3_digest 106 = .ok (.aload_n 0, 1) := by decide +kernel
theorem dX3_digest_107 : decode cX3_digest 107 = .ok (.getfield 50, 3) := by decide +kernel
theorem dX3_digest_110 : decode cX3_digest 110 = .ok (.i2l, 1) := by decide +kernel
theorem dX3_digest_111 : decode cX3_digest 111 = .ok (.ladd, 1) := by decide +kernel
theorem dX3_digest_112 : decode cX3_digest 112 = .ok (.lstore_n 1, 1) := by decide +kernel
theorem dX3_digest_113 : decode cX3_digest 113 = .ok (.ldc2_w 223, 3) := by decide +kernel
theorem dX3_digest_116 : decode cX3_digest 116 = .ok (.lload_n 1, 1) := by decide +kernel
theorem dX3_digest_117 : decode cX3_digest 117 = .ok (.lmul, 1) := by decide +kernel
theorem dX3_digest_118 : decode cX3_digest 118 = .ok (.aload_n 0, 1) := by decide +kernel
theorem dX3_digest_119 : decode cX3_digest 119 = .ok (.getfield 53, 3) := by decide +kernel
theorem dX3_digest_122 : decode cX3_digest 122 = .ok (.i2l, 1) := by decide +kernel
theorem dX3_digest_123 : decode cX3_digest 123 = .ok (.ladd, 1) := by decide +kernel
theorem dX3_digest_124 : decode cX3_digest 124 = .ok (.lstore_n 1, 1) := by decide +kernel
theorem dX3_digest_125 : decode cX3_digest 125 = .ok (.ldc2_w 223, 3) := by decide +kernel
theorem dX3_digest_128 : decode cX3_digest 128 = .ok (.lload_n 1, 1) := by decide +kernel
theorem dX3_digest_129 : decode cX3_digest 129 = .ok (.lmul, 1) := by decide +kernel
theorem dX3_digest_130 : decode cX3_digest 130 = .ok (.aload_n 0, 1) := by decide +kernel
theorem dX3_digest_131 : decode cX3_digest 131 = .ok (.getfield 56, 3) := by decide +kernel
theorem dX3_digest_134 : decode cX3_digest 134 = .ok (.i2l, 1) := by decide +kernel
theorem dX3_digest_135 : decode cX3_digest 135 = .ok (.ladd, 1) := by decide +kernel
theorem dX3_digest_136 : decode cX3_digest 136 = .ok (.lstore_n 1, 1) := by decide +kernel
theorem dX3_digest_137 : decode cX3_digest 137 = .ok (.ldc2_w 223, 3) := by decide +kernel
theorem dX3_digest_140 : decode cX3_digest 140 = .ok (.lload_n 1, 1) := by decide +kernel
theorem dX3_digest_141 : decode cX3_digest 141 = .ok (.lmul, 1) := by decide +kernel
theorem dX3_digest_142 : decode cX3_digest 142 = .ok (.aload_n 0, 1) := by decide +kernel
theorem dX3_digest_143 : decode cX3_digest 143 = .ok (.getfield 59, 3) := by decide +kernel
theorem dX3_digest_146 : decode cX3_digest 146 = .ok (.i2l, 1) := by decide +kernel
theorem dX3_digest_147 : decode cX3_digest 147 = .ok (.ladd, 1) := by decide +kernel
theorem dX3_digest_148 : decode cX3_digest 148 = .ok (.lstore_n 1, 1) := by decide +kernel
theorem dX3_digest_149 : decode cX3_digest 149 = .ok (.aload_n 0, 1) := by decide +kernel
theorem dX3_digest_150 : decode cX3_digest 150 = .ok (.getfield 22, 3) := by decide +kernel
theorem dX3_digest_153 : decode cX3_digest 153 = .ok (.lload_n 1, 1) := by decide +kernel
theorem dX3_digest_154 : decode cX3_digest 154 = .ok (.invokevirtual 229, 3) := by decide +kernel
theorem dX3_digest_157 : decode cX3_digest 157 = .ok (.lstore_n 1, 1) := by decide +kernel
theorem dX3_digest_158 : decode cX3_digest 158 = .ok (.ldc2_w 223, 3) := by decide +kernel
theorem dX3_digest_161 : decode cX3_digest 161 = .ok (.lload_n 1, 1) := by decide +kernel
theorem dX3_digest_162 : decode cX3_digest 162 = .ok (.lmul, 1) := by decide +kernel
theorem dX3_digest_163 : decode cX3_digest 163 = .ok (.aload_n 0, 1) := by decide +kernel
theorem dX3_digest_164 : decode cX3_digest 164 = .ok (.getfield 62, 3) := by decide +kernel
theorem dX3_digest_167 : decode cX3_digest 167 = .ok (.ladd, 1) := by decide +kernel
theorem dX3_digest_168 : decode cX3_digest 168 = .ok (.lstore_n 1, 1) := by decide +kernel
theorem dX3_digest_169 : decode cX3_digest 169 = .ok (.ldc2_w 223, 3) := by decide +kernel
theorem dX3_digest_172 : decode cX3_digest 172 = .ok (.lload_n 1, 1) := by decide +kernel
theorem dX3_digest_173 : decode cX3_digest 173 = .ok (.lmul, 1) := by decide +kernel
theorem dX3_digest_174 : decode cX3_digest 174 = .ok (.aload_n 0, 1) := by decide +kernel
theorem dX3_digest_175 : decode cX3_digest 175 = .ok (.getfield 66, 3) := by decide +kernel
theorem dX3_digest_178 : decode cX3_digest 178 = .ok (.ladd, 1) := by decide +kernel
theorem dX3_digest_179 : decode cX3_digest 179 = .ok (.lreturn, 1) := by decide +kernel
theorem dX3_isSide_0 : decode cX3_isSide 0 = .ok (.iload_n 0, 1) := by decide +kernel
theorem dX3_isSide_1 : decode cX3_isSide 1 = .ok (.ifCond .eq 8, 3) := by decide +kernel
theorem dX3_isSide_4 : decode cX3_isSide 4 = .ok (.iload_n 0, 1) := by decide +kernel
theorem dX3_isSide_5 : decode cX3_isSide 5 = .ok (.iconst 1, 1) := by decide +kernel
theorem dX3_isSide_6 : decode cX3_isSide 6 = .ok (.if_icmp .ne 7, 3) := by decide +kernel
theorem dX3_isSide_9 : decode cX3_isSide 9 = .ok (.iconst 1, 1) := by decide +kernel
theorem dX3_isSide_10 : decode cX3_isSide 10 = .ok (.goto 4, 3) := by decide +kernel
theorem dX3_isSide_13 : decode cX3_isSide 13 = .ok (.iconst 0, 1) := by decide +kernel
theorem dX3_isSide_14 : decode cX3_isSide 14 = .ok (.ireturn, 1) := by decide +kernel
theorem dX3_isEnvoy_0 : decode cX3_isEnvoy 0 = .ok (.iload_n 1, 1) := by decide +kernel
theorem dX3_isEnvoy_1 : decode cX3_isEnvoy 1 = .ok (.invokestatic 73, 3) := by decide +kernel
theorem dX3_isEnvoy_4 : decode cX3_isEnvoy 4 = .ok (.ifCond .eq 21, 3) := by decide +kernel
theorem dX3_isEnvoy_7 : decode cX3_isEnvoy 7 = .ok (.iload_n 2, 1) := by decide +kernel
theorem dX3_isEnvoy_8 : decode cX3_isEnvoy 8 = .ok (.ifCond .lt 17, 3) := by decide +kernel
theorem dX3_isEnvoy_11 : decode cX3_isEnvoy 11 = .ok (.iload_n 2, 1) := by decide +kernel
theorem dX3_isEnvoy_12 : decode cX3_isEnvoy 12 = .ok (.aload_n 0, 1) := by decide +kernel
theorem dX3_isEnvoy_13 : decode cX3_isEnvoy 13 = .ok (.getfield 7, 3) := by decide +kernel
theorem dX3_isEnvoy_16 : decode cX3_isEnvoy 16 = .ok (.iload_n 1, 1) := by decide +kernel
theorem dX3_isEnvoy_17 : decode cX3_isEnvoy 17 = .ok (.iaload, 1) := by decide +kernel
theorem dX3_isEnvoy_18 : decode cX3_isEnvoy 18 = .ok (.if_icmp .ge 7, 3) := by decide +kernel
theorem dX3_isEnvoy_21 : decode cX3_isEnvoy 21 = .ok (.iconst 1, 1) := by decide +kernel
theorem dX3_isEnvoy_22 : decode cX3_isEnvoy 22 = .ok (.goto 4, 3) := by decide +kernel
theorem dX3_isEnvoy_25 : decode cX3_isEnvoy 25 = .ok (.iconst 0, 1) := by decide +kernel
theorem dX3_isEnvoy_26 : decode cX3_isEnvoy 26 = .ok (.ireturn, 1) := by decide +kernel
theorem dX3_isPair_0 : decode cX3_isPair 0 = .ok (.aload_n 0, 1) := by decide +kernel
theorem dX3_isPair_1 : decode cX3_isPair 1 = .ok (.iconst 0, 1) := by decide +kernel
theorem dX3_isPair_2 : decode cX3_isPair 2 = .ok (.iload_n 1, 1) := by decide +kernel
theorem dX3_isPair_3 : decode cX3_isPair 3 = .ok (.invokevirtual 85, 3) := by decide +kernel
theorem dX3_isPair_6 : decode cX3_isPair 6 = .ok (.ifCond .eq 16, 3) := by decide +kernel
theorem dX3_isPair_9 : decode cX3_isPair 9 = .ok (.aload_n 0, 1) := by decide +kernel
theorem dX3_isPair_10 : decode cX3_isPair 10 = .ok (.iconst 1, 1) := by decide +kernel
theorem dX3_isPair_11 : decode cX3_isPair 11 = .ok (.iload_n 2, 1) := by decide +kernel
theorem dX3_isPair_12 : decode cX3_isPair 12 = .ok (.invokevirtual 85, 3) := by decide +kernel
theorem dX3_isPair_15 : decode cX3_isPair 15 = .ok (.ifCond .eq 7, 3) := by decide +kernel
theorem dX3_isPair_18 : decode cX3_isPair 18 = .ok (.iconst 1, 1) := by decide +kernel
theorem dX3_isPair_19 : decode cX3_isPair 19 = .ok (.goto 4, 3) := by decide +kernel
theorem dX3_isPair_22 : decode cX3_isPair 22 = .ok (.iconst 0, 1) := by decide +kernel
theorem dX3_isPair_23 : decode cX3_isPair 23 = .ok (.ireturn, 1) := by decide +kernel
theorem dX3_envoyAt_0 : decode cX3_envoyAt 0 = .ok (.aload_n 0, 1) := by decide +kernel
theorem dX3_envoyAt_1 : decode cX3_envoyAt 1 = .ok (.getfield 15, 3) := by decide +kernel
theorem dX3_envoyAt_4 : decode cX3_envoyAt 4 = .ok (.iload_n 1, 1) := by decide +kernel
theorem dX3_envoyAt_5 : decode cX3_envoyAt 5 = .ok (.iconst 5, 1) := by decide +kernel
theorem dX3_envoyAt_6 : decode cX3_envoyAt 6 = .ok (.imul, 1) := by decide +kernel
theorem dX3_envoyAt_7 : decode cX3_envoyAt 7 = .ok (.iload_n 2, 1) := by decide +kernel
theorem dX3_envoyAt_8 : decode cX3_envoyAt 8 = .ok (.iadd, 1) := by decide +kernel
theorem dX3_envoyAt_9 : decode cX3_envoyAt 9 = .ok (.aaload, 1) := by decide +kernel
theorem dX3_envoyAt_10 : decode cX3_envoyAt 10 = .ok (.areturn, 1) := by decide +kernel
theorem dX3_cell_0 : decode cX3_cell 0 = .ok (.iload_n 0, 1) := by decide +kernel
theorem dX3_cell_1 : decode cX3_cell 1 = .ok (.iconst 5, 1) := by decide +kernel
theorem dX3_cell_2 : decode cX3_cell 2 = .ok (.imul, 1) := by decide +kernel
theorem dX3_cell_3 : decode cX3_cell 3 = .ok (.iload_n 1, 1) := by decide +kernel
theorem dX3_cell_4 : decode cX3_cell 4 = .ok (.iadd, 1) := by decide +kernel
theorem dX3_cell_5 : decode cX3_cell 5 = .ok (.ireturn, 1) := by decide +kernel
theorem dX3_changeWay_0 : decode cX3_changeWay 0 = .ok (.iload_n 1, 1) := by decide +kernel
theorem dX3_changeWay_1 : decode cX3_changeWay 1 = .ok (.ifCond .lt 8, 3) := by decide +kernel
theorem dX3_changeWay_4 : decode cX3_changeWay 4 = .ok (.iload_n 1, 1) := by decide +kernel
theorem dX3_changeWay_5 : decode cX3_changeWay 5 = .ok (.iconst 3, 1) := by decide +kernel
theorem dX3_changeWay_6 : decode cX3_changeWay 6 = .ok (.if_icmp .le 6, 3) := by decide +kernel
theorem dX3_changeWay_9 : decode cX3_changeWay 9 = .ok (.bipush (-2), 2) := by decide +kernel
theorem dX3_changeWay_11 : decode cX3_changeWay 11 = .ok (.ireturn, 1) := by decide +kernel
theorem dX3_changeWay_12 : decode cX3_changeWay 12 = .ok (.aload_n 0, 1) := by decide +kernel
theorem dX3_changeWay_13 : decode cX3_changeWay 13 = .ok (.getfield 47, 3) := by decide +kernel
theorem dX3_changeWay_16 : decode cX3_changeWay 16 = .ok (.istore_n 2, 1) := by decide +kernel
theorem dX3_changeWay_17 : decode cX3_changeWay 17 = .ok (.aload_n 0, 1) := by decide +kernel
theorem dX3_changeWay_18 : decode cX3_changeWay 18 = .ok (.iload_n 1, 1) := by decide +kernel
theorem dX3_changeWay_19 : decode cX3_changeWay 19 = .ok (.putfield 47, 3) := by decide +kernel
theorem dX3_changeWay_22 : decode cX3_changeWay 22 = .ok (.iload_n 2, 1) := by decide +kernel
theorem dX3_changeWay_23 : decode cX3_changeWay 23 = .ok (.ireturn, 1) := by decide +kernel
theorem dX3_changeRounds_0 : decode cX3_changeRounds 0 = .ok (.iload_n 1, 1) := by decide +kernel
theorem dX3_changeRounds_1 : decode cX3_changeRounds 1 = .ok (.iconst 1, 1) := by decide +kernel
theorem dX3_changeRounds_2 : decode cX3_changeRounds 2 = .ok (.if_icmp .lt 9, 3) := by decide +kernel
theorem dX3_changeRounds_5 : decode cX3_changeRounds 5 = .ok (.iload_n 1, 1) := by decide +kernel
theorem dX3_changeRounds_6 : decode cX3_changeRounds 6 = .ok (.bipush 9, 2) := by decide +kernel
theorem dX3_changeRounds_8 : decode cX3_changeRounds 8 = .ok (.if_icmp .le 6, 3) := by decide +kernel
theorem dX3_changeRounds_11 : decode cX3_changeRounds 11 = .ok (.bipush (-2), 2) := by decide +kernel
theorem dX3_changeRounds_13 : decode cX3_changeRounds 13 = .ok (.ireturn, 1) := by decide +kernel
theorem dX3_changeRounds_14 : decode cX3_changeRounds 14 = .ok (.aload_n 0, 1) := by decide +kernel
theorem dX3_changeRounds_15 : decode cX3_changeRounds 15 = .ok (.getfield 50, 3) := by decide +kernel
theorem dX3_changeRounds_18 : decode cX3_changeRounds 18 = .ok (.istore_n 2, 1) := by decide +kernel
theorem dX3_changeRounds_19 : decode cX3_changeRounds 19 = .ok (.aload_n 0, 1) := by decide +kernel
theorem dX3_changeRounds_20 : decode cX3_changeRounds 20 = .ok (.iload_n 1, 1) := by decide +kernel
theorem dX3_changeRounds_21 : decode cX3_changeRounds 21 = .ok (.putfield 50, 3) := by decide +kernel
theorem dX3_changeRounds_24 : decode cX3_changeRounds 24 = .ok (.iload_n 2, 1) := by decide +kernel
theorem dX3_changeRounds_25 : decode cX3_changeRounds 25 = .ok (.ireturn, 1) := by decide +kernel
theorem dX3_changeDelay_0 : decode cX3_changeDelay 0 = .ok (.iload_n 1, 1) := by decide +kernel
theorem dX3_changeDelay_1 : decode cX3_changeDelay 1 = .ok (.ifCond .lt 9, 3) := by decide +kernel
theorem dX3_changeDelay_4 : decode cX3_changeDelay 4 = .ok (.iload_n 1, 1) := by decide +kernel
theorem dX3_changeDelay_5 : decode cX3_changeDelay 5 = .ok (.bipush 50, 2) := by decide +kernel
theorem dX3_changeDelay_7 : decode cX3_changeDelay 7 = .ok (.if_icmp .le 6, 3) := by decide +kernel
theorem dX3_changeDelay_10 : decode cX3_changeDelay 10 = .ok (.bipush (-2), 2) := by decide +kernel
theorem dX3_changeDelay_12 : decode cX3_changeDelay 12 = .ok (.ireturn, 1) := by decide +kernel
theorem dX3_changeDelay_13 : decode cX3_changeDelay 13 = .ok (.aload_n 0, 1) := by decide +kernel
theorem dX3_changeDelay_14 : decode cX3_changeDelay 14 = .ok (.getfield 53, 3) := by decide +kernel
theorem dX3_changeDelay_17 : decode cX3_changeDelay 17 = .ok (.istore_n 2, 1) := by decide +kernel
theorem dX3_changeDelay_18 : decode cX3_changeDelay 18 = .ok (.aload_n 0, 1) := by decide +kernel
theorem dX3_changeDelay_19 : decode cX3_changeDelay 19 = .ok (.iload_n 1, 1) := by decide +kernel
theorem dX3_changeDelay_20 : decode cX3_changeDelay 20 = .ok (.putfield 53, 3) := by decide +kernel
theorem dX3_changeDelay_23 : decode cX3_changeDelay 23 = .ok (.iload_n 2, 1) := by decide +kernel
theorem dX3_changeDelay_24 : decode cX3_changeDelay 24 = .ok (.ireturn, 1) := by decide +kernel
theorem dX3_meet_0 : decode cX3_meet 0 = .ok (.aload_n 0, 1) := by decide +kernel
theorem dX3_meet_1 : decode cX3_meet 1 = .ok (.getfield 29, 3) := by decide +kernel
theorem dX3_meet_4 : decode cX3_meet 4 = .ok (.aload_n 0, 1) := by decide +kernel
theorem dX3_meet_5 : decode cX3_meet 5 = .ok (.getfield 43, 3) := by decide +kernel
theorem dX3_meet_8 : decode cX3_meet 8 = .ok (.aload_n 0, 1) := by decide +kernel
theorem dX3_meet_9 : decode cX3_meet 9 = .ok (.iconst 0, 1) := by decide +kernel
theorem dX3_meet_10 : decode cX3_meet 10 = .ok (.iload_n 1, 1) := by decide +kernel
theorem dX3_meet_11 : decode cX3_meet 11 = .ok (.invokevirtual 77, 3) := by decide +kernel
theorem dX3_meet_14 : decode cX3_meet 14 = .ok (.aload_n 0, 1) := by decide +kernel
theorem dX3_meet_15 : decode cX3_meet 15 = .ok (.iconst 1, 1) := by decide +kernel
theorem dX3_meet_16 : decode cX3_meet 16 = .ok (.iload_n 2, 1) := by decide +kernel
theorem dX3_meet_17 : decode cX3_meet 17 = .ok (.invokevirtual 77, 3) := by decide +kernel
theorem dX3_meet_20 : decode cX3_meet 20 = .ok (.invokevirtual 183, 3) := by decide +kernel
theorem dX3_meet_23 : decode cX3_meet 23 = .ok (.aload_n 0, 1) := by decide +kernel
theorem dX3_meet_24 : decode cX3_meet 24 = .ok (.invokevirtual 197, 3) := by decide +kernel
theorem dX3_meet_27 : decode cX3_meet 27 = .ok (.pop, 1) := by decide +kernel
theorem dX3_meet_28 : decode cX3_meet 28 = .ok (.aload_n 0, 1) := by decide +kernel
theorem dX3_meet_29 : decode cX3_meet 29 = .ok (.getfield 35, 3) := by decide +kernel
theorem dX3_meet_32 : decode cX3_meet 32 = .ok (.iconst 0, 1) := by decide +kernel
theorem dX3_meet_33 : decode cX3_meet 33 = .ok (.aaload, 1) := by decide +kernel
theorem dX3_meet_34 : decode cX3_meet 34 = .ok (.iload_n 1, 1) := by decide +kernel
theorem dX3_meet_35 : decode cX3_meet 35 = .ok (.iload_n 2, 1) := by decide +kernel
theorem dX3_meet_36 : decode cX3_meet 36 = .ok (.invokestatic 166, 3) := by decide +kernel
theorem dX3_meet_39 : decode cX3_meet 39 = .ok (.aload_n 0, 1) := by decide +kernel
theorem dX3_meet_40 : decode cX3_meet 40 = .ok (.getfield 29, 3) := by decide +kernel
theorem dX3_meet_43 : decode cX3_meet 43 = .ok (.getfield 204, 3) := by decide +kernel
theorem dX3_meet_46 : decode cX3_meet 46 = .ok (.iastore, 1) := by decide +kernel
theorem dX3_meet_47 : decode cX3_meet 47 = .ok (.aload_n 0, 1) := by decide +kernel
theorem dX3_meet_48 : decode cX3_meet 48 = .ok (.getfield 35, 3) := by decide +kernel
theorem dX3_meet_51 : decode cX3_meet 51 = .ok (.iconst 1, 1) := by decide +kernel
theorem dX3_meet_52 : decode cX3_meet 52 = .ok (.aaload, 1) := by decide +kernel
theorem dX3_meet_53 : decode cX3_meet 53 = .ok (.iload_n 1, 1) := by decide +kernel
theorem dX3_meet_54 : decode cX3_meet 54 = .ok (.iload_n 2, 1) := by decide +kernel
theorem dX3_meet_55 : decode cX3_meet 55 = .ok (.invokestatic 166, 3) := by decide +kernel
theorem dX3_meet_58 : decode cX3_meet 58 = .ok (.aload_n 0, 1) := by decide +kernel
theorem dX3_meet_59 : decode cX3_meet 59 = .ok (.getfield 29, 3) := by decide +kernel
theorem dX3_meet_62 : decode cX3_meet 62 = .ok (.getfield 230, 3) := by decide +kernel
theorem dX3_meet_65 : decode cX3_meet 65 = .ok (.iastore, 1) := by decide +kernel
theorem dX3_meet_66 : decode cX3_meet 66 = .ok (.aload_n 0, 1) := by decide +kernel
theorem dX3_meet_67 : decode cX3_meet 67 = .ok (.getfield 29, 3) := by decide +kernel
theorem dX3_meet_70 : decode cX3_meet 70 = .ok (.getfield 204, 3) := by decide +kernel
theorem dX3_meet_73 : decode cX3_meet 73 = .ok (.ireturn, 1) := by decide +kernel
theorem dX3_conclude_0 : decode cX3_conclude 0 = .ok (.aload_n 0, 1) := by decide +kernel
theorem dX3_conclude_1 : decode cX3_conclude 1 = .ok (.getfield 47, 3) := by decide +kernel
theorem dX3_conclude_4 : decode cX3_conclude 4 = .ok (.tableswitch 70 1 3 #[28, 46, 56], 28) := by decide +kernel
theorem dX3_conclude_32 : decode cX3_conclude 32 = .ok (.aload_n 0, 1) := by decide +kernel
theorem dX3_conclude_33 : decode cX3_conclude 33 = .ok (.getfield 29, 3) := by decide +kernel
theorem dX3_conclude_36 : decode cX3_conclude 36 = .ok (.aload_n 0, 1) := by decide +kernel
theorem dX3_conclude_37 : decode cX3_conclude 37 = .ok (.getfield 50, 3) := by decide +kernel
theorem dX3_conclude_40 : decode cX3_conclude 40 = .ok (.aload_n 0, 1) := by decide +kernel
theorem dX3_conclude_41 : decode cX3_conclude 41 = .ok (.getfield 53, 3) := by decide +kernel
theorem dX3_conclude_44 : decode cX3_conclude 44 = .ok (.invokevirtual 233, 3) := by decide +kernel
theorem dX3_conclude_47 : decode cX3_conclude 47 = .ok (.goto 34, 3) := by decide +kernel
theorem dX3_conclude_50 : decode cX3_conclude 50 = .ok (.aload_n 0, 1) := by decide +kernel
theorem dX3_conclude_51 : decode cX3_conclude 51 = .ok (.getfield 29, 3) := by decide +kernel
theorem dX3_conclude_54 : decode cX3_conclude 54 = .ok (.invokevirtual 237, 3) := by decide +kernel
theorem dX3_conclude_57 : decode cX3_conclude 57 = .ok (.goto 24, 3) := by decide +kernel
theorem dX3_conclude_60 : decode cX3_conclude 60 = .ok (.aload_n 0, 1) := by decide +kernel
theorem dX3_conclude_61 : decode cX3_conclude 61 = .ok (.getfield 29, 3) := by decide +kernel
theorem dX3_conclude_64 : decode cX3_conclude 64 = .ok (.aload_n 0, 1) := by decide +kernel
theorem dX3_conclude_65 : decode cX3_conclude 65 = .ok (.getfield 22, 3) := by decide +kernel
theorem dX3_conclude_68 : decode cX3_conclude 68 = .ok (.invokevirtual 240, 3) := by decide +kernel
theorem dX3_conclude_71 : decode cX3_conclude 71 = .ok (.goto 10, 3) := by decide +kernel
theorem dX3_conclude_74 : decode cX3_conclude 74 = .ok (.aload_n 0, 1) := by decide +kernel
theorem dX3_conclude_75 : decode cX3_conclude 75 = .ok (.getfield 29, 3) := by decide +kernel
theorem dX3_conclude_78 : decode cX3_conclude 78 = .ok (.invokevirtual 244, 3) := by decide +kernel
theorem dX3_conclude_81 : decode cX3_conclude 81 = .ok (.aload_n 0, 1) := by decide +kernel
theorem dX3_conclude_82 : decode cX3_conclude 82 = .ok (.getfield 29, 3) := by decide +kernel
theorem dX3_conclude_85 : decode cX3_conclude 85 = .ok (.getfield 204, 3) := by decide +kernel
theorem dX3_conclude_88 : decode cX3_conclude 88 = .ok (.ireturn, 1) := by decide +kernel
theorem dX3_votesFor_0 : decode cX3_votesFor 0 = .ok (.iconst 0, 1) := by decide +kernel
theorem dX3_votesFor_1 : decode cX3_votesFor 1 = .ok (.istore_n 3, 1) := by decide +kernel
theorem dX3_votesFor_2 : decode cX3_votesFor 2 = .ok (.iconst 0, 1) := by decide +kernel
theorem dX3_votesFor_3 : decode cX3_votesFor 3 = .ok (.istore 4, 2) := by decide +kernel
theorem dX3_votesFor_5 : decode cX3_votesFor 5 = .ok (.iload 4, 2) := by decide +kernel
theorem dX3_votesFor_7 : decode cX3_votesFor 7 = .ok (.aload_n 0, 1) := by decide +kernel
theorem dX3_votesFor_8 : decode cX3_votesFor 8 = .ok (.getfield 7, 3) := by decide +kernel
theorem dX3_votesFor_11 : decode cX3_votesFor 11 = .ok (.iconst 0, 1) := by decide +kernel
theorem dX3_votesFor_12 : decode cX3_votesFor 12 = .ok (.iaload, 1) := by decide +kernel
theorem dX3_votesFor_13 : decode cX3_votesFor 13 = .ok (.if_icmp .ge 50, 3) := by decide +kernel
theorem dX3_votesFor_16 : decode cX3_votesFor 16 = .ok (.aload_n 0, 1) := by decide +kernel
theorem dX3_votesFor_17 : decode cX3_votesFor 17 = .ok (.iconst 0, 1) := by decide +kernel
theorem dX3_votesFor_18 : decode cX3_votesFor 18 = .ok (.iload 4, 2) := by decide +kernel
theorem dX3_votesFor_20 : decode cX3_votesFor 20 = .ok (.invokevirtual 77, 3) := by decide +kernel
theorem dX3_votesFor_23 : decode cX3_votesFor 23 = .ok (.astore 5, 2) := by decide +kernel
theorem dX3_votesFor_25 : decode cX3_votesFor 25 = .ok (.iload_n 1, 1) := by decide +kernel
theorem dX3_votesFor_26 : decode cX3_votesFor 26 = .ok (.iload 4, 2) := by decide +kernel
theorem dX3_votesFor_28 : decode cX3_votesFor 28 = .ok (.ishr, 1) := by decide +kernel
theorem dX3_votesFor_29 : decode cX3_votesFor 29 = .ok (.iconst 1, 1) := by decide +kernel
theorem dX3_votesFor_30 : decode cX3_votesFor 30 = .ok (.iand, 1) := by decide +kernel
theorem dX3_votesFor_31 : decode cX3_votesFor 31 = .ok (.iconst 1, 1) := by decide +kernel
theorem dX3_votesFor_32 : decode cX3_votesFor 32 = .ok (.if_icmp .ne 25, 3) := by decide +kernel
theorem dX3_votesFor_35 : decode cX3_votesFor 35 = .ok (.aload 5, 2) := by decide +kernel
theorem dX3_votesFor_37 : decode cX3_votesFor 37 = .ok (.iload_n 2, 1) := by decide +kernel
theorem dX3_votesFor_38 : decode cX3_votesFor 38 = .ok (.aload 5, 2) := by decide +kernel
theorem dX3_votesFor_40 : decode cX3_votesFor 40 = .ok (.iload_n 2, 1) := by decide +kernel
theorem dX3_votesFor_41 : decode cX3_votesFor 41 = .ok (.aload_n 0, 1) := by decide +kernel
theorem dX3_votesFor_42 : decode cX3_votesFor 42 = .ok (.getfield 43, 3) := by decide +kernel
theorem dX3_votesFor_45 : decode cX3_votesFor 45 = .ok (.invokevirtual 100, 3) := by decide +kernel
theorem dX3_votesFor_48 : decode cX3_votesFor 48 = .ok (.invokevirtual 103, 3) := by decide +kernel
theorem dX3_votesFor_51 : decode cX3_votesFor 51 = .ok (.ifCond .eq 6, 3) := by decide +kernel
theorem dX3_votesFor_54 : decode cX3_votesFor 54 = .ok (.iinc 3 1, 3) := by decide +kernel
theorem dX3_votesFor_57 : decode cX3_votesFor 57 = .ok (.iinc 4 1, 3) := by decide +kernel
theorem dX3_votesFor_60 : decode cX3_votesFor 60 = .ok (.goto (-55), 3) := by decide +kernel
theorem dX3_votesFor_63 : decode cX3_votesFor 63 = .ok (.iload_n 3, 1) := by decide +kernel
theorem dX3_votesFor_64 : decode cX3_votesFor 64 = .ok (.ireturn, 1) := by decide +kernel
theorem dX3_settleAll_0 : decode cX3_settleAll 0 = .ok (.iconst 0, 1) := by decide +kernel
theorem dX3_settleAll_1 : decode cX3_settleAll 1 = .ok (.istore_n 1, 1) := by decide +kernel
theorem dX3_settleAll_2 : decode cX3_settleAll 2 = .ok (.iload_n 1, 1) := by decide +kernel
theorem dX3_settleAll_3 : decode cX3_settleAll 3 = .ok (.aload_n 0, 1) := by decide +kernel
theorem dX3_settleAll_4 : decode cX3_settleAll 4 = .ok (.getfield 7, 3) := by decide +kernel
theorem dX3_settleAll_7 : decode cX3_settleAll 7 = .ok (.iconst 0, 1) := by decide +kernel
theorem dX3_settleAll_8 : decode cX3_settleAll 8 = .ok (.iaload, 1) := by decide +kernel
theorem dX3_settleAll_9 : decode cX3_settleAll 9 = .ok (.if_icmp .ge 34, 3) := by decide +kernel
theorem dX3_settleAll_12 : decode cX3_settleAll 12 = .ok (.iconst 0, 1) := by decide +kernel
theorem dX3_settleAll_13 : decode cX3_settleAll 13 = .ok (.istore_n 2, 1) := by decide +kernel
theorem dX3_settleAll_14 : decode cX3_settleAll 14 = .ok (.iload_n 2, 1) := by decide +kernel
theorem dX3_settleAll_15 : decode cX3_settleAll 15 = .ok (.aload_n 0, 1) := by decide +kernel
theorem dX3_settleAll_16 : decode cX3_settleAll 16 = .ok (.getfield 7, 3) := by decide +kernel
theorem dX3_settleAll_19 : decode cX3_settleAll 19 = .ok (.iconst 1, 1) := by decide +kernel
theorem dX3_settleAll_20 : decode cX3_settleAll 20 = .ok (.iaload, 1) := by decide +kernel
theorem dX3_settleAll_21 : decode cX3_settleAll 21 = .ok (.if_icmp .ge 16, 3) := by decide +kernel
theorem dX3_settleAll_24 : decode cX3_settleAll 24 = .ok (.aload_n 0, 1) := by decide +kernel
theorem dX3_settleAll_25 : decode cX3_settleAll 25 = .ok (.iload_n 1, 1) := by decide +kernel
theorem dX3_settleAll_26 : decode cX3_settleAll 26 = .ok (.iload_n 2, 1) := by decide +kernel
theorem dX3_settleAll_27 : decode cX3_settleAll 27 = .ok (.invokevirtual 132, 3) := by decide +kernel
theorem dX3_settleAll_30 : decode cX3_settleAll 30 = .ok (.pop, 1) := by decide +kernel
theorem dX3_settleAll_31 : decode cX3_settleAll 31 = .ok (.iinc 2 1, 3) := by decide +kernel
theorem dX3_settleAll_34 : decode cX3_settleAll 34 = .ok (.goto (-20), 3) := by decide +kernel
theorem dX3_settleAll_37 : decode cX3_settleAll 37 = .ok (.iinc 1 1, 3) := by decide +kernel
theorem dX3_settleAll_40 : decode cX3_settleAll 40 = .ok (.goto (-38), 3) := by decide +kernel
theorem dX3_settleAll_43 : decode cX3_settleAll 43 = .ok (.return_, 1) := by decide +kernel
theorem dX3_settleItself_0 : decode cX3_settleItself 0 = .ok (.iconst 0, 1) := by decide +kernel
theorem dX3_settleItself_1 : decode cX3_settleItself 1 = .ok (.istore_n 2, 1) := by decide +kernel
theorem dX3_settleItself_2 : decode cX3_settleItself 2 = .ok (.iload_n 2, 1) := by decide +kernel
theorem dX3_settleItself_3 : decode cX3_settleItself 3 = .ok (.aload_n 0, 1) := by decide +kernel
theorem dX3_settleItself_4 : decode cX3_settleItself 4 = .ok (.getfield 7, 3) := by decide +kernel
theorem dX3_settleItself_7 : decode cX3_settleItself 7 = .ok (.iconst 1, 1) := by decide +kernel
theorem dX3_settleItself_8 : decode cX3_settleItself 8 = .ok (.iload_n 1, 1) := by decide +kernel
theorem dX3_settleItself_9 : decode cX3_settleItself 9 = .ok (.isub, 1) := by decide +kernel
theorem dX3_settleItself_10 : decode cX3_settleItself 10 = .ok (.iaload, 1) := by decide +kernel
theorem dX3_settleItself_11 : decode cX3_settleItself 11 = .ok (.if_icmp .ge 32, 3) := by decide +kernel
theorem dX3_settleItself_14 : decode cX3_settleItself 14 = .ok (.aload_n 0, 1) := by decide +kernel
theorem dX3_settleItself_15 : decode cX3_settleItself 15 = .ok (.iload_n 1, 1) := by decide +kernel
theorem dX3_settleItself_16 : decode cX3_settleItself 16 = .ok (.ifCond .ne 7, 3) := by decide +kernel
theorem dX3_settleItself_19 : decode cX3_settleItself 19 = .ok (.iconst 0, 1) := by decide +kernel
theorem dX3_settleItself_20 : decode cX3_settleItself 20 = .ok (.goto 4, 3) := by decide +kernel
theorem dX3_settleItself_23 : decode cX3_settleItself 23 = .ok (.iload_n 2, 1) := by decide +kernel
theorem dX3_settleItself_24 : decode cX3_settleItself 24 = .ok (.iload_n 1, 1) := by decide +kernel
theorem dX3_settleItself_25 : decode cX3_settleItself 25 = .ok (.ifCond .ne 7, 3) := by decide +kernel
theorem dX3_settleItself_28 : decode cX3_settleItself 28 = .ok (.iload_n 2, 1) := by decide +kernel
theorem dX3_settleItself_29 : decode cX3_settleItself 29 = .ok (.goto 4, 3) := by decide +kernel
theorem dX3_settleItself_32 : decode cX3_settleItself 32 = .ok (.iconst 0, 1) := by decide +kernel
theorem dX3_settleItself_33 : decode cX3_settleItself 33 = .ok (.invokevirtual 132, 3) := by decide +kernel
theorem dX3_settleItself_36 : decode cX3_settleItself 36 = .ok (.pop, 1) := by decide +kernel
theorem dX3_settleItself_37 : decode cX3_settleItself 37 = .ok (.iinc 2 1, 3) := by decide +kernel
theorem dX3_settleItself_40 : decode cX3_settleItself 40 = .ok (.goto (-38), 3) := by decide +kernel
theorem dX3_settleItself_43 : decode cX3_settleItself 43 = .ok (.return_, 1) := by decide +kernel
theorem dX3_scale_0 : decode cX3_scale 0 = .ok (.aload_n 0, 1) := by decide +kernel
theorem dX3_scale_1 : decode cX3_scale 1 = .ok (.getfield 47, 3) := by decide +kernel
theorem dX3_scale_4 : decode cX3_scale 4 = .ok (.iconst 2, 1) := by decide +kernel
theorem dX3_scale_5 : decode cX3_scale 5 = .ok (.if_icmp .ne 10, 3) := by decide +kernel
theorem dX3_scale_8 : decode cX3_scale 8 = .ok (.aload_n 0, 1) := by decide +kernel
theorem dX3_scale_9 : decode cX3_scale 9 = .ok (.getfield 59, 3) := by decide +kernel
theorem dX3_scale_12 : decode cX3_scale 12 = .ok (.goto 4, 3) := by decide +kernel
theorem dX3_scale_15 : decode cX3_scale 15 = .ok (.iconst 1, 1) := by decide +kernel
theorem dX3_scale_16 : decode cX3_scale 16 = .ok (.ireturn, 1) := by decide +kernel
theorem dX3_holdsUnsettled_0 : decode cX3_holdsUnsettled 0 = .ok (.aload_n 0, 1) := by decide +kernel
theorem dX3_holdsUnsettled_1 : decode cX3_holdsUnsettled 1 = .ok (.iload_n 1, 1) := by decide +kernel
theorem dX3_holdsUnsettled_2 : decode cX3_holdsUnsettled 2 = .ok (.iconst 0, 1) := by decide +kernel
theorem dX3_holdsUnsettled_3 : decode cX3_holdsUnsettled 3 = .ok (.invokevirtual 77, 3) := by decide +kernel
theorem dX3_holdsUnsettled_6 : decode cX3_holdsUnsettled 6 = .ok (.getfield 70, 3) := by decide +kernel
theorem dX3_holdsUnsettled_9 : decode cX3_holdsUnsettled 9 = .ok (.iconst 4, 1) := by decide +kernel
theorem dX3_holdsUnsettled_10 : decode cX3_holdsUnsettled 10 = .ok (.iaload, 1) := by decide +kernel
theorem dX3_holdsUnsettled_11 : decode cX3_holdsUnsettled 11 = .ok (.aload_n 2, 1) := by decide +kernel
theorem dX3_holdsUnsettled_12 : decode cX3_holdsUnsettled 12 = .ok (.getfield 70, 3) := by decide +kernel
theorem dX3_holdsUnsettled_15 : decode cX3_holdsUnsettled 15 = .ok (.bipush 8, 2) := by decide +kernel
theorem dX3_holdsUnsettled_17 : decode cX3_holdsUnsettled 17 = .ok (.iaload, 1) := by decide +kernel
theorem dX3_holdsUnsettled_18 : decode cX3_holdsUnsettled 18 = .ok (.isub, 1) := by decide +kernel
theorem dX3_holdsUnsettled_19 : decode cX3_holdsUnsettled 19 = .ok (.ireturn, 1) := by decide +kernel
theorem dX3_holdsBy_0 : decode cX3_holdsBy 0 = .ok (.iload_n 1, 1) := by decide +kernel
theorem dX3_holdsBy_1 : decode cX3_holdsBy 1 = .ok (.ifCond .ne 7, 3) := by decide +kernel
theorem dX3_holdsBy_4 : decode cX3_holdsBy 4 = .ok (.iload_n 3, 1) := by decide +kernel
theorem dX3_holdsBy_5 : decode cX3_holdsBy 5 = .ok (.goto 9, 3) := by decide +kernel
theorem dX3_holdsBy_8 : decode cX3_holdsBy 8 = .ok (.aload_n 0, 1) := by decide +kernel
theorem dX3_holdsBy_9 : decode cX3_holdsBy 9 = .ok (.getfield 43, 3) := by decide +kernel
theorem dX3_holdsBy_12 : decode cX3_holdsBy 12 = .ok (.iload_n 3, 1) := by decide +kernel
theorem dX3_holdsBy_13 : decode cX3_holdsBy 13 = .ok (.isub, 1) := by decide +kernel
theorem dX3_holdsBy_14 : decode cX3_holdsBy 14 = .ok (.istore 4, 2) := by decide +kernel
theorem dX3_holdsBy_16 : decode cX3_holdsBy 16 = .ok (.aload_n 0, 1) := by decide +kernel
theorem dX3_holdsBy_17 : decode cX3_holdsBy 17 = .ok (.iload_n 1, 1) := by decide +kernel
theorem dX3_holdsBy_18 : decode cX3_holdsBy 18 = .ok (.iconst 0, 1) := by decide +kernel
theorem dX3_holdsBy_19 : decode cX3_holdsBy 19 = .ok (.invokevirtual 77, 3) := by decide +kernel
theorem dX3_holdsBy_22 : decode cX3_holdsBy 22 = .ok (.iload 4, 2) := by decide +kernel
theorem dX3_holdsBy_24 : decode cX3_holdsBy 24 = .ok (.aload_n 0, 1) := by decide +kernel
theorem dX3_holdsBy_25 : decode cX3_holdsBy 25 = .ok (.getfield 43, 3) := by decide +kernel
theorem dX3_holdsBy_28 : decode cX3_holdsBy 28 = .ok (.invokevirtual 96, 3) := by decide +kernel
theorem dX3_holdsBy_31 : decode cX3_holdsBy 31 = .ok (.aload_n 2, 1) := by decide +kernel
theorem dX3_holdsBy_32 : decode cX3_holdsBy 32 = .ok (.getfield 70, 3) := by decide +kernel
theorem dX3_holdsBy_35 : decode cX3_holdsBy 35 = .ok (.bipush 8, 2) := by decide +kernel
theorem dX3_holdsBy_37 : decode cX3_holdsBy 37 = .ok (.iaload, 1) := by decide +kernel
theorem dX3_holdsBy_38 : decode cX3_holdsBy 38 = .ok (.isub, 1) := by decide +kernel
theorem dX3_holdsBy_39 : decode cX3_holdsBy 39 = .ok (.aload_n 2, 1) := by decide +kernel
theorem dX3_holdsBy_40 : decode cX3_holdsBy 40 = .ok (.iload 4, 2) := by decide +kernel
theorem dX3_holdsBy_42 : decode cX3_holdsBy 42 = .ok (.invokevirtual 247, 3) := by decide +kernel
theorem dX3_holdsBy_45 : decode cX3_holdsBy 45 = .ok (.isub, 1) := by decide +kernel
theorem dX3_holdsBy_46 : decode cX3_holdsBy 46 = .ok (.ireturn, 1) := by decide +kernel
theorem dX3_holds_0 : decode cX3_holds 0 = .ok (.iload_n 3, 1) := by decide +kernel
theorem dX3_holds_1 : decode cX3_holds 1 = .ok (.bipush (-5), 2) := by decide +kernel
theorem dX3_holds_3 : decode cX3_holds 3 = .ok (.if_icmp .ne 17, 3) := by decide +kernel
theorem dX3_holds_6 : decode cX3_holds 6 = .ok (.aload_n 0, 1) := by decide +kernel
theorem dX3_holds_7 : decode cX3_holds 7 = .ok (.invokevirtual 142, 3) := by decide +kernel
theorem dX3_holds_10 : decode cX3_holds 10 = .ok (.i2l, 1) := by decide +kernel
theorem dX3_holds_11 : decode cX3_holds 11 = .ok (.aload_n 0, 1) := by decide +kernel
theorem dX3_holds_12 : decode cX3_holds 12 = .ok (.iload_n 1, 1) := by decide +kernel
theorem dX3_holds_13 : decode cX3_holds 13 = .ok (.aload_n 2, 1) := by decide +kernel
theorem dX3_holds_14 : decode cX3_holds 14 = .ok (.invokevirtual 200, 3) := by decide +kernel
theorem dX3_holds_17 : decode cX3_holds 17 = .ok (.i2l, 1) := by decide +kernel
theorem dX3_holds_18 : decode cX3_holds 18 = .ok (.lmul, 1) := by decide +kernel
theorem dX3_holds_19 : decode cX3_holds 19 = .ok (.lreturn, 1) := by decide +kernel
theorem dX3_holds_20 : decode cX3_holds 20 = .ok (.aload_n 0, 1) := by decide +kernel
theorem dX3_holds_21 : decode cX3_holds 21 = .ok (.getfield 47, 3) := by decide +kernel
theorem dX3_holds_24 : decode cX3_holds 24 = .ok (.iconst 2, 1) := by decide +kernel
theorem dX3_holds_25 : decode cX3_holds 25 = .ok (.if_icmp .eq 12, 3) := by decide +kernel
theorem dX3_holds_28 : decode cX3_holds 28 = .ok (.aload_n 0, 1) := by decide +kernel
theorem dX3_holds_29 : decode cX3_holds 29 = .ok (.iload_n 1, 1) := by decide +kernel
theorem dX3_holds_30 : decode cX3_holds 30 = .ok (.aload_n 2, 1) := by decide +kernel
theorem dX3_holds_31 : decode cX3_holds 31 = .ok (.iload_n 3, 1) := by decide +kernel
theorem dX3_holds_32 : decode cX3_holds 32 = .ok (.invokevirtual 207, 3) := by decide +kernel
theorem dX3_holds_35 : decode cX3_holds 35 = .ok (.i2l, 1) := by decide +kernel
theorem dX3_holds_36 : decode cX3_holds 36 = .ok (.lreturn, 1) := by decide +kernel
theorem dX3_holds_37 : decode cX3_holds 37 = .ok (.aload_n 0, 1) := by decide +kernel
theorem dX3_holds_38 : decode cX3_holds 38 = .ok (.getfield 56, 3) := by decide +kernel
theorem dX3_holds_41 : decode cX3_holds 41 = .ok (.i2l, 1) := by decide +kernel
theorem dX3_holds_42 : decode cX3_holds 42 = .ok (.aload_n 0, 1) := by decide +kernel
theorem dX3_holds_43 : decode cX3_holds 43 = .ok (.iload_n 1, 1) := by decide +kernel
theorem dX3_holds_44 : decode cX3_holds 44 = .ok (.aload_n 2, 1) := by decide +kernel
theorem dX3_holds_45 : decode cX3_holds 45 = .ok (.iload_n 3, 1) := by decide +kernel
theorem dX3_holds_46 : decode cX3_holds 46 = .ok (.invokevirtual 207, 3) := by decide +kernel
theorem dX3_holds_49 : decode cX3_holds 49 = .ok (.i2l, 1) := by decide +kernel
theorem dX3_holds_50 : decode cX3_holds 50 = .ok (.lmul, 1) := by decide +kernel
theorem dX3_holds_51 : decode cX3_holds 51 = .ok (.lstore 5, 2) := by decide +kernel
theorem dX3_holds_53 : decode cX3_holds 53 = .ok (.lload 5, 2) := by decide +kernel
theorem dX3_holds_55 : decode cX3_holds 55 = .ok (.aload_n 0, 1) := by decide +kernel
theorem dX3_holds_56 : decode cX3_holds 56 = .ok (.getfield 59, 3) := by decide +kernel
theorem dX3_holds_59 : decode cX3_holds 59 = .ok (.aload_n 0, 1) := by decide +kernel
theorem dX3_holds_60 : decode cX3_holds 60 = .ok (.getfield 56, 3) := by decide +kernel
theorem dX3_holds_63 : decode cX3_holds 63 = .ok (.isub, 1) := by decide +kernel
theorem dX3_holds_64 : decode cX3_holds 64 = .ok (.i2l, 1) := by decide +kernel
theorem dX3_holds_65 : decode cX3_holds 65 = .ok (.aload_n 0, 1) := by decide +kernel
theorem dX3_holds_66 : decode cX3_holds 66 = .ok (.iload_n 1, 1) := by decide +kernel
theorem dX3_holds_67 : decode cX3_holds 67 = .ok (.aload_n 2, 1) := by decide +kernel
theorem dX3_holds_68 : decode cX3_holds 68 = .ok (.iload 4, 2) := by decide +kernel
theorem dX3_holds_70 : decode cX3_holds 70 = .ok (.invokevirtual 207, 3) := by decide +kernel
theorem dX3_holds_73 : decode cX3_holds 73 = .ok (.i2l, 1) := by decide +kernel
theorem dX3_holds_74 : decode cX3_holds 74 = .ok (.lmul, 1) := by decide +kernel
theorem dX3_holds_75 : decode cX3_holds 75 = .ok (.ladd, 1) := by decide +kernel
theorem dX3_holds_76 : decode cX3_holds 76 = .ok (.lreturn, 1) := by decide +kernel
theorem dX3_holdsNow_0 : decode cX3_holdsNow 0 = .ok (.aload_n 0, 1) := by decide +kernel
theorem dX3_holdsNow_1 : decode cX3_holdsNow 1 = .ok (.iload_n 1, 1) := by decide +kernel
theorem dX3_holdsNow_2 : decode cX3_holdsNow 2 = .ok (.aload_n 0, 1) := by decide +kernel
theorem dX3_holdsNow_3 : decode cX3_holdsNow 3 = .ok (.iload_n 1, 1) := by decide +kernel
theorem dX3_holdsNow_4 : decode cX3_holdsNow 4 = .ok (.iload_n 2, 1) := by decide +kernel
theorem dX3_holdsNow_5 : decode cX3_holdsNow 5 = .ok (.invokevirtual 77, 3) := by decide +kernel
theorem dX3_holdsNow_8 : decode cX3_holdsNow 8 = .ok (.aload_n 0, 1) := by decide +kernel
theorem dX3_holdsNow_9 : decode cX3_holdsNow 9 = .ok (.getfield 29, 3) := by decide +kernel
theorem dX3_holdsNow_12 : decode cX3_holdsNow 12 = .ok (.getfield 204, 3) := by decide +kernel
theorem dX3_holdsNow_15 : decode cX3_holdsNow 15 = .ok (.aload_n 0, 1) := by decide +kernel
theorem dX3_holdsNow_16 : decode cX3_holdsNow 16 = .ok (.getfield 29, 3) := by decide +kernel
theorem dX3_holdsNow_19 : decode cX3_holdsNow 19 = .ok (.getfield 230, 3) := by decide +kernel
theorem dX3_holdsNow_22 : decode cX3_holdsNow 22 = .ok (.invokevirtual 250, 3) := by decide +kernel
theorem dX3_holdsNow_25 : decode cX3_holdsNow 25 = .ok (.lreturn, 1) := by decide +kernel
theorem dX3_holdsAgainst_0 : decode cX3_holdsAgainst 0 = .ok (.aload_n 0, 1) := by decide +kernel
theorem dX3_holdsAgainst_1 : decode cX3_holdsAgainst 1 = .ok (.iload_n 1, 1) := by decide +kernel
theorem dX3_holdsAgainst_2 : decode cX3_holdsAgainst 2 = .ok (.ifCond .ne 7, 3) := by decide +kernel
theorem dX3_holdsAgainst_5 : decode cX3_holdsAgainst 5 = .ok (.iload_n 2, 1) := by decide +kernel
theorem dX3_holdsAgainst_6 : decode cX3_holdsAgainst 6 = .ok (.goto 4, 3) := by decide +kernel
theorem dX3_holdsAgainst_9 : decode cX3_holdsAgainst 9 = .ok (.iload_n 3, 1) := by decide +kernel
theorem dX3_holdsAgainst_10 : decode cX3_holdsAgainst 10 = .ok (.iload_n 1, 1) := by decide +kernel
theorem dX3_holdsAgainst_11 : decode cX3_holdsAgainst 11 = .ok (.ifCond .ne 7, 3) := by decide +kernel
theorem dX3_holdsAgainst_14 : decode cX3_holdsAgainst 14 = .ok (.iload_n 3, 1) := by decide +kernel
theorem dX3_holdsAgainst_15 : decode cX3_holdsAgainst 15 = .ok (.goto 4, 3) := by decide +kernel
theorem dX3_holdsAgainst_18 : decode cX3_holdsAgainst 18 = .ok (.iload_n 2, 1) := by decide +kernel
theorem dX3_holdsAgainst_19 : decode cX3_holdsAgainst 19 = .ok (.invokevirtual 132, 3) := by decide +kernel
theorem dX3_holdsAgainst_22 : decode cX3_holdsAgainst 22 = .ok (.pop, 1) := by decide +kernel
theorem dX3_holdsAgainst_23 : decode cX3_holdsAgainst 23 = .ok (.aload_n 0, 1) := by decide +kernel
theorem dX3_holdsAgainst_24 : decode cX3_holdsAgainst 24 = .ok (.iload_n 1, 1) := by decide +kernel
theorem dX3_holdsAgainst_25 : decode cX3_holdsAgainst 25 = .ok (.iload_n 2, 1) := by decide +kernel
theorem dX3_holdsAgainst_26 : decode cX3_holdsAgainst 26 = .ok (.invokevirtual 138, 3) := by decide +kernel
theorem dX3_holdsAgainst_29 : decode cX3_holdsAgainst 29 = .ok (.lreturn, 1) := by decide +kernel
theorem dX3_holdAll_0 : decode cX3_holdAll 0 = .ok (.iconst 0, 1) := by decide +kernel
theorem dX3_holdAll_1 : decode cX3_holdAll 1 = .ok (.istore_n 1, 1) := by decide +kernel
theorem dX3_holdAll_2 : decode cX3_holdAll 2 = .ok (.iload_n 1, 1) := by decide +kernel
theorem dX3_holdAll_3 : decode cX3_holdAll 3 = .ok (.aload_n 0, 1) := by decide +kernel
theorem dX3_holdAll_4 : decode cX3_holdAll 4 = .ok (.getfield 7, 3) := by decide +kernel
theorem dX3_holdAll_7 : decode cX3_holdAll 7 = .ok (.iconst 0, 1) := by decide +kernel
theorem dX3_holdAll_8 : decode cX3_holdAll 8 = .ok (.iaload, 1) := by decide +kernel
theorem dX3_holdAll_9 : decode cX3_holdAll 9 = .ok (.if_icmp .ge 103, 3) := by decide +kernel
theorem dX3_holdAll_12 : decode cX3_holdAll 12 = .ok (.iconst 0, 1) := by decide +kernel
theorem dX3_holdAll_13 : decode cX3_holdAll 13 = .ok (.istore_n 2, 1) := by decide +kernel
theorem dX3_holdAll_14 : decode cX3_holdAll 14 = .ok (.iload_n 2, 1) := by decide +kernel
theorem dX3_holdAll_15 : decode cX3_holdAll 15 = .ok (.aload_n 0, 1) := by decide +kernel
theorem dX3_holdAll_16 : decode cX3_holdAll 16 = .ok (.getfield 7, 3) := by decide +kernel
theorem dX3_holdAll_19 : decode cX3_holdAll 19 = .ok (.iconst 1, 1) := by decide +kernel
theorem dX3_holdAll_20 : decode cX3_holdAll 20 = .ok (.iaload, 1) := by decide +kernel
theorem dX3_holdAll_21 : decode cX3_holdAll 21 = .ok (.if_icmp .ge 85, 3) := by decide +kernel
theorem dX3_holdAll_24 : decode cX3_holdAll 24 = .ok (.iload_n 1, 1) := by decide +kernel
theorem dX3_holdAll_25 : decode cX3_holdAll 25 = .ok (.iload_n 2, 1) := by decide +kernel
theorem dX3_holdAll_26 : decode cX3_holdAll 26 = .ok (.invokestatic 166, 3) := by decide +kernel
theorem dX3_holdAll_29 : decode cX3_holdAll 29 = .ok (.istore_n 3, 1) := by decide +kernel
theorem dX3_holdAll_30 : decode cX3_holdAll 30 = .ok (.aload_n 0, 1) := by decide +kernel
theorem dX3_holdAll_31 : decode cX3_holdAll 31 = .ok (.getfield 40, 3) := by decide +kernel
theorem dX3_holdAll_34 : decode cX3_holdAll 34 = .ok (.iconst 0, 1) := by decide +kernel
theorem dX3_holdAll_35 : decode cX3_holdAll 35 = .ok (.aaload, 1) := by decide +kernel
theorem dX3_holdAll_36 : decode cX3_holdAll 36 = .ok (.iload_n 3, 1) := by decide +kernel
theorem dX3_holdAll_37 : decode cX3_holdAll 37 = .ok (.aload_n 0, 1) := by decide +kernel
theorem dX3_holdAll_38 : decode cX3_holdAll 38 = .ok (.iconst 0, 1) := by decide +kernel
theorem dX3_holdAll_39 : decode cX3_holdAll 39 = .ok (.aload_n 0, 1) := by decide +kernel
theorem dX3_holdAll_40 : decode cX3_holdAll 40 = .ok (.iconst 0, 1) := by decide +kernel
theorem dX3_holdAll_41 : decode cX3_holdAll 41 = .ok (.iload_n 1, 1) := by decide +kernel
theorem dX3_holdAll_42 : decode cX3_holdAll 42 = .ok (.invokevirtual 77, 3) := by decide +kernel
theorem dX3_holdAll_45 : decode cX3_holdAll 45 = .ok (.aload_n 0, 1) := by decide +kernel
theorem dX3_holdAll_46 : decode cX3_holdAll 46 = .ok (.getfield 35, 3) := by decide +kernel
theorem dX3_holdAll_49 : decode cX3_holdAll 49 = .ok (.iconst 0, 1) := by decide +kernel
theorem dX3_holdAll_50 : decode cX3_holdAll 50 = .ok (.aaload, 1) := by decide +kernel
theorem dX3_holdAll_51 : decode cX3_holdAll 51 = .ok (.iload_n 3, 1) := by decide +kernel
theorem dX3_holdAll_52 : decode cX3_holdAll 52 = .ok (.iaload, 1) := by decide +kernel
theorem dX3_holdAll_53 : decode cX3_holdAll 53 = .ok (.aload_n 0, 1) := by decide +kernel
theorem dX3_holdAll_54 : decode cX3_holdAll 54 = .ok (.getfield 35, 3) := by decide +kernel
theorem dX3_holdAll_57 : decode cX3_holdAll 57 = .ok (.iconst 1, 1) := by decide +kernel
theorem dX3_holdAll_58 : decode cX3_holdAll 58 = .ok (.aaload, 1) := by decide +kernel
theorem dX3_holdAll_59 : decode cX3_holdAll 59 = .ok (.iload_n 3, 1) := by decide +kernel
theorem dX3_holdAll_60 : decode cX3_holdAll 60 = .ok (.iaload, 1) := by decide +kernel
theorem dX3_holdAll_61 : decode cX3_holdAll 61 = .ok (.invokevirtual 250, 3) := by decide +kernel
theorem dX3_holdAll_64 : decode cX3_holdAll 64 = .ok (.lastore, 1) := by decide +kernel
theorem dX3_holdAll_65 : decode cX3_holdAll 65 = .ok (.aload_n 0, 1) := by decide +kernel
theorem dX3_holdAll_66 : decode cX3_holdAll 66 = .ok (.getfield 40, 3) := by decide +kernel
theorem dX3_holdAll_69 : decode cX3_holdAll 69 = .ok (.iconst 1, 1) := by decide +kernel
theorem dX3_holdAll_70 : decode cX3_holdAll 70 = .ok (.aaload, 1) := by decide +kernel
theorem dX3_holdAll_71 : decode cX3_holdAll 71 = .ok (.iload_n 3, 1) := by decide +kernel
theorem dX3_holdAll_72 : decode cX3_holdAll 72 = .ok (.aload_n 0, 1) := by decide +kernel
theorem dX3_holdAll_73 : decode cX3_holdAll 73 = .ok (.iconst 1, 1) := by decide +kernel
theorem dX3_holdAll_74 : decode cX3_holdAll 74 = .ok (.aload_n 0, 1) := by decide +kernel
theorem dX3_holdAll_75 : decode cX3_holdAll 75 = .ok (.iconst 1, 1) := by decide +kernel
theorem dX3_holdAll_76 : decode cX3_holdAll 76 = .ok (.iload_n 2, 1) := by decide +kernel
theorem dX3_holdAll_77 : decode cX3_holdAll 77 = .ok (.invokevirtual 77, 3) := by decide +kernel
theorem dX3_holdAll_80 : decode cX3_holdAll 80 = .ok (.aload_n 0, 1) := by decide +kernel
theorem dX3_holdAll_81 : decode cX3_holdAll 81 = .ok (.getfield 35, 3) := by decide +kernel
theorem dX3_holdAll_84 : decode cX3_holdAll 84 = .ok (.iconst 0, 1) := by decide +kernel
theorem dX3_holdAll_85 : decode cX3_holdAll 85 = .ok (.aaload, 1) := by decide +kernel
theorem dX3_holdAll_86 : decode cX3_holdAll 86 = .ok (.iload_n 3, 1) := by decide +kernel
theorem dX3_holdAll_87 : decode cX3_holdAll 87 = .ok (.iaload, 1) := by decide +kernel
theorem dX3_holdAll_88 : decode cX3_holdAll 88 = .ok (.aload_n 0, 1) := by decide +kernel
theorem dX3_holdAll_89 : decode cX3_holdAll 89 = .ok (.getfield 35, 3) := by decide +kernel
theorem dX3_holdAll_92 : decode cX3_holdAll 92 = .ok (.iconst 1, 1) := by decide +kernel
theorem dX3_holdAll_93 : decode cX3_holdAll 93 = .ok (.aaload, 1) := by decide +kernel
theorem dX3_holdAll_94 : decode cX3_holdAll 94 = .ok (.iload_n 3, 1) := by decide +kernel
theorem dX3_holdAll_95 : decode cX3_holdAll 95 = .ok (.iaload, 1) := by decide +kernel
theorem dX3_holdAll_96 : decode cX3_holdAll 96 = .ok (.invokevirtual 250, 3) := by decide +kernel
theorem dX3_holdAll_99 : decode cX3_holdAll 99 = .ok (.lastore, 1) := by decide +kernel
theorem dX3_holdAll_100 : decode cX3_holdAll 100 = .ok (.iinc 2 1, 3) := by decide +kernel
theorem dX3_holdAll_103 : decode cX3_holdAll 103 = .ok (.goto (-89), 3) := by decide +kernel
theorem dX3_holdAll_106 : decode cX3_holdAll 106 = .ok (.iinc 1 1, 3) := by decide +kernel
theorem dX3_holdAll_109 : decode cX3_holdAll 109 = .ok (.goto (-107), 3) := by decide +kernel
theorem dX3_holdAll_112 : decode cX3_holdAll 112 = .ok (.return_, 1) := by decide +kernel
theorem dX3_isRest_0 : decode cX3_isRest 0 = .ok (.iconst 0, 1) := by decide +kernel
theorem dX3_isRest_1 : decode cX3_isRest 1 = .ok (.istore_n 3, 1) := by decide +kernel
theorem dX3_isRest_2 : decode cX3_isRest 2 = .ok (.iload_n 3, 1) := by decide +kernel
theorem dX3_isRest_3 : decode cX3_isRest 3 = .ok (.aload_n 0, 1) := by decide +kernel
theorem dX3_isRest_4 : decode cX3_isRest 4 = .ok (.getfield 7, 3) := by decide +kernel
theorem dX3_isRest_7 : decode cX3_isRest 7 = .ok (.iconst 0, 1) := by decide +kernel
theorem dX3_isRest_8 : decode cX3_isRest 8 = .ok (.iaload, 1) := by decide +kernel
theorem dX3_isRest_9 : decode cX3_isRest 9 = .ok (.if_icmp .ge 39, 3) := by decide +kernel
theorem dX3_isRest_12 : decode cX3_isRest 12 = .ok (.aload_n 0, 1) := by decide +kernel
theorem dX3_isRest_13 : decode cX3_isRest 13 = .ok (.getfield 40, 3) := by decide +kernel
theorem dX3_isRest_16 : decode cX3_isRest 16 = .ok (.iconst 0, 1) := by decide +kernel
theorem dX3_isRest_17 : decode cX3_isRest 17 = .ok (.aaload, 1) := by decide +kernel
theorem dX3_isRest_18 : decode cX3_isRest 18 = .ok (.iload_n 3, 1) := by decide +kernel
theorem dX3_isRest_19 : decode cX3_isRest 19 = .ok (.iload_n 2, 1) := by decide +kernel
theorem dX3_isRest_20 : decode cX3_isRest 20 = .ok (.invokestatic 166, 3) := by decide +kernel
theorem dX3_isRest_23 : decode cX3_isRest 23 = .ok (.laload, 1) := by decide +kernel
theorem dX3_isRest_24 : decode cX3_isRest 24 = .ok (.aload_n 0, 1) := by decide +kernel
theorem dX3_isRest_25 : decode cX3_isRest 25 = .ok (.getfield 40, 3) := by decide +kernel
theorem dX3_isRest_28 : decode cX3_isRest 28 = .ok (.iconst 0, 1) := by decide +kernel
theorem dX3_isRest_29 : decode cX3_isRest 29 = .ok (.aaload, 1) := by decide +kernel
theorem dX3_isRest_30 : decode cX3_isRest 30 = .ok (.iload_n 1, 1) := by decide +kernel
theorem dX3_isRest_31 : decode cX3_isRest 31 = .ok (.iload_n 2, 1) := by decide +kernel
theorem dX3_isRest_32 : decode cX3_isRest 32 = .ok (.invokestatic 166, 3) := by decide +kernel
theorem dX3_isRest_35 : decode cX3_isRest 35 = .ok (.laload, 1) := by decide +kernel
theorem dX3_isRest_36 : decode cX3_isRest 36 = .ok (.lcmp, 1) := by decide +kernel
theorem dX3_isRest_37 : decode cX3_isRest 37 = .ok (.ifCond .le 5, 3) := by decide +kernel
theorem dX3_isRest_40 : decode cX3_isRest 40 = .ok (.iconst 0, 1) := by decide +kernel
theorem dX3_isRest_41 : decode cX3_isRest 41 = .ok (.ireturn, 1) := by decide +kernel
theorem dX3_isRest_42 : decode cX3_isRest 42 = .ok (.iinc 3 1, 3) := by decide +kernel
theorem dX3_isRest_45 : decode cX3_isRest 45 = .ok (.goto (-43), 3) := by decide +kernel
theorem dX3_isRest_48 : decode cX3_isRest 48 = .ok (.iconst 0, 1) := by decide +kernel
theorem dX3_isRest_49 : decode cX3_isRest 49 = .ok (.istore_n 3, 1) := by decide +kernel
theorem dX3_isRest_50 : decode cX3_isRest 50 = .ok (.iload_n 3, 1) := by decide +kernel
theorem dX3_isRest_51 : decode cX3_isRest 51 = .ok (.aload_n 0, 1) := by decide +kernel
theorem dX3_isRest_52 : decode cX3_isRest 52 = .ok (.getfield 7, 3) := by decide +kernel
theorem dX3_isRest_55 : decode cX3_isRest 55 = .ok (.iconst 1, 1) := by decide +kernel
theorem dX3_isRest_56 : decode cX3_isRest 56 = .ok (.iaload, 1) := by decide +kernel
theorem dX3_isRest_57 : decode cX3_isRest 57 = .ok (.if_icmp .ge 39, 3) := by decide +kernel
theorem dX3_isRest_60 : decode cX3_isRest 60 = .ok (.aload_n 0, 1) := by decide +kernel
theorem dX3_isRest_61 : decode cX3_isRest 61 = .ok (.getfield 40, 3) := by decide +kernel
theorem dX3_isRest_64 : decode cX3_isRest 64 = .ok (.iconst 1, 1) := by decide +kernel
theorem dX3_isRest_65 : decode cX3_isRest 65 = .ok (.aaload, 1) := by decide +kernel
theorem dX3_isRest_66 : decode cX3_isRest 66 = .ok (.iload_n 1, 1) := by decide +kernel
theorem dX3_isRest_67 : decode cX3_isRest 67 = .ok (.iload_n 3, 1) := by decide +kernel
theorem dX3_isRest_68 : decode cX3_isRest 68 = .ok (.invokestatic 166, 3) := by decide +kernel
theorem dX3_isRest_71 : decode cX3_isRest 71 = .ok (.laload, 1) := by decide +kernel
theorem dX3_isRest_72 : decode cX3_isRest 72 = .ok (.aload_n 0, 1) := by decide +kernel
theorem dX3_isRest_73 : decode cX3_isRest 73 = .ok (.getfield 40, 3) := by decide +kernel
theorem dX3_isRest_76 : decode cX3_isRest 76 = .ok (.iconst 1, 1) := by decide +kernel
theorem dX3_isRest_77 : decode cX3_isRest 77 = .ok (.aaload, 1) := by decide +kernel
theorem dX3_isRest_78 : decode cX3_isRest 78 = .ok (.iload_n 1, 1) := by decide +kernel
theorem dX3_isRest_79 : decode cX3_isRest 79 = .ok (.iload_n 2, 1) := by decide +kernel
theorem dX3_isRest_80 : decode cX3_isRest 80 = .ok (.invokestatic 166, 3) := by decide +kernel
theorem dX3_isRest_83 : decode cX3_isRest 83 = .ok (.laload, 1) := by decide +kernel
theorem dX3_isRest_84 : decode cX3_isRest 84 = .ok (.lcmp, 1) := by decide +kernel
theorem dX3_isRest_85 : decode cX3_isRest 85 = .ok (.ifCond .le 5, 3) := by decide +kernel
theorem dX3_isRest_88 : decode cX3_isRest 88 = .ok (.iconst 0, 1) := by decide +kernel
theorem dX3_isRest_89 : decode cX3_isRest 89 = .ok (.ireturn, 1) := by decide +kernel
theorem dX3_isRest_90 : decode cX3_isRest 90 = .ok (.iinc 3 1, 3) := by decide +kernel
theorem dX3_isRest_93 : decode cX3_isRest 93 = .ok (.goto (-43), 3) := by decide +kernel
theorem dX3_isRest_96 : decode cX3_isRest 96 = .ok (.iconst 1, 1) := by decide +kernel
theorem dX3_isRest_97 : decode cX3_isRest 97 = .ok (.ireturn, 1) := by decide +kernel
theorem dX3_isLosingRest_0 : decode cX3_isLosingRest 0 = .ok (.aload_n 0, 1) := by decide +kernel
theorem dX3_isLosingRest_1 : decode cX3_isLosingRest 1 = .ok (.iload_n 1, 1) := by decide +kernel
theorem dX3_isLosingRest_2 : decode cX3_isLosingRest 2 = .ok (.iload_n 2, 1) := by decide +kernel
theorem dX3_isLosingRest_3 : decode cX3_isLosingRest 3 = .ok (.invokevirtual 254, 3) := by decide +kernel
theorem dX3_isLosingRest_6 : decode cX3_isLosingRest 6 = .ok (.ifCond .eq 55, 3) := by decide +kernel
theorem dX3_isLosingRest_9 : decode cX3_isLosingRest 9 = .ok (.aload_n 0, 1) := by decide +kernel
theorem dX3_isLosingRest_10 : decode cX3_isLosingRest 10 = .ok (.getfield 40, 3) := by decide +kernel
theorem dX3_isLosingRest_13 : decode cX3_isLosingRest 13 = .ok (.iconst 0, 1) := by decide +kernel
theorem dX3_isLosingRest_14 : decode cX3_isLosingRest 14 = .ok (.aaload, 1) := by decide +kernel
theorem dX3_isLosingRest_15 : decode cX3_isLosingRest 15 = .ok (.iload_n 1, 1) := by decide +kernel
theorem dX3_isLosingRest_16 : decode cX3_isLosingRest 16 = .ok (.iload_n 2, 1) := by decide +kernel
theorem dX3_isLosingRest_17 : decode cX3_isLosingRest 17 = .ok (.invokestatic 166, 3) := by decide +kernel
theorem dX3_isLosingRest_20 : decode cX3_isLosingRest 20 = .ok (.laload, 1) := by decide +kernel
theorem dX3_isLosingRest_21 : decode cX3_isLosingRest 21 = .ok (.aload_n 0, 1) := by decide +kernel
theorem dX3_isLosingRest_22 : decode cX3_isLosingRest 22 = .ok (.getfield 40, 3) := by decide +kernel
theorem dX3_isLosingRest_25 : decode cX3_isLosingRest 25 = .ok (.iconst 0, 1) := by decide +kernel
theorem dX3_isLosingRest_26 : decode cX3_isLosingRest 26 = .ok (.aaload, 1) := by decide +kernel
theorem dX3_isLosingRest_27 : decode cX3_isLosingRest 27 = .ok (.iconst 0, 1) := by decide +kernel
theorem dX3_isLosingRest_28 : decode cX3_isLosingRest 28 = .ok (.laload, 1) := by decide +kernel
theorem dX3_isLosingRest_29 : decode cX3_isLosingRest 29 = .ok (.lcmp, 1) := by decide +kernel
theorem dX3_isLosingRest_30 : decode cX3_isLosingRest 30 = .ok (.ifCond .ge 31, 3) := by decide +kernel
theorem dX3_isLosingRest_33 : decode cX3_isLosingRest 33 = .ok (.aload_n 0, 1) := by decide +kernel
theorem dX3_isLosingRest_34 : decode cX3_isLosingRest 34 = .ok (.getfield 40, 3) := by decide +kernel
theorem dX3_isLosingRest_37 : decode cX3_isLosingRest 37 = .ok (.iconst 1, 1) := by decide +kernel
theorem dX3_isLosingRest_38 : decode cX3_isLosingRest 38 = .ok (.aaload, 1) := by decide +kernel
theorem dX3_isLosingRest_39 : decode cX3_isLosingRest 39 = .ok (.iload_n 1, 1) := by decide +kernel
theorem dX3_isLosingRest_40 : decode cX3_isLosingRest 40 = .ok (.iload_n 2, 1) := by decide +kernel
theorem dX3_isLosingRest_41 : decode cX3_isLosingRest 41 = .ok (.invokestatic 166, 3) := by decide +kernel
theorem dX3_isLosingRest_44 : decode cX3_isLosingRest 44 = .ok (.laload, 1) := by decide +kernel
theorem dX3_isLosingRest_45 : decode cX3_isLosingRest 45 = .ok (.aload_n 0, 1) := by decide +kernel
theorem dX3_isLosingRest_46 : decode cX3_isLosingRest 46 = .ok (.getfield 40, 3) := by decide +kernel
theorem dX3_isLosingRest_49 : decode cX3_isLosingRest 49 = .ok (.iconst 1, 1) := by decide +kernel
theorem dX3_isLosingRest_50 : decode cX3_isLosingRest 50 = .ok (.aaload, 1) := by decide +kernel
theorem dX3_isLosingRest_51 : decode cX3_isLosingRest 51 = .ok (.iconst 0, 1) := by decide +kernel
theorem dX3_isLosingRest_52 : decode cX3_isLosingRest 52 = .ok (.laload, 1) := by decide +kernel
theorem dX3_isLosingRest_53 : decode cX3_isLosingRest 53 = .ok (.lcmp, 1) := by decide +kernel
theorem dX3_isLosingRest_54 : decode cX3_isLosingRest 54 = .ok (.ifCond .ge 7, 3) := by decide +kernel
theorem dX3_isLosingRest_57 : decode cX3_isLosingRest 57 = .ok (.iconst 1, 1) := by decide +kernel
theorem dX3_isLosingRest_58 : decode cX3_isLosingRest 58 = .ok (.goto 4, 3) := by decide +kernel
theorem dX3_isLosingRest_61 : decode cX3_isLosingRest 61 = .ok (.iconst 0, 1) := by decide +kernel
theorem dX3_isLosingRest_62 : decode cX3_isLosingRest 62 = .ok (.ireturn, 1) := by decide +kernel
theorem dX3_restAt_0 : decode cX3_restAt 0 = .ok (.iconst 0, 1) := by decide +kernel
theorem dX3_restAt_1 : decode cX3_restAt 1 = .ok (.istore_n 2, 1) := by decide +kernel
theorem dX3_restAt_2 : decode cX3_restAt 2 = .ok (.iconst 0, 1) := by decide +kernel
theorem dX3_restAt_3 : decode cX3_restAt 3 = .ok (.istore_n 3, 1) := by decide +kernel
theorem dX3_restAt_4 : decode cX3_restAt 4 = .ok (.iload_n 3, 1) := by decide +kernel
theorem dX3_restAt_5 : decode cX3_restAt 5 = .ok (.aload_n 0, 1) := by decide +kernel
theorem dX3_restAt_6 : decode cX3_restAt 6 = .ok (.getfield 7, 3) := by decide +kernel
theorem dX3_restAt_9 : decode cX3_restAt 9 = .ok (.iconst 0, 1) := by decide +kernel
theorem dX3_restAt_10 : decode cX3_restAt 10 = .ok (.iaload, 1) := by decide +kernel
theorem dX3_restAt_11 : decode cX3_restAt 11 = .ok (.if_icmp .ge 55, 3) := by decide +kernel
theorem dX3_restAt_14 : decode cX3_restAt 14 = .ok (.iconst 0, 1) := by decide +kernel
theorem dX3_restAt_15 : decode cX3_restAt 15 = .ok (.istore 4, 2) := by decide +kernel
theorem dX3_restAt_17 : decode cX3_restAt 17 = .ok (.iload 4, 2) := by decide +kernel
theorem dX3_restAt_19 : decode cX3_restAt 19 = .ok (.aload_n 0, 1) := by decide +kernel
theorem dX3_restAt_20 : decode cX3_restAt 20 = .ok (.getfield 7, 3) := by decide +kernel
theorem dX3_restAt_23 : decode cX3_restAt 23 = .ok (.iconst 1, 1) := by decide +kernel
theorem dX3_restAt_24 : decode cX3_restAt 24 = .ok (.iaload, 1) := by decide +kernel
theorem dX3_restAt_25 : decode cX3_restAt 25 = .ok (.if_icmp .ge 35, 3) := by decide +kernel
theorem dX3_restAt_28 : decode cX3_restAt 28 = .ok (.aload_n 0, 1) := by decide +kernel
theorem dX3_restAt_29 : decode cX3_restAt 29 = .ok (.iload_n 3, 1) := by decide +kernel
theorem dX3_restAt_30 : decode cX3_restAt 30 = .ok (.iload 4, 2) := by decide +kernel
theorem dX3_restAt_32 : decode cX3_restAt 32 = .ok (.invokevirtual 254, 3) := by decide +kernel
theorem dX3_restAt_35 : decode cX3_restAt 35 = .ok (.ifCond .eq 19, 3) := by decide +kernel
theorem dX3_restAt_38 : decode cX3_restAt 38 = .ok (.iload_n 2, 1) := by decide +kernel
theorem dX3_restAt_39 : decode cX3_restAt 39 = .ok (.iload_n 1, 1) := by decide +kernel
theorem dX3_restAt_40 : decode cX3_restAt 40 = .ok (.if_icmp .ne 11, 3) := by decide +kernel
theorem dX3_restAt_43 : decode cX3_restAt 43 = .ok (.bipush 10, 2) := by decide +kernel
theorem dX3_restAt_45 : decode cX3_restAt 45 = .ok (.iload_n 3, 1) := by decide +kernel
theorem dX3_restAt_46 : decode cX3_restAt 46 = .ok (.imul, 1) := by decide +kernel
theorem dX3_restAt_47 : decode cX3_restAt 47 = .ok (.iload 4, 2) := by decide +kernel
theorem dX3_restAt_49 : decode cX3_restAt 49 = .ok (.iadd, 1) := by decide +kernel
theorem dX3_restAt_50 : decode cX3_restAt 50 = .ok (.ireturn, 1) := by decide +kernel
theorem dX3_restAt_51 : decode cX3_restAt 51 = .ok (.iinc 2 1, 3) := by decide +kernel
theorem dX3_restAt_54 : decode cX3_restAt 54 = .ok (.iinc 4 1, 3) := by decide +kernel
theorem dX3_restAt_57 : decode cX3_restAt 57 = .ok (.goto (-40), 3) := by decide +kernel
theorem dX3_restAt_60 : decode cX3_restAt 60 = .ok (.iinc 3 1, 3) := by decide +kernel
theorem dX3_restAt_63 : decode cX3_restAt 63 = .ok (.goto (-59), 3) := by decide +kernel
theorem dX3_restAt_66 : decode cX3_restAt 66 = .ok (.iload_n 1, 1) := by decide +kernel
theorem dX3_restAt_67 : decode cX3_restAt 67 = .ok (.iconst (-1), 1) := by decide +kernel
theorem dX3_restAt_68 : decode cX3_restAt 68 = .ok (.if_icmp .ne 7, 3) := by decide +kernel
theorem dX3_restAt_71 : decode cX3_restAt 71 = .ok (.iload_n 2, 1) := by decide +kernel
theorem dX3_restAt_72 : decode cX3_restAt 72 = .ok (.goto 5, 3) := by decide +kernel
theorem dX3_restAt_75 : decode cX3_restAt 75 = .ok (.bipush (-5), 2) := by decide +kernel
theorem dX3_restAt_77 : decode cX3_restAt 77 = .ok (.ireturn, 1) := by decide +kernel
theorem dX3_sumOfWeights_0 : decode cX3_sumOfWeights 0 = .ok (.iconst 0, 1) := by decide +kernel
theorem dX3_sumOfWeights_1 : decode cX3_sumOfWeights 1 = .ok (.istore_n 2, 1) := by decide +kernel
theorem dX3_sumOfWeights_2 : decode cX3_sumOfWeights 2 = .ok (.iconst 0, 1) := by decide +kernel
theorem dX3_sumOfWeights_3 : decode cX3_sumOfWeights 3 = .ok (.istore_n 3, 1) := by decide +kernel
theorem dX3_sumOfWeights_4 : decode cX3_sumOfWeights 4 = .ok (.iload_n 3, 1) := by decide +kernel
theorem dX3_sumOfWeights_5 : decode cX3_sumOfWeights 5 = .ok (.aload_n 0, 1) := by decide +kernel
theorem dX3_sumOfWeights_6 : decode cX3_sumOfWeights 6 = .ok (.getfield 7, 3) := by decide +kernel
theorem dX3_sumOfWeights_9 : decode cX3_sumOfWeights 9 = .ok (.iload_n 1, 1) := by decide +kernel
theorem dX3_sumOfWeights_10 : decode cX3_sumOfWeights 10 = .ok (.iaload, 1) := by decide +kernel
theorem dX3_sumOfWeights_11 : decode cX3_sumOfWeights 11 = .ok (.if_icmp .ge 21, 3) := by decide +kernel
theorem dX3_sumOfWeights_14 : decode cX3_sumOfWeights 14 = .ok (.iload_n 2, 1) := by decide +kernel
theorem dX3_sumOfWeights_15 : decode cX3_sumOfWeights 15 = .ok (.aload_n 0, 1) := by decide +kernel
theorem dX3_sumOfWeights_16 : decode cX3_sumOfWeights 16 = .ok (.iload_n 1, 1) := by decide +kernel
theorem dX3_sumOfWeights_17 : decode cX3_sumOfWeights 17 = .ok (.iload_n 3, 1) := by decide +kernel
theorem dX3_sumOfWeights_18 : decode cX3_sumOfWeights 18 = .ok (.invokevirtual 77, 3) := by decide +kernel
theorem dX3_sumOfWeights_21 : decode cX3_sumOfWeights 21 = .ok (.getfield 169, 3) := by decide +kernel
theorem dX3_sumOfWeights_24 : decode cX3_sumOfWeights 24 = .ok (.iadd, 1) := by decide +kernel
theorem dX3_sumOfWeights_25 : decode cX3_sumOfWeights 25 = .ok (.istore_n 2, 1) := by decide +kernel
theorem dX3_sumOfWeights_26 : decode cX3_sumOfWeights 26 = .ok (.iinc 3 1, 3) := by decide +kernel
theorem dX3_sumOfWeights_29 : decode cX3_sumOfWeights 29 = .ok (.goto (-25), 3) := by decide +kernel
theorem dX3_sumOfWeights_32 : decode cX3_sumOfWeights 32 = .ok (.iload_n 2, 1) := by decide +kernel
theorem dX3_sumOfWeights_33 : decode cX3_sumOfWeights 33 = .ok (.ireturn, 1) := by decide +kernel
theorem dX3_weighed_0 : decode cX3_weighed 0 = .ok (.lconst 0, 1) := by decide +kernel
theorem dX3_weighed_1 : decode cX3_weighed 1 = .ok (.lstore_n 3, 1) := by decide +kernel
theorem dX3_weighed_2 : decode cX3_weighed 2 = .ok (.iconst 0, 1) := by decide +kernel
theorem dX3_weighed_3 : decode cX3_weighed 3 = .ok (.istore 5, 2) := by decide +kernel
theorem dX3_weighed_5 : decode cX3_weighed 5 = .ok (.iload 5, 2) := by decide +kernel
theorem dX3_weighed_7 : decode cX3_weighed 7 = .ok (.aload_n 0, 1) := by decide +kernel
theorem dX3_weighed_8 : decode cX3_weighed 8 = .ok (.getfield 7, 3) := by decide +kernel
theorem dX3_weighed_11 : decode cX3_weighed 11 = .ok (.iconst 1, 1) := by decide +kernel
theorem dX3_weighed_12 : decode cX3_weighed 12 = .ok (.iload_n 1, 1) := by decide +kernel
theorem dX3_weighed_13 : decode cX3_weighed 13 = .ok (.isub, 1) := by decide +kernel
theorem dX3_weighed_14 : decode cX3_weighed 14 = .ok (.iaload, 1) := by decide +kernel
theorem dX3_weighed_15 : decode cX3_weighed 15 = .ok (.if_icmp .ge 56, 3) := by decide +kernel
theorem dX3_weighed_18 : decode cX3_weighed 18 = .ok (.iload_n 1, 1) := by decide +kernel
theorem dX3_weighed_19 : decode cX3_weighed 19 = .ok (.ifCond .ne 12, 3) := by decide +kernel
theorem dX3_weighed_22 : decode cX3_weighed 22 = .ok (.iload_n 2, 1) := by decide +kernel
theorem dX3_weighed_23 : decode cX3_weighed 23 = .ok (.iload 5, 2) := by decide +kernel
theorem dX3_weighed_25 : decode cX3_weighed 25 = .ok (.invokestatic 166, 3) := by decide +kernel
theorem dX3_weighed_28 : decode cX3_weighed 28 = .ok (.goto 9, 3) := by decide +kernel
theorem dX3_weighed_31 : decode cX3_weighed 31 = .ok (.iload 5, 2) := by decide +kernel
theorem dX3_weighed_33 : decode cX3_weighed 33 = .ok (.iload_n 2, 1) := by decide +kernel
theorem dX3_weighed_34 : decode cX3_weighed 34 = .ok (.invokestatic 166, 3) := by decide +kernel
theorem dX3_weighed_37 : decode cX3_weighed 37 = .ok (.istore 6, 2) := by decide +kernel
theorem dX3_weighed_39 : decode cX3_weighed 39 = .ok (.lload_n 3, 1) := by decide +kernel
theorem dX3_weighed_40 : decode cX3_weighed 40 = .ok (.aload_n 0, 1) := by decide +kernel
theorem dX3_weighed_41 : decode cX3_weighed 41 = .ok (.iconst 1, 1) := by decide +kernel
theorem dX3_weighed_42 : decode cX3_weighed 42 = .ok (.iload_n 1, 1) := by decide +kernel
theorem dX3_weighed_43 : decode cX3_weighed 43 = .ok (.isub, 1) := by decide +kernel
theorem dX3_weighed_44 : decode cX3_weighed 44 = .ok (.iload 5, 2) := by decide +kernel
theorem dX3_weighed_46 : decode cX3_weighed 46 = .ok (.invokevirtual 77, 3) := by decide +kernel
theorem dX3_weighed_49 : decode cX3_weighed 49 = .ok (.getfield 169, 3) := by decide +kernel
theorem dX3_weighed_52 : decode cX3_weighed 52 = .ok (.i2l, 1) := by decide +kernel
theorem dX3_weighed_53 : decode cX3_weighed 53 = .ok (.aload_n 0, 1) := by decide +kernel
theorem dX3_weighed_54 : decode cX3_weighed 54 = .ok (.getfield 40, 3) := by decide +kernel
theorem dX3_weighed_57 : decode cX3_weighed 57 = .ok (.iload_n 1, 1) := by decide +kernel
theorem dX3_weighed_58 : decode cX3_weighed 58 = .ok (.aaload, 1) := by decide +kernel
theorem dX3_weighed_59 : decode cX3_weighed 59 = .ok (.iload 6, 2) := by decide +kernel
theorem dX3_weighed_61 : decode cX3_weighed 61 = .ok (.laload, 1) := by decide +kernel
theorem dX3_weighed_62 : decode cX3_weighed 62 = .ok (.lmul, 1) := by decide +kernel
theorem dX3_weighed_63 : decode cX3_weighed 63 = .ok (.ladd, 1) := by decide +kernel
theorem dX3_weighed_64 : decode cX3_weighed 64 = .ok (.lstore_n 3, 1) := by decide +kernel
theorem dX3_weighed_65 : decode cX3_weighed 65 = .ok (.iinc 5 1, 3) := by decide +kernel
theorem dX3_weighed_68 : decode cX3_weighed 68 = .ok (.goto (-63), 3) := by decide +kernel
theorem dX3_weighed_71 : decode cX3_weighed 71 = .ok (.lload_n 3, 1) := by decide +kernel
theorem dX3_weighed_72 : decode cX3_weighed 72 = .ok (.lreturn, 1) := by decide +kernel
theorem dX3_tellFraction_0 : decode cX3_tellFraction 0 = .ok (.lload_n 1, 1) := by decide +kernel
theorem dX3_tellFraction_1 : decode cX3_tellFraction 1 = .ok (.invokestatic 257, 3) := by decide +kernel
theorem dX3_tellFraction_4 : decode cX3_tellFraction 4 = .ok (.lload_n 3, 1) := by decide +kernel
theorem dX3_tellFraction_5 : decode cX3_tellFraction 5 = .ok (.invokestatic 260, 3) := by decide +kernel
theorem dX3_tellFraction_8 : decode cX3_tellFraction 8 = .ok (.lstore 5, 2) := by decide +kernel
theorem dX3_tellFraction_10 : decode cX3_tellFraction 10 = .ok (.lload 5, 2) := by decide +kernel
theorem dX3_tellFraction_12 : decode cX3_tellFraction 12 = .ok (.lconst 0, 1) := by decide +kernel
theorem dX3_tellFraction_13 : decode cX3_tellFraction 13 = .ok (.lcmp, 1) := by decide +kernel
theorem dX3_tellFraction_14 : decode cX3_tellFraction 14 = .ok (.ifCond .le 19, 3) := by decide +kernel
theorem dX3_tellFraction_17 : decode cX3_tellFraction 17 = .ok (.aload_n 0, 1) := by decide +kernel
theorem dX3_tellFraction_18 : decode cX3_tellFraction 18 = .ok (.lload_n 1, 1) := by decide +kernel
theorem dX3_tellFraction_19 : decode cX3_tellFraction 19 = .ok (.lload 5, 2) := by decide +kernel
theorem dX3_tellFraction_21 : decode cX3_tellFraction 21 = .ok (.ldiv, 1) := by decide +kernel
theorem dX3_tellFraction_22 : decode cX3_tellFraction 22 = .ok (.putfield 62, 3) := by decide +kernel
theorem dX3_tellFraction_25 : decode cX3_tellFraction 25 = .ok (.aload_n 0, 1) := by decide +kernel
theorem dX3_tellFraction_26 : decode cX3_tellFraction 26 = .ok (.lload_n 3, 1) := by decide +kernel
theorem dX3_tellFraction_27 : decode cX3_tellFraction 27 = .ok (.lload 5, 2) := by decide +kernel
theorem dX3_tellFraction_29 : decode cX3_tellFraction 29 = .ok (.ldiv, 1) := by decide +kernel
theorem dX3_tellFraction_30 : decode cX3_tellFraction 30 = .ok (.putfield 66, 3) := by decide +kernel
theorem dX3_tellFraction_33 : decode cX3_tellFraction 33 = .ok (.return_, 1) := by decide +kernel
theorem dX3_greatestDivisor_0 : decode cX3_greatestDivisor 0 = .ok (.lload_n 0, 1) := by decide +kernel
theorem dX3_greatestDivisor_1 : decode cX3_greatestDivisor 1 = .ok (.lstore 4, 2) := by decide +kernel
theorem dX3_greatestDivisor_3 : decode cX3_greatestDivisor 3 = .ok (.lload_n 2, 1) := by decide +kernel
theorem dX3_greatestDivisor_4 : decode cX3_greatestDivisor 4 = .ok (.lstore 6, 2) := by decide +kernel
theorem dX3_greatestDivisor_6 : decode cX3_greatestDivisor 6 = .ok (.iconst 0, 1) := by decide +kernel
theorem dX3_greatestDivisor_7 : decode cX3_greatestDivisor 7 = .ok (.istore 8, 2) := by decide +kernel
theorem dX3_greatestDivisor_9 : decode cX3_greatestDivisor 9 = .ok (.iload 8, 2) := by decide +kernel
theorem dX3_greatestDivisor_11 : decode cX3_greatestDivisor 11 = .ok (.sipush 200, 3) := by decide +kernel
theorem dX3_greatestDivisor_14 : decode cX3_greatestDivisor 14 = .ok (.if_icmp .ge 31, 3) := by decide +kernel
theorem dX3_greatestDivisor_17 : decode cX3_greatestDivisor 17 = .ok (.lload 6, 2) := by decide +kernel
theorem dX3_greatestDivisor_19 : decode cX3_greatestDivisor 19 = .ok (.lconst 0, 1) := by decide +kernel
theorem dX3_greatestDivisor_20 : decode cX3_greatestDivisor 20 = .ok (.lcmp, 1) := by decide +kernel
theorem dX3_greatestDivisor_21 : decode cX3_greatestDivisor 21 = .ok (.ifCond .eq 24, 3) := by decide +kernel
theorem dX3_greatestDivisor_24 : decode cX3_greatestDivisor 24 = .ok (.lload 4, 2) := by decide +kernel
theorem dX3_greatestDivisor_26 : decode cX3_greatestDivisor 26 = .ok (.lload 6, 2) := by decide +kernel
theorem dX3_greatestDivisor_28 : decode cX3_greatestDivisor 28 = .ok (.lrem, 1) := by decide +kernel
theorem dX3_greatestDivisor_29 : decode cX3_greatestDivisor 29 = .ok (.lstore 9, 2) := by decide +kernel
theorem dX3_greatestDivisor_31 : decode cX3_greatestDivisor 31 = .ok (.lload 6, 2) := by decide +kernel
theorem dX3_greatestDivisor_33 : decode cX3_greatestDivisor 33 = .ok (.lstore 4, 2) := by decide +kernel
theorem dX3_greatestDivisor_35 : decode cX3_greatestDivisor 35 = .ok (.lload 9, 2) := by decide +kernel
theorem dX3_greatestDivisor_37 : decode cX3_greatestDivisor 37 = .ok (.lstore 6, 2) := by decide +kernel
theorem dX3_greatestDivisor_39 : decode cX3_greatestDivisor 39 = .ok (.iinc 8 1, 3) := by decide +kernel
theorem dX3_greatestDivisor_42 : decode cX3_greatestDivisor 42 = .ok (.goto (-33), 3) := by decide +kernel
theorem dX3_greatestDivisor_45 : decode cX3_greatestDivisor 45 = .ok (.lload 4, 2) := by decide +kernel
theorem dX3_greatestDivisor_47 : decode cX3_greatestDivisor 47 = .ok (.lreturn, 1) := by decide +kernel
theorem dX4_in_0 : decode cX4_in 0 = .ok (.lload_n 0, 1) := by decide +kernel
theorem dX4_in_1 : decode cX4_in 1 = .ok (.lload_n 2, 1) := by decide +kernel
theorem dX4_in_2 : decode cX4_in 2 = .ok (.lcmp, 1) := by decide +kernel
theorem dX4_in_3 : decode cX4_in 3 = .ok (.ifCond .lt 14, 3) := by decide +kernel
theorem dX4_in_6 : decode cX4_in 6 = .ok (.lload_n 0, 1) := by decide +kernel
theorem dX4_in_7 : decode cX4_in 7 = .ok (.lload 4, 2) := by decide +kernel
theorem dX4_in_9 : decode cX4_in 9 = .ok (.lcmp, 1) := by decide +kernel
theorem dX4_in_10 : decode cX4_in 10 = .ok (.ifCond .gt 7, 3) := by decide +kernel
theorem dX4_in_13 : decode cX4_in 13 = .ok (.iconst 1, 1) := by decide +kernel
theorem dX4_in_14 : decode cX4_in 14 = .ok (.goto 4, 3) := by decide +kernel
theorem dX4_in_17 : decode cX4_in 17 = .ok (.iconst 0, 1) := by decide +kernel
theorem dX4_in_18 : decode cX4_in 18 = .ok (.ireturn, 1) := by decide +kernel
theorem dX4_isSide_0 : decode cX4_isSide 0 = .ok (.iload_n 0, 1) := by decide +kernel
theorem dX4_isSide_1 : decode cX4_isSide 1 = .ok (.i2l, 1) := by decide +kernel
theorem dX4_isSide_2 : decode cX4_isSide 2 = .ok (.lconst 0, 1) := by decide +kernel
