theorem dX4_far_2 : decode cX4_far 2 = .ok (.if_icmp .ge 9, 3) := by decide +kernel
theorem dX4_far_5 : decode cX4_far 5 = .ok (.iload_n 1, 1) := by decide +kernel
theorem dX4_far_6 : decode cX4_far 6 = .ok (.iload_n 0, 1) := by decide +kernel
theorem dX4_far_7 : decode cX4_far 7 = .ok (.isub, 1) := by decide +kernel
theorem dX4_far_8 : decode cX4_far 8 = .ok (.goto 6, 3) := by decide +kernel
theorem dX4_far_11 : decode cX4_far 11 = .ok (.iload_n 0, 1) := by decide +kernel
theorem dX4_far_12 : decode cX4_far 12 = .ok (.iload_n 1, 1) := by decide +kernel
theorem dX4_far_13 : decode cX4_far 13 = .ok (.isub, 1) := by decide +kernel
theorem dX4_far_14 : decode cX4_far 14 = .ok (.ireturn, 1) := by decide +kernel
theorem dX4_arePair_0 : decode cX4_arePair 0 = .ok (.aload_n 0, 1) := by decide +kernel
theorem dX4_arePair_1 : decode cX4_arePair 1 = .ok (.iconst 0, 1) := by decide +kernel
theorem dX4_arePair_2 : decode cX4_arePair 2 = .ok (.iload_n 1, 1) := by decide +kernel
theorem dX4_arePair_3 : decode cX4_arePair 3 = .ok (.invokevirtual 87, 3) := by decide +kernel
theorem dX4_arePair_6 : decode cX4_arePair 6 = .ok (.ifCond .eq 16, 3) := by decide +kernel
theorem dX4_arePair_9 : decode cX4_arePair 9 = .ok (.aload_n 0, 1) := by decide +kernel
theorem dX4_arePair_10 : decode cX4_arePair 10 = .ok (.iconst 1, 1) := by decide +kernel
theorem dX4_arePair_11 : decode cX4_arePair 11 = .ok (.iload_n 2, 1) := by decide +kernel
theorem dX4_arePair_12 : decode cX4_arePair 12 = .ok (.invokevirtual 87, 3) := by decide +kernel
theorem dX4_arePair_15 : decode cX4_arePair 15 = .ok (.ifCond .eq 7, 3) := by decide +kernel
theorem dX4_arePair_18 : decode cX4_arePair 18 = .ok (.iconst 1, 1) := by decide +kernel
theorem dX4_arePair_19 : decode cX4_arePair 19 = .ok (.goto 4, 3) := by decide +kernel
theorem dX4_arePair_22 : decode cX4_arePair 22 = .ok (.iconst 0, 1) := by decide +kernel
theorem dX4_arePair_23 : decode cX4_arePair 23 = .ok (.ireturn, 1) := by decide +kernel
theorem dX4_settle_0 : decode cX4_settle 0 = .ok (.aload_n 0, 1) := by decide +kernel
theorem dX4_settle_1 : decode cX4_settle 1 = .ok (.iload_n 1, 1) := by decide +kernel
theorem dX4_settle_2 : decode cX4_settle 2 = .ok (.iload_n 2, 1) := by decide +kernel
theorem dX4_settle_3 : decode cX4_settle 3 = .ok (.invokevirtual 211, 3) := by decide +kernel
theorem dX4_settle_6 : decode cX4_settle 6 = .ok (.ifCond .ne 6, 3) := by decide +kernel
theorem dX4_settle_9 : decode cX4_settle 9 = .ok (.bipush (-2), 2) := by decide +kernel
theorem dX4_settle_11 : decode cX4_settle 11 = .ok (.ireturn, 1) := by decide +kernel
theorem dX4_settle_12 : decode cX4_settle 12 = .ok (.aload_n 0, 1) := by decide +kernel
theorem dX4_settle_13 : decode cX4_settle 13 = .ok (.iload_n 1, 1) := by decide +kernel
theorem dX4_settle_14 : decode cX4_settle 14 = .ok (.iload_n 2, 1) := by decide +kernel
theorem dX4_settle_15 : decode cX4_settle 15 = .ok (.invokevirtual 214, 3) := by decide +kernel
theorem dX4_settle_18 : decode cX4_settle 18 = .ok (.aload_n 0, 1) := by decide +kernel
theorem dX4_settle_19 : decode cX4_settle 19 = .ok (.getfield 180, 3) := by decide +kernel
theorem dX4_settle_22 : decode cX4_settle 22 = .ok (.ireturn, 1) := by decide +kernel
theorem dX4_round_0 : decode cX4_round 0 = .ok (.aload_n 0, 1) := by decide +kernel
theorem dX4_round_1 : decode cX4_round 1 = .ok (.iload_n 1, 1) := by decide +kernel
theorem dX4_round_2 : decode cX4_round 2 = .ok (.iload_n 2, 1) := by decide +kernel
theorem dX4_round_3 : decode cX4_round 3 = .ok (.invokevirtual 211, 3) := by decide +kernel
theorem dX4_round_6 : decode cX4_round 6 = .ok (.ifCond .ne 6, 3) := by decide +kernel
theorem dX4_round_9 : decode cX4_round 9 = .ok (.bipush (-2), 2) := by decide +kernel
theorem dX4_round_11 : decode cX4_round 11 = .ok (.ireturn, 1) := by decide +kernel
theorem dX4_round_12 : decode cX4_round 12 = .ok (.aload_n 0, 1) := by decide +kernel
theorem dX4_round_13 : decode cX4_round 13 = .ok (.iload_n 1, 1) := by decide +kernel
theorem dX4_round_14 : decode cX4_round 14 = .ok (.iload_n 2, 1) := by decide +kernel
theorem dX4_round_15 : decode cX4_round 15 = .ok (.invokevirtual 214, 3) := by decide +kernel
theorem dX4_round_18 : decode cX4_round 18 = .ok (.aload_n 0, 1) := by decide +kernel
theorem dX4_round_19 : decode cX4_round 19 = .ok (.getfield 186, 3) := by decide +kernel
theorem dX4_round_22 : decode cX4_round 22 = .ok (.ireturn, 1) := by decide +kernel
theorem dX4_under_0 : decode cX4_under 0 = .ok (.aload_n 0, 1) := by decide +kernel
theorem dX4_under_1 : decode cX4_under 1 = .ok (.getfield 111, 3) := by decide +kernel
theorem dX4_under_4 : decode cX4_under 4 = .ok (.iconst 2, 1) := by decide +kernel
theorem dX4_under_5 : decode cX4_under 5 = .ok (.if_icmp .ne 10, 3) := by decide +kernel
theorem dX4_under_8 : decode cX4_under 8 = .ok (.aload_n 0, 1) := by decide +kernel
theorem dX4_under_9 : decode cX4_under 9 = .ok (.getfield 29, 3) := by decide +kernel
theorem dX4_under_12 : decode cX4_under 12 = .ok (.goto 4, 3) := by decide +kernel
theorem dX4_under_15 : decode cX4_under 15 = .ok (.iconst 1, 1) := by decide +kernel
theorem dX4_under_16 : decode cX4_under 16 = .ok (.ireturn, 1) := by decide +kernel
theorem dX4_hasBy_0 : decode cX4_hasBy 0 = .ok (.iload_n 3, 1) := by decide +kernel
theorem dX4_hasBy_1 : decode cX4_hasBy 1 = .ok (.bipush (-5), 2) := by decide +kernel
theorem dX4_hasBy_3 : decode cX4_hasBy 3 = .ok (.if_icmp .ne 20, 3) := by decide +kernel
theorem dX4_hasBy_6 : decode cX4_hasBy 6 = .ok (.aload_n 0, 1) := by decide +kernel
theorem dX4_hasBy_7 : decode cX4_hasBy 7 = .ok (.iload_n 1, 1) := by decide +kernel
theorem dX4_hasBy_8 : decode cX4_hasBy 8 = .ok (.iconst 0, 1) := by decide +kernel
theorem dX4_hasBy_9 : decode cX4_hasBy 9 = .ok (.iconst 4, 1) := by decide +kernel
theorem dX4_hasBy_10 : decode cX4_hasBy 10 = .ok (.invokevirtual 75, 3) := by decide +kernel
theorem dX4_hasBy_13 : decode cX4_hasBy 13 = .ok (.aload_n 0, 1) := by decide +kernel
theorem dX4_hasBy_14 : decode cX4_hasBy 14 = .ok (.iload_n 1, 1) := by decide +kernel
theorem dX4_hasBy_15 : decode cX4_hasBy 15 = .ok (.iload_n 2, 1) := by decide +kernel
theorem dX4_hasBy_16 : decode cX4_hasBy 16 = .ok (.bipush 8, 2) := by decide +kernel
theorem dX4_hasBy_18 : decode cX4_hasBy 18 = .ok (.invokevirtual 75, 3) := by decide +kernel
theorem dX4_hasBy_21 : decode cX4_hasBy 21 = .ok (.isub, 1) := by decide +kernel
theorem dX4_hasBy_22 : decode cX4_hasBy 22 = .ok (.ireturn, 1) := by decide +kernel
theorem dX4_hasBy_23 : decode cX4_hasBy 23 = .ok (.iload_n 1, 1) := by decide +kernel
theorem dX4_hasBy_24 : decode cX4_hasBy 24 = .ok (.ifCond .ne 7, 3) := by decide +kernel
theorem dX4_hasBy_27 : decode cX4_hasBy 27 = .ok (.iload_n 3, 1) := by decide +kernel
theorem dX4_hasBy_28 : decode cX4_hasBy 28 = .ok (.goto 9, 3) := by decide +kernel
theorem dX4_hasBy_31 : decode cX4_hasBy 31 = .ok (.aload_n 0, 1) := by decide +kernel
theorem dX4_hasBy_32 : decode cX4_hasBy 32 = .ok (.getfield 7, 3) := by decide +kernel
theorem dX4_hasBy_35 : decode cX4_hasBy 35 = .ok (.iload_n 3, 1) := by decide +kernel
theorem dX4_hasBy_36 : decode cX4_hasBy 36 = .ok (.isub, 1) := by decide +kernel
theorem dX4_hasBy_37 : decode cX4_hasBy 37 = .ok (.istore 4, 2) := by decide +kernel
theorem dX4_hasBy_39 : decode cX4_hasBy 39 = .ok (.aload_n 0, 1) := by decide +kernel
theorem dX4_hasBy_40 : decode cX4_hasBy 40 = .ok (.iload_n 1, 1) := by decide +kernel
theorem dX4_hasBy_41 : decode cX4_hasBy 41 = .ok (.iconst 0, 1) := by decide +kernel
theorem dX4_hasBy_42 : decode cX4_hasBy 42 = .ok (.iload 4, 2) := by decide +kernel
theorem dX4_hasBy_44 : decode cX4_hasBy 44 = .ok (.invokevirtual 97, 3) := by decide +kernel
theorem dX4_hasBy_47 : decode cX4_hasBy 47 = .ok (.aload_n 0, 1) := by decide +kernel
theorem dX4_hasBy_48 : decode cX4_hasBy 48 = .ok (.iload_n 1, 1) := by decide +kernel
theorem dX4_hasBy_49 : decode cX4_hasBy 49 = .ok (.iload_n 2, 1) := by decide +kernel
theorem dX4_hasBy_50 : decode cX4_hasBy 50 = .ok (.bipush 8, 2) := by decide +kernel
theorem dX4_hasBy_52 : decode cX4_hasBy 52 = .ok (.invokevirtual 75, 3) := by decide +kernel
theorem dX4_hasBy_55 : decode cX4_hasBy 55 = .ok (.isub, 1) := by decide +kernel
theorem dX4_hasBy_56 : decode cX4_hasBy 56 = .ok (.aload_n 0, 1) := by decide +kernel
theorem dX4_hasBy_57 : decode cX4_hasBy 57 = .ok (.iload_n 1, 1) := by decide +kernel
theorem dX4_hasBy_58 : decode cX4_hasBy 58 = .ok (.iload_n 2, 1) := by decide +kernel
theorem dX4_hasBy_59 : decode cX4_hasBy 59 = .ok (.iload 4, 2) := by decide +kernel
theorem dX4_hasBy_61 : decode cX4_hasBy 61 = .ok (.invokevirtual 94, 3) := by decide +kernel
theorem dX4_hasBy_64 : decode cX4_hasBy 64 = .ok (.isub, 1) := by decide +kernel
theorem dX4_hasBy_65 : decode cX4_hasBy 65 = .ok (.ireturn, 1) := by decide +kernel
theorem dX4_hasOf_0 : decode cX4_hasOf 0 = .ok (.aload_n 0, 1) := by decide +kernel
theorem dX4_hasOf_1 : decode cX4_hasOf 1 = .ok (.iload_n 2, 1) := by decide +kernel
theorem dX4_hasOf_2 : decode cX4_hasOf 2 = .ok (.iload_n 3, 1) := by decide +kernel
theorem dX4_hasOf_3 : decode cX4_hasOf 3 = .ok (.invokevirtual 214, 3) := by decide +kernel
theorem dX4_hasOf_6 : decode cX4_hasOf 6 = .ok (.iload_n 1, 1) := by decide +kernel
theorem dX4_hasOf_7 : decode cX4_hasOf 7 = .ok (.ifCond .ne 7, 3) := by decide +kernel
theorem dX4_hasOf_10 : decode cX4_hasOf 10 = .ok (.iload_n 2, 1) := by decide +kernel
theorem dX4_hasOf_11 : decode cX4_hasOf 11 = .ok (.goto 4, 3) := by decide +kernel
theorem dX4_hasOf_14 : decode cX4_hasOf 14 = .ok (.iload_n 3, 1) := by decide +kernel
theorem dX4_hasOf_15 : decode cX4_hasOf 15 = .ok (.istore 4, 2) := by decide +kernel
theorem dX4_hasOf_17 : decode cX4_hasOf 17 = .ok (.aload_n 0, 1) := by decide +kernel
theorem dX4_hasOf_18 : decode cX4_hasOf 18 = .ok (.iload_n 1, 1) := by decide +kernel
theorem dX4_hasOf_19 : decode cX4_hasOf 19 = .ok (.iload 4, 2) := by decide +kernel
theorem dX4_hasOf_21 : decode cX4_hasOf 21 = .ok (.aload_n 0, 1) := by decide +kernel
theorem dX4_hasOf_22 : decode cX4_hasOf 22 = .ok (.getfield 180, 3) := by decide +kernel
theorem dX4_hasOf_25 : decode cX4_hasOf 25 = .ok (.invokevirtual 217, 3) := by decide +kernel
theorem dX4_hasOf_28 : decode cX4_hasOf 28 = .ok (.istore 5, 2) := by decide +kernel
theorem dX4_hasOf_30 : decode cX4_hasOf 30 = .ok (.aload_n 0, 1) := by decide +kernel
theorem dX4_hasOf_31 : decode cX4_hasOf 31 = .ok (.getfield 111, 3) := by decide +kernel
theorem dX4_hasOf_34 : decode cX4_hasOf 34 = .ok (.iconst 2, 1) := by decide +kernel
theorem dX4_hasOf_35 : decode cX4_hasOf 35 = .ok (.if_icmp .ne 35, 3) := by decide +kernel
theorem dX4_hasOf_38 : decode cX4_hasOf 38 = .ok (.aload_n 0, 1) := by decide +kernel
theorem dX4_hasOf_39 : decode cX4_hasOf 39 = .ok (.getfield 26, 3) := by decide +kernel
theorem dX4_hasOf_42 : decode cX4_hasOf 42 = .ok (.iload 5, 2) := by decide +kernel
theorem dX4_hasOf_44 : decode cX4_hasOf 44 = .ok (.imul, 1) := by decide +kernel
theorem dX4_hasOf_45 : decode cX4_hasOf 45 = .ok (.aload_n 0, 1) := by decide +kernel
theorem dX4_hasOf_46 : decode cX4_hasOf 46 = .ok (.getfield 29, 3) := by decide +kernel
theorem dX4_hasOf_49 : decode cX4_hasOf 49 = .ok (.aload_n 0, 1) := by decide +kernel
theorem dX4_hasOf_50 : decode cX4_hasOf 50 = .ok (.getfield 26, 3) := by decide +kernel
theorem dX4_hasOf_53 : decode cX4_hasOf 53 = .ok (.isub, 1) := by decide +kernel
theorem dX4_hasOf_54 : decode cX4_hasOf 54 = .ok (.aload_n 0, 1) := by decide +kernel
theorem dX4_hasOf_55 : decode cX4_hasOf 55 = .ok (.iload_n 1, 1) := by decide +kernel
theorem dX4_hasOf_56 : decode cX4_hasOf 56 = .ok (.iload 4, 2) := by decide +kernel
theorem dX4_hasOf_58 : decode cX4_hasOf 58 = .ok (.aload_n 0, 1) := by decide +kernel
theorem dX4_hasOf_59 : decode cX4_hasOf 59 = .ok (.getfield 183, 3) := by decide +kernel
theorem dX4_hasOf_62 : decode cX4_hasOf 62 = .ok (.invokevirtual 217, 3) := by decide +kernel
theorem dX4_hasOf_65 : decode cX4_hasOf 65 = .ok (.imul, 1) := by decide +kernel
theorem dX4_hasOf_66 : decode cX4_hasOf 66 = .ok (.iadd, 1) := by decide +kernel
theorem dX4_hasOf_67 : decode cX4_hasOf 67 = .ok (.goto 5, 3) := by decide +kernel
theorem dX4_hasOf_70 : decode cX4_hasOf 70 = .ok (.iload 5, 2) := by decide +kernel
theorem dX4_hasOf_72 : decode cX4_hasOf 72 = .ok (.ireturn, 1) := by decide +kernel
theorem dX4_tell_0 : decode cX4_tell 0 = .ok (.lload_n 1, 1) := by decide +kernel
theorem dX4_tell_1 : decode cX4_tell 1 = .ok (.lconst 0, 1) := by decide +kernel
theorem dX4_tell_2 : decode cX4_tell 2 = .ok (.lcmp, 1) := by decide +kernel
theorem dX4_tell_3 : decode cX4_tell 3 = .ok (.ifCond .ge 8, 3) := by decide +kernel
theorem dX4_tell_6 : decode cX4_tell 6 = .ok (.lload_n 1, 1) := by decide +kernel
theorem dX4_tell_7 : decode cX4_tell 7 = .ok (.lneg, 1) := by decide +kernel
theorem dX4_tell_8 : decode cX4_tell 8 = .ok (.goto 4, 3) := by decide +kernel
theorem dX4_tell_11 : decode cX4_tell 11 = .ok (.lload_n 1, 1) := by decide +kernel
theorem dX4_tell_12 : decode cX4_tell 12 = .ok (.lstore 5, 2) := by decide +kernel
theorem dX4_tell_14 : decode cX4_tell 14 = .ok (.lload_n 3, 1) := by decide +kernel
theorem dX4_tell_15 : decode cX4_tell 15 = .ok (.lstore 7, 2) := by decide +kernel
theorem dX4_tell_17 : decode cX4_tell 17 = .ok (.lload 7, 2) := by decide +kernel
theorem dX4_tell_19 : decode cX4_tell 19 = .ok (.lconst 0, 1) := by decide +kernel
theorem dX4_tell_20 : decode cX4_tell 20 = .ok (.lcmp, 1) := by decide +kernel
theorem dX4_tell_21 : decode cX4_tell 21 = .ok (.ifCond .eq 21, 3) := by decide +kernel
theorem dX4_tell_24 : decode cX4_tell 24 = .ok (.lload 5, 2) := by decide +kernel
theorem dX4_tell_26 : decode cX4_tell 26 = .ok (.lload 7, 2) := by decide +kernel
theorem dX4_tell_28 : decode cX4_tell 28 = .ok (.lrem, 1) := by decide +kernel
theorem dX4_tell_29 : decode cX4_tell 29 = .ok (.lstore 9, 2) := by decide +kernel
theorem dX4_tell_31 : decode cX4_tell 31 = .ok (.lload 7, 2) := by decide +kernel
theorem dX4_tell_33 : decode cX4_tell 33 = .ok (.lstore 5, 2) := by decide +kernel
theorem dX4_tell_35 : decode cX4_tell 35 = .ok (.lload 9, 2) := by decide +kernel
theorem dX4_tell_37 : decode cX4_tell 37 = .ok (.lstore 7, 2) := by decide +kernel
theorem dX4_tell_39 : decode cX4_tell 39 = .ok (.goto (-22), 3) := by decide +kernel
theorem dX4_tell_42 : decode cX4_tell 42 = .ok (.aload_n 0, 1) := by decide +kernel
theorem dX4_tell_43 : decode cX4_tell 43 = .ok (.lload_n 1, 1) := by decide +kernel
theorem dX4_tell_44 : decode cX4_tell 44 = .ok (.lload 5, 2) := by decide +kernel
theorem dX4_tell_46 : decode cX4_tell 46 = .ok (.ldiv, 1) := by decide +kernel
theorem dX4_tell_47 : decode cX4_tell 47 = .ok (.putfield 220, 3) := by decide +kernel
theorem dX4_tell_50 : decode cX4_tell 50 = .ok (.aload_n 0, 1) := by decide +kernel
theorem dX4_tell_51 : decode cX4_tell 51 = .ok (.lload_n 3, 1) := by decide +kernel
theorem dX4_tell_52 : decode cX4_tell 52 = .ok (.lload 5, 2) := by decide +kernel
theorem dX4_tell_54 : decode cX4_tell 54 = .ok (.ldiv, 1) := by decide +kernel
theorem dX4_tell_55 : decode cX4_tell 55 = .ok (.putfield 35, 3) := by decide +kernel
theorem dX4_tell_58 : decode cX4_tell 58 = .ok (.return_, 1) := by decide +kernel
theorem dX4_has_0 : decode cX4_has 0 = .ok (.iload_n 1, 1) := by decide +kernel
theorem dX4_has_1 : decode cX4_has 1 = .ok (.invokestatic 69, 3) := by decide +kernel
theorem dX4_has_4 : decode cX4_has 4 = .ok (.ifCond .eq 12, 3) := by decide +kernel
theorem dX4_has_7 : decode cX4_has 7 = .ok (.aload_n 0, 1) := by decide +kernel
theorem dX4_has_8 : decode cX4_has 8 = .ok (.iload_n 2, 1) := by decide +kernel
theorem dX4_has_9 : decode cX4_has 9 = .ok (.iload_n 3, 1) := by decide +kernel
theorem dX4_has_10 : decode cX4_has 10 = .ok (.invokevirtual 211, 3) := by decide +kernel
theorem dX4_has_13 : decode cX4_has 13 = .ok (.ifCond .ne 6, 3) := by decide +kernel
theorem dX4_has_16 : decode cX4_has 16 = .ok (.bipush (-2), 2) := by decide +kernel
theorem dX4_has_18 : decode cX4_has 18 = .ok (.ireturn, 1) := by decide +kernel
theorem dX4_has_19 : decode cX4_has 19 = .ok (.aload_n 0, 1) := by decide +kernel
theorem dX4_has_20 : decode cX4_has 20 = .ok (.aload_n 0, 1) := by decide +kernel
theorem dX4_has_21 : decode cX4_has 21 = .ok (.iload_n 1, 1) := by decide +kernel
theorem dX4_has_22 : decode cX4_has 22 = .ok (.iload_n 2, 1) := by decide +kernel
theorem dX4_has_23 : decode cX4_has 23 = .ok (.iload_n 3, 1) := by decide +kernel
theorem dX4_has_24 : decode cX4_has 24 = .ok (.invokevirtual 223, 3) := by decide +kernel
theorem dX4_has_27 : decode cX4_has 27 = .ok (.i2l, 1) := by decide +kernel
theorem dX4_has_28 : decode cX4_has 28 = .ok (.aload_n 0, 1) := by decide +kernel
theorem dX4_has_29 : decode cX4_has 29 = .ok (.invokevirtual 226, 3) := by decide +kernel
theorem dX4_has_32 : decode cX4_has 32 = .ok (.i2l, 1) := by decide +kernel
theorem dX4_has_33 : decode cX4_has 33 = .ok (.invokevirtual 229, 3) := by decide +kernel
theorem dX4_has_36 : decode cX4_has 36 = .ok (.iconst 1, 1) := by decide +kernel
theorem dX4_has_37 : decode cX4_has 37 = .ok (.ireturn, 1) := by decide +kernel
theorem dX4_hasAgainst_0 : decode cX4_hasAgainst 0 = .ok (.iload_n 1, 1) := by decide +kernel
theorem dX4_hasAgainst_1 : decode cX4_hasAgainst 1 = .ok (.ifCond .ne 13, 3) := by decide +kernel
theorem dX4_hasAgainst_4 : decode cX4_hasAgainst 4 = .ok (.aload_n 0, 1) := by decide +kernel
theorem dX4_hasAgainst_5 : decode cX4_hasAgainst 5 = .ok (.iconst 0, 1) := by decide +kernel
theorem dX4_hasAgainst_6 : decode cX4_hasAgainst 6 = .ok (.iload_n 2, 1) := by decide +kernel
theorem dX4_hasAgainst_7 : decode cX4_hasAgainst 7 = .ok (.iload_n 3, 1) := by decide +kernel
theorem dX4_hasAgainst_8 : decode cX4_hasAgainst 8 = .ok (.invokevirtual 223, 3) := by decide +kernel
theorem dX4_hasAgainst_11 : decode cX4_hasAgainst 11 = .ok (.goto 10, 3) := by decide +kernel
theorem dX4_hasAgainst_14 : decode cX4_hasAgainst 14 = .ok (.aload_n 0, 1) := by decide +kernel
theorem dX4_hasAgainst_15 : decode cX4_hasAgainst 15 = .ok (.iconst 1, 1) := by decide +kernel
theorem dX4_hasAgainst_16 : decode cX4_hasAgainst 16 = .ok (.iload_n 3, 1) := by decide +kernel
theorem dX4_hasAgainst_17 : decode cX4_hasAgainst 17 = .ok (.iload_n 2, 1) := by decide +kernel
theorem dX4_hasAgainst_18 : decode cX4_hasAgainst 18 = .ok (.invokevirtual 223, 3) := by decide +kernel
theorem dX4_hasAgainst_21 : decode cX4_hasAgainst 21 = .ok (.ireturn, 1) := by decide +kernel
theorem dX4_bestMan_0 : decode cX4_bestMan 0 = .ok (.iconst 0, 1) := by decide +kernel
theorem dX4_bestMan_1 : decode cX4_bestMan 1 = .ok (.istore_n 3, 1) := by decide +kernel
theorem dX4_bestMan_2 : decode cX4_bestMan 2 = .ok (.aload_n 0, 1) := by decide +kernel
theorem dX4_bestMan_3 : decode cX4_bestMan 3 = .ok (.iload_n 1, 1) := by decide +kernel
theorem dX4_bestMan_4 : decode cX4_bestMan 4 = .ok (.iconst 0, 1) := by decide +kernel
theorem dX4_bestMan_5 : decode cX4_bestMan 5 = .ok (.iload_n 2, 1) := by decide +kernel
theorem dX4_bestMan_6 : decode cX4_bestMan 6 = .ok (.invokevirtual 233, 3) := by decide +kernel
theorem dX4_bestMan_9 : decode cX4_bestMan 9 = .ok (.istore 4, 2) := by decide +kernel
theorem dX4_bestMan_11 : decode cX4_bestMan 11 = .ok (.iconst 1, 1) := by decide +kernel
theorem dX4_bestMan_12 : decode cX4_bestMan 12 = .ok (.istore 5, 2) := by decide +kernel
theorem dX4_bestMan_14 : decode cX4_bestMan 14 = .ok (.iload 5, 2) := by decide +kernel
theorem dX4_bestMan_16 : decode cX4_bestMan 16 = .ok (.aload_n 0, 1) := by decide +kernel
theorem dX4_bestMan_17 : decode cX4_bestMan 17 = .ok (.getfield 20, 3) := by decide +kernel
theorem dX4_bestMan_20 : decode cX4_bestMan 20 = .ok (.iload_n 1, 1) := by decide +kernel
theorem dX4_bestMan_21 : decode cX4_bestMan 21 = .ok (.iaload, 1) := by decide +kernel
theorem dX4_bestMan_22 : decode cX4_bestMan 22 = .ok (.if_icmp .ge 49, 3) := by decide +kernel
theorem dX4_bestMan_25 : decode cX4_bestMan 25 = .ok (.aload_n 0, 1) := by decide +kernel
theorem dX4_bestMan_26 : decode cX4_bestMan 26 = .ok (.iload_n 1, 1) := by decide +kernel
theorem dX4_bestMan_27 : decode cX4_bestMan 27 = .ok (.iload 5, 2) := by decide +kernel
theorem dX4_bestMan_29 : decode cX4_bestMan 29 = .ok (.iload_n 2, 1) := by decide +kernel
theorem dX4_bestMan_30 : decode cX4_bestMan 30 = .ok (.invokevirtual 233, 3) := by decide +kernel
theorem dX4_bestMan_33 : decode cX4_bestMan 33 = .ok (.istore 6, 2) := by decide +kernel
theorem dX4_bestMan_35 : decode cX4_bestMan 35 = .ok (.iload 6, 2) := by decide +kernel
theorem dX4_bestMan_37 : decode cX4_bestMan 37 = .ok (.iload 4, 2) := by decide +kernel
theorem dX4_bestMan_39 : decode cX4_bestMan 39 = .ok (.if_icmp .le 8, 3) := by decide +kernel
theorem dX4_bestMan_42 : decode cX4_bestMan 42 = .ok (.iload 5, 2) := by decide +kernel
theorem dX4_bestMan_44 : decode cX4_bestMan 44 = .ok (.goto 4, 3) := by decide +kernel
theorem dX4_bestMan_47 : decode cX4_bestMan 47 = .ok (.iload_n 3, 1) := by decide +kernel
theorem dX4_bestMan_48 : decode cX4_bestMan 48 = .ok (.istore_n 3, 1) := by decide +kernel
theorem dX4_bestMan_49 : decode cX4_bestMan 49 = .ok (.iload 6, 2) := by decide +kernel
theorem dX4_bestMan_51 : decode cX4_bestMan 51 = .ok (.iload 4, 2) := by decide +kernel
theorem dX4_bestMan_53 : decode cX4_bestMan 53 = .ok (.if_icmp .le 8, 3) := by decide +kernel
theorem dX4_bestMan_56 : decode cX4_bestMan 56 = .ok (.iload 6, 2) := by decide +kernel
theorem dX4_bestMan_58 : decode cX4_bestMan 58 = .ok (.goto 5, 3) := by decide +kernel
theorem dX4_bestMan_61 : decode cX4_bestMan 61 = .ok (.iload 4, 2) := by decide +kernel
theorem dX4_bestMan_63 : decode cX4_bestMan 63 = .ok (.istore 4, 2) := by decide +kernel
theorem dX4_bestMan_65 : decode cX4_bestMan 65 = .ok (.iinc 5 1, 3) := by decide +kernel
theorem dX4_bestMan_68 : decode cX4_bestMan 68 = .ok (.goto (-54), 3) := by decide +kernel
theorem dX4_bestMan_71 : decode cX4_bestMan 71 = .ok (.iload_n 3, 1) := by decide +kernel
theorem dX4_bestMan_72 : decode cX4_bestMan 72 = .ok (.ireturn, 1) := by decide +kernel
theorem dX4_best_0 : decode cX4_best 0 = .ok (.iload_n 1, 1) := by decide +kernel
theorem dX4_best_1 : decode cX4_best 1 = .ok (.invokestatic 69, 3) := by decide +kernel
theorem dX4_best_4 : decode cX4_best 4 = .ok (.ifCond .eq 23, 3) := by decide +kernel
theorem dX4_best_7 : decode cX4_best 7 = .ok (.aload_n 0, 1) := by decide +kernel
theorem dX4_best_8 : decode cX4_best 8 = .ok (.iconst 1, 1) := by decide +kernel
theorem dX4_best_9 : decode cX4_best 9 = .ok (.iload_n 1, 1) := by decide +kernel
theorem dX4_best_10 : decode cX4_best 10 = .ok (.isub, 1) := by decide +kernel
theorem dX4_best_11 : decode cX4_best 11 = .ok (.iload_n 2, 1) := by decide +kernel
theorem dX4_best_12 : decode cX4_best 12 = .ok (.invokevirtual 87, 3) := by decide +kernel
theorem dX4_best_15 : decode cX4_best 15 = .ok (.ifCond .eq 12, 3) := by decide +kernel
theorem dX4_best_18 : decode cX4_best 18 = .ok (.aload_n 0, 1) := by decide +kernel
theorem dX4_best_19 : decode cX4_best 19 = .ok (.iload_n 1, 1) := by decide +kernel
theorem dX4_best_20 : decode cX4_best 20 = .ok (.iload_n 2, 1) := by decide +kernel
theorem dX4_best_21 : decode cX4_best 21 = .ok (.invokevirtual 236, 3) := by decide +kernel
theorem dX4_best_24 : decode cX4_best 24 = .ok (.goto 5, 3) := by decide +kernel
theorem dX4_best_27 : decode cX4_best 27 = .ok (.bipush (-2), 2) := by decide +kernel
theorem dX4_best_29 : decode cX4_best 29 = .ok (.ireturn, 1) := by decide +kernel
theorem dX4_layTable_0 : decode cX4_layTable 0 = .ok (.aload_n 0, 1) := by decide +kernel
theorem dX4_layTable_1 : decode cX4_layTable 1 = .ok (.iconst 0, 1) := by decide +kernel
theorem dX4_layTable_2 : decode cX4_layTable 2 = .ok (.putfield 239, 3) := by decide +kernel
theorem dX4_layTable_5 : decode cX4_layTable 5 = .ok (.iconst 0, 1) := by decide +kernel
theorem dX4_layTable_6 : decode cX4_layTable 6 = .ok (.istore_n 1, 1) := by decide +kernel
theorem dX4_layTable_7 : decode cX4_layTable 7 = .ok (.iload_n 1, 1) := by decide +kernel
theorem dX4_layTable_8 : decode cX4_layTable 8 = .ok (.aload_n 0, 1) := by decide +kernel
theorem dX4_layTable_9 : decode cX4_layTable 9 = .ok (.getfield 20, 3) := by decide +kernel
theorem dX4_layTable_12 : decode cX4_layTable 12 = .ok (.iconst 0, 1) := by decide +kernel
theorem dX4_layTable_13 : decode cX4_layTable 13 = .ok (.iaload, 1) := by decide +kernel
theorem dX4_layTable_14 : decode cX4_layTable 14 = .ok (.if_icmp .ge 84, 3) := by decide +kernel
theorem dX4_layTable_17 : decode cX4_layTable 17 = .ok (.iconst 0, 1) := by decide +kernel
theorem dX4_layTable_18 : decode cX4_layTable 18 = .ok (.istore_n 2, 1) := by decide +kernel
theorem dX4_layTable_19 : decode cX4_layTable 19 = .ok (.iload_n 2, 1) := by decide +kernel
theorem dX4_layTable_20 : decode cX4_layTable 20 = .ok (.aload_n 0, 1) := by decide +kernel
theorem dX4_layTable_21 : decode cX4_layTable 21 = .ok (.getfield 20, 3) := by decide +kernel
theorem dX4_layTable_24 : decode cX4_layTable 24 = .ok (.iconst 1, 1) := by decide +kernel
theorem dX4_layTable_25 : decode cX4_layTable 25 = .ok (.iaload, 1) := by decide +kernel
theorem dX4_layTable_26 : decode cX4_layTable 26 = .ok (.if_icmp .ge 66, 3) := by decide +kernel
theorem dX4_layTable_29 : decode cX4_layTable 29 = .ok (.aload_n 0, 1) := by decide +kernel
theorem dX4_layTable_30 : decode cX4_layTable 30 = .ok (.getfield 59, 3) := by decide +kernel
theorem dX4_layTable_33 : decode cX4_layTable 33 = .ok (.iconst 5, 1) := by decide +kernel
theorem dX4_layTable_34 : decode cX4_layTable 34 = .ok (.iload_n 1, 1) := by decide +kernel
theorem dX4_layTable_35 : decode cX4_layTable 35 = .ok (.imul, 1) := by decide +kernel
theorem dX4_layTable_36 : decode cX4_layTable 36 = .ok (.iload_n 2, 1) := by decide +kernel
theorem dX4_layTable_37 : decode cX4_layTable 37 = .ok (.iadd, 1) := by decide +kernel
theorem dX4_layTable_38 : decode cX4_layTable 38 = .ok (.aload_n 0, 1) := by decide +kernel
theorem dX4_layTable_39 : decode cX4_layTable 39 = .ok (.iconst 0, 1) := by decide +kernel
theorem dX4_layTable_40 : decode cX4_layTable 40 = .ok (.iload_n 1, 1) := by decide +kernel
theorem dX4_layTable_41 : decode cX4_layTable 41 = .ok (.iload_n 2, 1) := by decide +kernel
theorem dX4_layTable_42 : decode cX4_layTable 42 = .ok (.invokevirtual 223, 3) := by decide +kernel
theorem dX4_layTable_45 : decode cX4_layTable 45 = .ok (.iastore, 1) := by decide +kernel
theorem dX4_layTable_46 : decode cX4_layTable 46 = .ok (.aload_n 0, 1) := by decide +kernel
theorem dX4_layTable_47 : decode cX4_layTable 47 = .ok (.getfield 62, 3) := by decide +kernel
theorem dX4_layTable_50 : decode cX4_layTable 50 = .ok (.iconst 5, 1) := by decide +kernel
theorem dX4_layTable_51 : decode cX4_layTable 51 = .ok (.iload_n 1, 1) := by decide +kernel
theorem dX4_layTable_52 : decode cX4_layTable 52 = .ok (.imul, 1) := by decide +kernel
theorem dX4_layTable_53 : decode cX4_layTable 53 = .ok (.iload_n 2, 1) := by decide +kernel
theorem dX4_layTable_54 : decode cX4_layTable 54 = .ok (.iadd, 1) := by decide +kernel
theorem dX4_layTable_55 : decode cX4_layTable 55 = .ok (.aload_n 0, 1) := by decide +kernel
theorem dX4_layTable_56 : decode cX4_layTable 56 = .ok (.iconst 1, 1) := by decide +kernel
theorem dX4_layTable_57 : decode cX4_layTable 57 = .ok (.iload_n 1, 1) := by decide +kernel
theorem dX4_layTable_58 : decode cX4_layTable 58 = .ok (.iload_n 2, 1) := by decide +kernel
theorem dX4_layTable_59 : decode cX4_layTable 59 = .ok (.invokevirtual 223, 3) := by decide +kernel
theorem dX4_layTable_62 : decode cX4_layTable 62 = .ok (.iastore, 1) := by decide +kernel
theorem dX4_layTable_63 : decode cX4_layTable 63 = .ok (.aload_n 0, 1) := by decide +kernel
theorem dX4_layTable_64 : decode cX4_layTable 64 = .ok (.dup, 1) := by decide +kernel
theorem dX4_layTable_65 : decode cX4_layTable 65 = .ok (.getfield 239, 3) := by decide +kernel
theorem dX4_layTable_68 : decode cX4_layTable 68 = .ok (.aload_n 0, 1) := by decide +kernel
theorem dX4_layTable_69 : decode cX4_layTable 69 = .ok (.getfield 180, 3) := by decide +kernel
theorem dX4_layTable_72 : decode cX4_layTable 72 = .ok (.bipush (-5), 2) := by decide +kernel
theorem dX4_layTable_74 : decode cX4_layTable 74 = .ok (.if_icmp .ne 7, 3) := by decide +kernel
theorem dX4_layTable_77 : decode cX4_layTable 77 = .ok (.iconst 1, 1) := by decide +kernel
theorem dX4_layTable_78 : decode cX4_layTable 78 = .ok (.goto 4, 3) := by decide +kernel
theorem dX4_layTable_81 : decode cX4_layTable 81 = .ok (.iconst 0, 1) := by decide +kernel
theorem dX4_layTable_82 : decode cX4_layTable 82 = .ok (.iadd, 1) := by decide +kernel
theorem dX4_layTable_83 : decode cX4_layTable 83 = .ok (.putfield 239, 3) := by decide +kernel
theorem dX4_layTable_86 : decode cX4_layTable 86 = .ok (.iinc 2 1, 3) := by decide +kernel
theorem dX4_layTable_89 : decode cX4_layTable 89 = .ok (.goto (-70), 3) := by decide +kernel
theorem dX4_layTable_92 : decode cX4_layTable 92 = .ok (.iinc 1 1, 3) := by decide +kernel
theorem dX4_layTable_95 : decode cX4_layTable 95 = .ok (.goto (-88), 3) := by decide +kernel
theorem dX4_layTable_98 : decode cX4_layTable 98 = .ok (.return_, 1) := by decide +kernel
theorem dX4_isRest_0 : decode cX4_isRest 0 = .ok (.iconst 1, 1) := by decide +kernel
theorem dX4_isRest_1 : decode cX4_isRest 1 = .ok (.istore_n 3, 1) := by decide +kernel
theorem dX4_isRest_2 : decode cX4_isRest 2 = .ok (.iconst 0, 1) := by decide +kernel
theorem dX4_isRest_3 : decode cX4_isRest 3 = .ok (.istore 4, 2) := by decide +kernel
theorem dX4_isRest_5 : decode cX4_isRest 5 = .ok (.iload 4, 2) := by decide +kernel
theorem dX4_isRest_7 : decode cX4_isRest 7 = .ok (.aload_n 0, 1) := by decide +kernel
theorem dX4_isRest_8 : decode cX4_isRest 8 = .ok (.getfield 20, 3) := by decide +kernel
theorem dX4_isRest_11 : decode cX4_isRest 11 = .ok (.iconst 0, 1) := by decide +kernel
theorem dX4_isRest_12 : decode cX4_isRest 12 = .ok (.iaload, 1) := by decide +kernel
theorem dX4_isRest_13 : decode cX4_isRest 13 = .ok (.if_icmp .ge 43, 3) := by decide +kernel
theorem dX4_isRest_16 : decode cX4_isRest 16 = .ok (.iload_n 3, 1) := by decide +kernel
theorem dX4_isRest_17 : decode cX4_isRest 17 = .ok (.ifCond .eq 31, 3) := by decide +kernel
theorem dX4_isRest_20 : decode cX4_isRest 20 = .ok (.aload_n 0, 1) := by decide +kernel
theorem dX4_isRest_21 : decode cX4_isRest 21 = .ok (.getfield 59, 3) := by decide +kernel
theorem dX4_isRest_24 : decode cX4_isRest 24 = .ok (.iconst 5, 1) := by decide +kernel
theorem dX4_isRest_25 : decode cX4_isRest 25 = .ok (.iload_n 1, 1) := by decide +kernel
theorem dX4_isRest_26 : decode cX4_isRest 26 = .ok (.imul, 1) := by decide +kernel
theorem dX4_isRest_27 : decode cX4_isRest 27 = .ok (.iload_n 2, 1) := by decide +kernel
theorem dX4_isRest_28 : decode cX4_isRest 28 = .ok (.iadd, 1) := by decide +kernel
theorem dX4_isRest_29 : decode cX4_isRest 29 = .ok (.iaload, 1) := by decide +kernel
theorem dX4_isRest_30 : decode cX4_isRest 30 = .ok (.aload_n 0, 1) := by decide +kernel
theorem dX4_isRest_31 : decode cX4_isRest 31 = .ok (.getfield 59, 3) := by decide +kernel
theorem dX4_isRest_34 : decode cX4_isRest 34 = .ok (.iconst 5, 1) := by decide +kernel
theorem dX4_isRest_35 : decode cX4_isRest 35 = .ok (.iload 4, 2) := by decide +kernel
theorem dX4_isRest_37 : decode cX4_isRest 37 = .ok (.imul, 1) := by decide +kernel
theorem dX4_isRest_38 : decode cX4_isRest 38 = .ok (.iload_n 2, 1) := by decide +kernel
theorem dX4_isRest_39 : decode cX4_isRest 39 = .ok (.iadd, 1) := by decide +kernel
theorem dX4_isRest_40 : decode cX4_isRest 40 = .ok (.iaload, 1) := by decide +kernel
theorem dX4_isRest_41 : decode cX4_isRest 41 = .ok (.if_icmp .lt 7, 3) := by decide +kernel
theorem dX4_isRest_44 : decode cX4_isRest 44 = .ok (.iconst 1, 1) := by decide +kernel
theorem dX4_isRest_45 : decode cX4_isRest 45 = .ok (.goto 4, 3) := by decide +kernel
theorem dX4_isRest_48 : decode cX4_isRest 48 = .ok (.iconst 0, 1) := by decide +kernel
theorem dX4_isRest_49 : decode cX4_isRest 49 = .ok (.istore_n 3, 1) := by decide +kernel
theorem dX4_isRest_50 : decode cX4_isRest 50 = .ok (.iinc 4 1, 3) := by decide +kernel
theorem dX4_isRest_53 : decode cX4_isRest 53 = .ok (.goto (-48), 3) := by decide +kernel
theorem dX4_isRest_56 : decode cX4_isRest 56 = .ok (.iconst 0, 1) := by decide +kernel
theorem dX4_isRest_57 : decode cX4_isRest 57 = .ok (.istore 4, 2) := by decide +kernel
theorem dX4_isRest_59 : decode cX4_isRest 59 = .ok (.iload 4, 2) := by decide +kernel
theorem dX4_isRest_61 : decode cX4_isRest 61 = .ok (.aload_n 0, 1) := by decide +kernel
theorem dX4_isRest_62 : decode cX4_isRest 62 = .ok (.getfield 20, 3) := by decide +kernel
theorem dX4_isRest_65 : decode cX4_isRest 65 = .ok (.iconst 1, 1) := by decide +kernel
theorem dX4_isRest_66 : decode cX4_isRest 66 = .ok (.iaload, 1) := by decide +kernel
theorem dX4_isRest_67 : decode cX4_isRest 67 = .ok (.if_icmp .ge 43, 3) := by decide +kernel
theorem dX4_isRest_70 : decode cX4_isRest 70 = .ok (.iload_n 3, 1) := by decide +kernel
theorem dX4_isRest_71 : decode cX4_isRest 71 = .ok (.ifCond .eq 31, 3) := by decide +kernel
theorem dX4_isRest_74 : decode cX4_isRest 74 = .ok (.aload_n 0, 1) := by decide +kernel
theorem dX4_isRest_75 : decode cX4_isRest 75 = .ok (.getfield 62, 3) := by decide +kernel
theorem dX4_isRest_78 : decode cX4_isRest 78 = .ok (.iconst 5, 1) := by decide +kernel
theorem dX4_isRest_79 : decode cX4_isRest 79 = .ok (.iload_n 1, 1) := by decide +kernel
theorem dX4_isRest_80 : decode cX4_isRest 80 = .ok (.imul, 1) := by decide +kernel
theorem dX4_isRest_81 : decode cX4_isRest 81 = .ok (.iload_n 2, 1) := by decide +kernel
theorem dX4_isRest_82 : decode cX4_isRest 82 = .ok (.iadd, 1) := by decide +kernel
theorem dX4_isRest_83 : decode cX4_isRest 83 = .ok (.iaload, 1) := by decide +kernel
theorem dX4_isRest_84 : decode cX4_isRest 84 = .ok (.aload_n 0, 1) := by decide +kernel
theorem dX4_isRest_85 : decode cX4_isRest 85 = .ok (.getfield 62, 3) := by decide +kernel
theorem dX4_isRest_88 : decode cX4_isRest 88 = .ok (.iconst 5, 1) := by decide +kernel
theorem dX4_isRest_89 : decode cX4_isRest 89 = .ok (.iload_n 1, 1) := by decide +kernel
theorem dX4_isRest_90 : decode cX4_isRest 90 = .ok (.imul, 1) := by decide +kernel
theorem dX4_isRest_91 : decode cX4_isRest 91 = .ok (.iload 4, 2) := by decide +kernel
theorem dX4_isRest_93 : decode cX4_isRest 93 = .ok (.iadd, 1) := by decide +kernel
theorem dX4_isRest_94 : decode cX4_isRest 94 = .ok (.iaload, 1) := by decide +kernel
theorem dX4_isRest_95 : decode cX4_isRest 95 = .ok (.if_icmp .lt 7, 3) := by decide +kernel
theorem dX4_isRest_98 : decode cX4_isRest 98 = .ok (.iconst 1, 1) := by decide +kernel
theorem dX4_isRest_99 : decode cX4_isRest 99 = .ok (.goto 4, 3) := by decide +kernel
theorem dX4_isRest_102 : decode cX4_isRest 102 = .ok (.iconst 0, 1) := by decide +kernel
theorem dX4_isRest_103 : decode cX4_isRest 103 = .ok (.istore_n 3, 1) := by decide +kernel
theorem dX4_isRest_104 : decode cX4_isRest 104 = .ok (.iinc 4 1, 3) := by decide +kernel
theorem dX4_isRest_107 : decode cX4_isRest 107 = .ok (.goto (-48), 3) := by decide +kernel
theorem dX4_isRest_110 : decode cX4_isRest 110 = .ok (.iload_n 3, 1) := by decide +kernel
theorem dX4_isRest_111 : decode cX4_isRest 111 = .ok (.ireturn, 1) := by decide +kernel
theorem dX4_restOf_0 : decode cX4_restOf 0 = .ok (.aload_n 0, 1) := by decide +kernel
theorem dX4_restOf_1 : decode cX4_restOf 1 = .ok (.invokevirtual 242, 3) := by decide +kernel
theorem dX4_restOf_4 : decode cX4_restOf 4 = .ok (.iconst 0, 1) := by decide +kernel
theorem dX4_restOf_5 : decode cX4_restOf 5 = .ok (.istore_n 2, 1) := by decide +kernel
theorem dX4_restOf_6 : decode cX4_restOf 6 = .ok (.iconst 0, 1) := by decide +kernel
theorem dX4_restOf_7 : decode cX4_restOf 7 = .ok (.istore_n 3, 1) := by decide +kernel
theorem dX4_restOf_8 : decode cX4_restOf 8 = .ok (.iload_n 3, 1) := by decide +kernel
theorem dX4_restOf_9 : decode cX4_restOf 9 = .ok (.aload_n 0, 1) := by decide +kernel
theorem dX4_restOf_10 : decode cX4_restOf 10 = .ok (.getfield 20, 3) := by decide +kernel
theorem dX4_restOf_13 : decode cX4_restOf 13 = .ok (.iconst 0, 1) := by decide +kernel
theorem dX4_restOf_14 : decode cX4_restOf 14 = .ok (.iaload, 1) := by decide +kernel
theorem dX4_restOf_15 : decode cX4_restOf 15 = .ok (.if_icmp .ge 55, 3) := by decide +kernel
theorem dX4_restOf_18 : decode cX4_restOf 18 = .ok (.iconst 0, 1) := by decide +kernel
theorem dX4_restOf_19 : decode cX4_restOf 19 = .ok (.istore 4, 2) := by decide +kernel
theorem dX4_restOf_21 : decode cX4_restOf 21 = .ok (.iload 4, 2) := by decide +kernel
theorem dX4_restOf_23 : decode cX4_restOf 23 = .ok (.aload_n 0, 1) := by decide +kernel
theorem dX4_restOf_24 : decode cX4_restOf 24 = .ok (.getfield 20, 3) := by decide +kernel
theorem dX4_restOf_27 : decode cX4_restOf 27 = .ok (.iconst 1, 1) := by decide +kernel
theorem dX4_restOf_28 : decode cX4_restOf 28 = .ok (.iaload, 1) := by decide +kernel
theorem dX4_restOf_29 : decode cX4_restOf 29 = .ok (.if_icmp .ge 35, 3) := by decide +kernel
theorem dX4_restOf_32 : decode cX4_restOf 32 = .ok (.aload_n 0, 1) := by decide +kernel
theorem dX4_restOf_33 : decode cX4_restOf 33 = .ok (.iload_n 3, 1) := by decide +kernel
theorem dX4_restOf_34 : decode cX4_restOf 34 = .ok (.iload 4, 2) := by decide +kernel
theorem dX4_restOf_36 : decode cX4_restOf 36 = .ok (.invokevirtual 245, 3) := by decide +kernel
theorem dX4_restOf_39 : decode cX4_restOf 39 = .ok (.ifCond .eq 19, 3) := by decide +kernel
theorem dX4_restOf_42 : decode cX4_restOf 42 = .ok (.iload_n 2, 1) := by decide +kernel
theorem dX4_restOf_43 : decode cX4_restOf 43 = .ok (.iload_n 1, 1) := by decide +kernel
theorem dX4_restOf_44 : decode cX4_restOf 44 = .ok (.if_icmp .ne 11, 3) := by decide +kernel
theorem dX4_restOf_47 : decode cX4_restOf 47 = .ok (.bipush 10, 2) := by decide +kernel
theorem dX4_restOf_49 : decode cX4_restOf 49 = .ok (.iload_n 3, 1) := by decide +kernel
theorem dX4_restOf_50 : decode cX4_restOf 50 = .ok (.imul, 1) := by decide +kernel
theorem dX4_restOf_51 : decode cX4_restOf 51 = .ok (.iload 4, 2) := by decide +kernel
theorem dX4_restOf_53 : decode cX4_restOf 53 = .ok (.iadd, 1) := by decide +kernel
theorem dX4_restOf_54 : decode cX4_restOf 54 = .ok (.ireturn, 1) := by decide +kernel
theorem dX4_restOf_55 : decode cX4_restOf 55 = .ok (.iinc 2 1, 3) := by decide +kernel
theorem dX4_restOf_58 : decode cX4_restOf 58 = .ok (.iinc 4 1, 3) := by decide +kernel
theorem dX4_restOf_61 : decode cX4_restOf 61 = .ok (.goto (-40), 3) := by decide +kernel
theorem dX4_restOf_64 : decode cX4_restOf 64 = .ok (.iinc 3 1, 3) := by decide +kernel
theorem dX4_restOf_67 : decode cX4_restOf 67 = .ok (.goto (-59), 3) := by decide +kernel
theorem dX4_restOf_70 : decode cX4_restOf 70 = .ok (.iload_n 1, 1) := by decide +kernel
theorem dX4_restOf_71 : decode cX4_restOf 71 = .ok (.iconst (-1), 1) := by decide +kernel
theorem dX4_restOf_72 : decode cX4_restOf 72 = .ok (.if_icmp .ne 7, 3) := by decide +kernel
theorem dX4_restOf_75 : decode cX4_restOf 75 = .ok (.iload_n 2, 1) := by decide +kernel
theorem dX4_restOf_76 : decode cX4_restOf 76 = .ok (.goto 5, 3) := by decide +kernel
theorem dX4_restOf_79 : decode cX4_restOf 79 = .ok (.bipush (-5), 2) := by decide +kernel
theorem dX4_restOf_81 : decode cX4_restOf 81 = .ok (.ireturn, 1) := by decide +kernel
theorem dX4_rest_0 : decode cX4_rest 0 = .ok (.iload_n 1, 1) := by decide +kernel
theorem dX4_rest_1 : decode cX4_rest 1 = .ok (.iconst (-1), 1) := by decide +kernel
theorem dX4_rest_2 : decode cX4_rest 2 = .ok (.if_icmp .ge 8, 3) := by decide +kernel
theorem dX4_rest_5 : decode cX4_rest 5 = .ok (.bipush (-10), 2) := by decide +kernel
theorem dX4_rest_7 : decode cX4_rest 7 = .ok (.goto 8, 3) := by decide +kernel
theorem dX4_rest_10 : decode cX4_rest 10 = .ok (.aload_n 0, 1) := by decide +kernel
theorem dX4_rest_11 : decode cX4_rest 11 = .ok (.iload_n 1, 1) := by decide +kernel
theorem dX4_rest_12 : decode cX4_rest 12 = .ok (.invokevirtual 248, 3) := by decide +kernel
theorem dX4_rest_15 : decode cX4_rest 15 = .ok (.ireturn, 1) := by decide +kernel
theorem dX4_lose_0 : decode cX4_lose 0 = .ok (.iload_n 1, 1) := by decide +kernel
theorem dX4_lose_1 : decode cX4_lose 1 = .ok (.i2l, 1) := by decide +kernel
theorem dX4_lose_2 : decode cX4_lose 2 = .ok (.lconst 0, 1) := by decide +kernel
theorem dX4_lose_3 : decode cX4_lose 3 = .ok (.lconst 1, 1) := by decide +kernel
theorem dX4_lose_4 : decode cX4_lose 4 = .ok (.invokestatic 65, 3) := by decide +kernel
theorem dX4_lose_7 : decode cX4_lose 7 = .ok (.ifCond .ne 6, 3) := by decide +kernel
theorem dX4_lose_10 : decode cX4_lose 10 = .ok (.bipush (-2), 2) := by decide +kernel
theorem dX4_lose_12 : decode cX4_lose 12 = .ok (.ireturn, 1) := by decide +kernel
theorem dX4_lose_13 : decode cX4_lose 13 = .ok (.aload_n 0, 1) := by decide +kernel
theorem dX4_lose_14 : decode cX4_lose 14 = .ok (.invokevirtual 242, 3) := by decide +kernel
theorem dX4_lose_17 : decode cX4_lose 17 = .ok (.iconst 0, 1) := by decide +kernel
theorem dX4_lose_18 : decode cX4_lose 18 = .ok (.istore_n 2, 1) := by decide +kernel
theorem dX4_lose_19 : decode cX4_lose 19 = .ok (.iconst 0, 1) := by decide +kernel
theorem dX4_lose_20 : decode cX4_lose 20 = .ok (.istore_n 3, 1) := by decide +kernel
theorem dX4_lose_21 : decode cX4_lose 21 = .ok (.iload_n 3, 1) := by decide +kernel
theorem dX4_lose_22 : decode cX4_lose 22 = .ok (.aload_n 0, 1) := by decide +kernel
theorem dX4_lose_23 : decode cX4_lose 23 = .ok (.getfield 20, 3) := by decide +kernel
theorem dX4_lose_26 : decode cX4_lose 26 = .ok (.iconst 0, 1) := by decide +kernel
theorem dX4_lose_27 : decode cX4_lose 27 = .ok (.iaload, 1) := by decide +kernel
theorem dX4_lose_28 : decode cX4_lose 28 = .ok (.if_icmp .ge 87, 3) := by decide +kernel
theorem dX4_lose_31 : decode cX4_lose 31 = .ok (.iconst 0, 1) := by decide +kernel
theorem dX4_lose_32 : decode cX4_lose 32 = .ok (.istore 4, 2) := by decide +kernel
theorem dX4_lose_34 : decode cX4_lose 34 = .ok (.iload 4, 2) := by decide +kernel
theorem dX4_lose_36 : decode cX4_lose 36 = .ok (.aload_n 0, 1) := by decide +kernel
theorem dX4_lose_37 : decode cX4_lose 37 = .ok (.getfield 20, 3) := by decide +kernel
theorem dX4_lose_40 : decode cX4_lose 40 = .ok (.iconst 1, 1) := by decide +kernel
theorem dX4_lose_41 : decode cX4_lose 41 = .ok (.iaload, 1) := by decide +kernel
theorem dX4_lose_42 : decode cX4_lose 42 = .ok (.if_icmp .ge 67, 3) := by decide +kernel
theorem dX4_lose_45 : decode cX4_lose 45 = .ok (.iload_n 2, 1) := by decide +kernel
theorem dX4_lose_46 : decode cX4_lose 46 = .ok (.aload_n 0, 1) := by decide +kernel
theorem dX4_lose_47 : decode cX4_lose 47 = .ok (.iload_n 3, 1) := by decide +kernel
theorem dX4_lose_48 : decode cX4_lose 48 = .ok (.iload 4, 2) := by decide +kernel
theorem dX4_lose_50 : decode cX4_lose 50 = .ok (.invokevirtual 245, 3) := by decide +kernel
theorem dX4_lose_53 : decode cX4_lose 53 = .ok (.ifCond .eq 47, 3) := by decide +kernel
theorem dX4_lose_56 : decode cX4_lose 56 = .ok (.aload_n 0, 1) := by decide +kernel
theorem dX4_lose_57 : decode cX4_lose 57 = .ok (.getfield 59, 3) := by decide +kernel
theorem dX4_lose_60 : decode cX4_lose 60 = .ok (.iconst 5, 1) := by decide +kernel
theorem dX4_lose_61 : decode cX4_lose 61 = .ok (.iload_n 3, 1) := by decide +kernel
theorem dX4_lose_62 : decode cX4_lose 62 = .ok (.imul, 1) := by decide +kernel
theorem dX4_lose_63 : decode cX4_lose 63 = .ok (.iload 4, 2) := by decide +kernel
theorem dX4_lose_65 : decode cX4_lose 65 = .ok (.iadd, 1) := by decide +kernel
theorem dX4_lose_66 : decode cX4_lose 66 = .ok (.iaload, 1) := by decide +kernel
theorem dX4_lose_67 : decode cX4_lose 67 = .ok (.aload_n 0, 1) := by decide +kernel
theorem dX4_lose_68 : decode cX4_lose 68 = .ok (.getfield 59, 3) := by decide +kernel
theorem dX4_lose_71 : decode cX4_lose 71 = .ok (.iconst 0, 1) := by decide +kernel
theorem dX4_lose_72 : decode cX4_lose 72 = .ok (.iaload, 1) := by decide +kernel
theorem dX4_lose_73 : decode cX4_lose 73 = .ok (.if_icmp .ge 27, 3) := by decide +kernel
theorem dX4_lose_76 : decode cX4_lose 76 = .ok (.aload_n 0, 1) := by decide +kernel
theorem dX4_lose_77 : decode cX4_lose 77 = .ok (.getfield 62, 3) := by decide +kernel
theorem dX4_lose_80 : decode cX4_lose 80 = .ok (.iconst 5, 1) := by decide +kernel
theorem dX4_lose_81 : decode cX4_lose 81 = .ok (.iload_n 3, 1) := by decide +kernel
theorem dX4_lose_82 : decode cX4_lose 82 = .ok (.imul, 1) := by decide +kernel
theorem dX4_lose_83 : decode cX4_lose 83 = .ok (.iload 4, 2) := by decide +kernel
theorem dX4_lose_85 : decode cX4_lose 85 = .ok (.iadd, 1) := by decide +kernel
theorem dX4_lose_86 : decode cX4_lose 86 = .ok (.iaload, 1) := by decide +kernel
theorem dX4_lose_87 : decode cX4_lose 87 = .ok (.aload_n 0, 1) := by decide +kernel
theorem dX4_lose_88 : decode cX4_lose 88 = .ok (.getfield 62, 3) := by decide +kernel
theorem dX4_lose_91 : decode cX4_lose 91 = .ok (.iconst 0, 1) := by decide +kernel
theorem dX4_lose_92 : decode cX4_lose 92 = .ok (.iaload, 1) := by decide +kernel
theorem dX4_lose_93 : decode cX4_lose 93 = .ok (.if_icmp .ge 7, 3) := by decide +kernel
theorem dX4_lose_96 : decode cX4_lose 96 = .ok (.iconst 1, 1) := by decide +kernel
theorem dX4_lose_97 : decode cX4_lose 97 = .ok (.goto 4, 3) := by decide +kernel
theorem dX4_lose_100 : decode cX4_lose 100 = .ok (.iconst 0, 1) := by decide +kernel
theorem dX4_lose_101 : decode cX4_lose 101 = .ok (.iadd, 1) := by decide +kernel
theorem dX4_lose_102 : decode cX4_lose 102 = .ok (.istore_n 2, 1) := by decide +kernel
theorem dX4_lose_103 : decode cX4_lose 103 = .ok (.iinc 4 1, 3) := by decide +kernel
theorem dX4_lose_106 : decode cX4_lose 106 = .ok (.goto (-72), 3) := by decide +kernel
theorem dX4_lose_109 : decode cX4_lose 109 = .ok (.iinc 3 1, 3) := by decide +kernel
theorem dX4_lose_112 : decode cX4_lose 112 = .ok (.goto (-91), 3) := by decide +kernel
theorem dX4_lose_115 : decode cX4_lose 115 = .ok (.iload_n 1, 1) := by decide +kernel
theorem dX4_lose_116 : decode cX4_lose 116 = .ok (.ifCond .ne 7, 3) := by decide +kernel
theorem dX4_lose_119 : decode cX4_lose 119 = .ok (.iload_n 2, 1) := by decide +kernel
theorem dX4_lose_120 : decode cX4_lose 120 = .ok (.goto 7, 3) := by decide +kernel
theorem dX4_lose_123 : decode cX4_lose 123 = .ok (.aload_n 0, 1) := by decide +kernel
theorem dX4_lose_124 : decode cX4_lose 124 = .ok (.getfield 239, 3) := by decide +kernel
theorem dX4_lose_127 : decode cX4_lose 127 = .ok (.ireturn, 1) := by decide +kernel
theorem dX4_weight_0 : decode cX4_weight 0 = .ok (.aload_n 0, 1) := by decide +kernel
theorem dX4_weight_1 : decode cX4_weight 1 = .ok (.iload_n 1, 1) := by decide +kernel
theorem dX4_weight_2 : decode cX4_weight 2 = .ok (.iload_n 2, 1) := by decide +kernel
theorem dX4_weight_3 : decode cX4_weight 3 = .ok (.invokevirtual 87, 3) := by decide +kernel
theorem dX4_weight_6 : decode cX4_weight 6 = .ok (.ifCond .eq 15, 3) := by decide +kernel
theorem dX4_weight_9 : decode cX4_weight 9 = .ok (.iload_n 3, 1) := by decide +kernel
theorem dX4_weight_10 : decode cX4_weight 10 = .ok (.i2l, 1) := by decide +kernel
theorem dX4_weight_11 : decode cX4_weight 11 = .ok (.lconst 0, 1) := by decide +kernel
theorem dX4_weight_12 : decode cX4_weight 12 = .ok (.ldc2_w 107, 3) := by decide +kernel
theorem dX4_weight_15 : decode cX4_weight 15 = .ok (.invokestatic 65, 3) := by decide +kernel
theorem dX4_weight_18 : decode cX4_weight 18 = .ok (.ifCond .ne 6, 3) := by decide +kernel
theorem dX4_weight_21 : decode cX4_weight 21 = .ok (.bipush (-2), 2) := by decide +kernel
theorem dX4_weight_23 : decode cX4_weight 23 = .ok (.ireturn, 1) := by decide +kernel
theorem dX4_weight_24 : decode cX4_weight 24 = .ok (.aload_n 0, 1) := by decide +kernel
theorem dX4_weight_25 : decode cX4_weight 25 = .ok (.getfield 17, 3) := by decide +kernel
theorem dX4_weight_28 : decode cX4_weight 28 = .ok (.iconst 5, 1) := by decide +kernel
theorem dX4_weight_29 : decode cX4_weight 29 = .ok (.iload_n 1, 1) := by decide +kernel
theorem dX4_weight_30 : decode cX4_weight 30 = .ok (.imul, 1) := by decide +kernel
theorem dX4_weight_31 : decode cX4_weight 31 = .ok (.iload_n 2, 1) := by decide +kernel
theorem dX4_weight_32 : decode cX4_weight 32 = .ok (.iadd, 1) := by decide +kernel
theorem dX4_weight_33 : decode cX4_weight 33 = .ok (.iaload, 1) := by decide +kernel
theorem dX4_weight_34 : decode cX4_weight 34 = .ok (.istore 4, 2) := by decide +kernel
theorem dX4_weight_36 : decode cX4_weight 36 = .ok (.aload_n 0, 1) := by decide +kernel
theorem dX4_weight_37 : decode cX4_weight 37 = .ok (.getfield 17, 3) := by decide +kernel
theorem dX4_weight_40 : decode cX4_weight 40 = .ok (.iconst 5, 1) := by decide +kernel
theorem dX4_weight_41 : decode cX4_weight 41 = .ok (.iload_n 1, 1) := by decide +kernel
theorem dX4_weight_42 : decode cX4_weight 42 = .ok (.imul, 1) := by decide +kernel
theorem dX4_weight_43 : decode cX4_weight 43 = .ok (.iload_n 2, 1) := by decide +kernel
theorem dX4_weight_44 : decode cX4_weight 44 = .ok (.iadd, 1) := by decide +kernel
theorem dX4_weight_45 : decode cX4_weight 45 = .ok (.iload_n 3, 1) := by decide +kernel
theorem dX4_weight_46 : decode cX4_weight 46 = .ok (.iastore, 1) := by decide +kernel
theorem dX4_weight_47 : decode cX4_weight 47 = .ok (.iload 4, 2) := by decide +kernel
theorem dX4_weight_49 : decode cX4_weight 49 = .ok (.ireturn, 1) := by decide +kernel
theorem dX4_thought_0 : decode cX4_thought 0 = .ok (.iload_n 1, 1) := by decide +kernel
theorem dX4_thought_1 : decode cX4_thought 1 = .ok (.invokestatic 69, 3) := by decide +kernel
theorem dX4_thought_4 : decode cX4_thought 4 = .ok (.ifCond .ne 6, 3) := by decide +kernel
theorem dX4_thought_7 : decode cX4_thought 7 = .ok (.bipush (-2), 2) := by decide +kernel
theorem dX4_thought_9 : decode cX4_thought 9 = .ok (.ireturn, 1) := by decide +kernel
theorem dX4_thought_10 : decode cX4_thought 10 = .ok (.iconst 0, 1) := by decide +kernel
theorem dX4_thought_11 : decode cX4_thought 11 = .ok (.istore_n 2, 1) := by decide +kernel
theorem dX4_thought_12 : decode cX4_thought 12 = .ok (.iconst 0, 1) := by decide +kernel
theorem dX4_thought_13 : decode cX4_thought 13 = .ok (.istore_n 3, 1) := by decide +kernel
theorem dX4_thought_14 : decode cX4_thought 14 = .ok (.iload_n 3, 1) := by decide +kernel
theorem dX4_thought_15 : decode cX4_thought 15 = .ok (.aload_n 0, 1) := by decide +kernel
theorem dX4_thought_16 : decode cX4_thought 16 = .ok (.getfield 20, 3) := by decide +kernel
theorem dX4_thought_19 : decode cX4_thought 19 = .ok (.iconst 1, 1) := by decide +kernel
theorem dX4_thought_20 : decode cX4_thought 20 = .ok (.iload_n 1, 1) := by decide +kernel
theorem dX4_thought_21 : decode cX4_thought 21 = .ok (.isub, 1) := by decide +kernel
theorem dX4_thought_22 : decode cX4_thought 22 = .ok (.iaload, 1) := by decide +kernel
theorem dX4_thought_23 : decode cX4_thought 23 = .ok (.if_icmp .ge 24, 3) := by decide +kernel
theorem dX4_thought_26 : decode cX4_thought 26 = .ok (.iload_n 2, 1) := by decide +kernel
theorem dX4_thought_27 : decode cX4_thought 27 = .ok (.aload_n 0, 1) := by decide +kernel
theorem dX4_thought_28 : decode cX4_thought 28 = .ok (.getfield 17, 3) := by decide +kernel
theorem dX4_thought_31 : decode cX4_thought 31 = .ok (.iconst 5, 1) := by decide +kernel
theorem dX4_thought_32 : decode cX4_thought 32 = .ok (.iconst 1, 1) := by decide +kernel
theorem dX4_thought_33 : decode cX4_thought 33 = .ok (.iload_n 1, 1) := by decide +kernel
theorem dX4_thought_34 : decode cX4_thought 34 = .ok (.isub, 1) := by decide +kernel
theorem dX4_thought_35 : decode cX4_thought 35 = .ok (.imul, 1) := by decide +kernel
theorem dX4_thought_36 : decode cX4_thought 36 = .ok (.iload_n 3, 1) := by decide +kernel
theorem dX4_thought_37 : decode cX4_thought 37 = .ok (.iadd, 1) := by decide +kernel
theorem dX4_thought_38 : decode cX4_thought 38 = .ok (.iaload, 1) := by decide +kernel
theorem dX4_thought_39 : decode cX4_thought 39 = .ok (.iadd, 1) := by decide +kernel
theorem dX4_thought_40 : decode cX4_thought 40 = .ok (.istore_n 2, 1) := by decide +kernel
theorem dX4_thought_41 : decode cX4_thought 41 = .ok (.iinc 3 1, 3) := by decide +kernel
theorem dX4_thought_44 : decode cX4_thought 44 = .ok (.goto (-30), 3) := by decide +kernel
theorem dX4_thought_47 : decode cX4_thought 47 = .ok (.iload_n 2, 1) := by decide +kernel
theorem dX4_thought_48 : decode cX4_thought 48 = .ok (.ifCond .ne 6, 3) := by decide +kernel
theorem dX4_thought_51 : decode cX4_thought 51 = .ok (.bipush (-3), 2) := by decide +kernel
theorem dX4_thought_53 : decode cX4_thought 53 = .ok (.ireturn, 1) := by decide +kernel
theorem dX4_thought_54 : decode cX4_thought 54 = .ok (.iconst (-1), 1) := by decide +kernel
theorem dX4_thought_55 : decode cX4_thought 55 = .ok (.istore_n 3, 1) := by decide +kernel
theorem dX4_thought_56 : decode cX4_thought 56 = .ok (.lconst 0, 1) := by decide +kernel
theorem dX4_thought_57 : decode cX4_thought 57 = .ok (.lstore 4, 2) := by decide +kernel
theorem dX4_thought_59 : decode cX4_thought 59 = .ok (.iconst 0, 1) := by decide +kernel
theorem dX4_thought_60 : decode cX4_thought 60 = .ok (.istore 6, 2) := by decide +kernel
theorem dX4_thought_62 : decode cX4_thought 62 = .ok (.iload 6, 2) := by decide +kernel
theorem dX4_thought_64 : decode cX4_thought 64 = .ok (.aload_n 0, 1) := by decide +kernel
theorem dX4_thought_65 : decode cX4_thought 65 = .ok (.getfield 20, 3) := by decide +kernel
theorem dX4_thought_68 : decode cX4_thought 68 = .ok (.iload_n 1, 1) := by decide +kernel
theorem dX4_thought_69 : decode cX4_thought 69 = .ok (.iaload, 1) := by decide +kernel
theorem dX4_thought_70 : decode cX4_thought 70 = .ok (.if_icmp .ge 84, 3) := by decide +kernel
theorem dX4_thought_73 : decode cX4_thought 73 = .ok (.lconst 0, 1) := by decide +kernel
theorem dX4_thought_74 : decode cX4_thought 74 = .ok (.lstore 7, 2) := by decide +kernel
theorem dX4_thought_76 : decode cX4_thought 76 = .ok (.iconst 0, 1) := by decide +kernel
theorem dX4_thought_77 : decode cX4_thought 77 = .ok (.istore 9, 2) := by decide +kernel
theorem dX4_thought_79 : decode cX4_thought 79 = .ok (.iload 9, 2) := by decide +kernel
theorem dX4_thought_81 : decode cX4_thought 81 = .ok (.aload_n 0, 1) := by decide +kernel
theorem dX4_thought_82 : decode cX4_thought 82 = .ok (.getfield 20, 3) := by decide +kernel
theorem dX4_thought_85 : decode cX4_thought 85 = .ok (.iconst 1, 1) := by decide +kernel
theorem dX4_thought_86 : decode cX4_thought 86 = .ok (.iload_n 1, 1) := by decide +kernel
theorem dX4_thought_87 : decode cX4_thought 87 = .ok (.isub, 1) := by decide +kernel
theorem dX4_thought_88 : decode cX4_thought 88 = .ok (.iaload, 1) := by decide +kernel
theorem dX4_thought_89 : decode cX4_thought 89 = .ok (.if_icmp .ge 39, 3) := by decide +kernel
theorem dX4_thought_92 : decode cX4_thought 92 = .ok (.lload 7, 2) := by decide +kernel
theorem dX4_thought_94 : decode cX4_thought 94 = .ok (.aload_n 0, 1) := by decide +kernel
theorem dX4_thought_95 : decode cX4_thought 95 = .ok (.getfield 17, 3) := by decide +kernel
theorem dX4_thought_98 : decode cX4_thought 98 = .ok (.iconst 5, 1) := by decide +kernel
theorem dX4_thought_99 : decode cX4_thought 99 = .ok (.iconst 1, 1) := by decide +kernel
theorem dX4_thought_100 : decode cX4_thought 100 = .ok (.iload_n 1, 1) := by decide +kernel
theorem dX4_thought_101 : decode cX4_thought 101 = .ok (.isub, 1) := by decide +kernel
theorem dX4_thought_102 : decode cX4_thought 102 = .ok (.imul, 1) := by decide +kernel
theorem dX4_thought_103 : decode cX4_thought 103 = .ok (.iload 9, 2) := by decide +kernel
theorem dX4_thought_105 : decode cX4_thought 105 = .ok (.iadd, 1) := by decide +kernel
theorem dX4_thought_106 : decode cX4_thought 106 = .ok (.iaload, 1) := by decide +kernel
theorem dX4_thought_107 : decode cX4_thought 107 = .ok (.i2l, 1) := by decide +kernel
theorem dX4_thought_108 : decode cX4_thought 108 = .ok (.aload_n 0, 1) := by decide +kernel
theorem dX4_thought_109 : decode cX4_thought 109 = .ok (.iload_n 1, 1) := by decide +kernel
theorem dX4_thought_110 : decode cX4_thought 110 = .ok (.iload 6, 2) := by decide +kernel
theorem dX4_thought_112 : decode cX4_thought 112 = .ok (.iload 9, 2) := by decide +kernel
theorem dX4_thought_114 : decode cX4_thought 114 = .ok (.invokevirtual 233, 3) := by decide +kernel
theorem dX4_thought_117 : decode cX4_thought 117 = .ok (.i2l, 1) := by decide +kernel
theorem dX4_thought_118 : decode cX4_thought 118 = .ok (.lmul, 1) := by decide +kernel
theorem dX4_thought_119 : decode cX4_thought 119 = .ok (.ladd, 1) := by decide +kernel
theorem dX4_thought_120 : decode cX4_thought 120 = .ok (.lstore 7, 2) := by decide +kernel
theorem dX4_thought_122 : decode cX4_thought 122 = .ok (.iinc 9 1, 3) := by decide +kernel
theorem dX4_thought_125 : decode cX4_thought 125 = .ok (.goto (-46), 3) := by decide +kernel
theorem dX4_thought_128 : decode cX4_thought 128 = .ok (.iload_n 3, 1) := by decide +kernel
theorem dX4_thought_129 : decode cX4_thought 129 = .ok (.iconst (-1), 1) := by decide +kernel
theorem dX4_thought_130 : decode cX4_thought 130 = .ok (.if_icmp .eq 11, 3) := by decide +kernel
theorem dX4_thought_133 : decode cX4_thought 133 = .ok (.lload 7, 2) := by decide +kernel
theorem dX4_thought_135 : decode cX4_thought 135 = .ok (.lload 4, 2) := by decide +kernel
theorem dX4_thought_137 : decode cX4_thought 137 = .ok (.lcmp, 1) := by decide +kernel
theorem dX4_thought_138 : decode cX4_thought 138 = .ok (.ifCond .le 10, 3) := by decide +kernel
theorem dX4_thought_141 : decode cX4_thought 141 = .ok (.iload 6, 2) := by decide +kernel
theorem dX4_thought_143 : decode cX4_thought 143 = .ok (.istore_n 3, 1) := by decide +kernel
theorem dX4_thought_144 : decode cX4_thought 144 = .ok (.lload 7, 2) := by decide +kernel
theorem dX4_thought_146 : decode cX4_thought 146 = .ok (.lstore 4, 2) := by decide +kernel
theorem dX4_thought_148 : decode cX4_thought 148 = .ok (.iinc 6 1, 3) := by decide +kernel
theorem dX4_thought_151 : decode cX4_thought 151 = .ok (.goto (-89), 3) := by decide +kernel
theorem dX4_thought_154 : decode cX4_thought 154 = .ok (.aload_n 0, 1) := by decide +kernel
theorem dX4_thought_155 : decode cX4_thought 155 = .ok (.lload 4, 2) := by decide +kernel
theorem dX4_thought_157 : decode cX4_thought 157 = .ok (.iload_n 2, 1) := by decide +kernel
theorem dX4_thought_158 : decode cX4_thought 158 = .ok (.i2l, 1) := by decide +kernel
theorem dX4_thought_159 : decode cX4_thought 159 = .ok (.aload_n 0, 1) := by decide +kernel
theorem dX4_thought_160 : decode cX4_thought 160 = .ok (.invokevirtual 226, 3) := by decide +kernel
theorem dX4_thought_163 : decode cX4_thought 163 = .ok (.i2l, 1) := by decide +kernel
theorem dX4_thought_164 : decode cX4_thought 164 = .ok (.lmul, 1) := by decide +kernel
theorem dX4_thought_165 : decode cX4_thought 165 = .ok (.invokevirtual 229, 3) := by decide +kernel
theorem dX4_thought_168 : decode cX4_thought 168 = .ok (.iload_n 3, 1) := by decide +kernel
theorem dX4_thought_169 : decode cX4_thought 169 = .ok (.ireturn, 1) := by decide +kernel
theorem dX4_paid_0 : decode cX4_paid 0 = .ok (.aload_n 0, 1) := by decide +kernel
theorem dX4_paid_1 : decode cX4_paid 1 = .ok (.iload_n 1, 1) := by decide +kernel
theorem dX4_paid_2 : decode cX4_paid 2 = .ok (.iload_n 2, 1) := by decide +kernel
theorem dX4_paid_3 : decode cX4_paid 3 = .ok (.invokevirtual 87, 3) := by decide +kernel
theorem dX4_paid_6 : decode cX4_paid 6 = .ok (.ifCond .eq 18, 3) := by decide +kernel
theorem dX4_paid_9 : decode cX4_paid 9 = .ok (.iload_n 2, 1) := by decide +kernel
theorem dX4_paid_10 : decode cX4_paid 10 = .ok (.ifCond .eq 14, 3) := by decide +kernel
theorem dX4_paid_13 : decode cX4_paid 13 = .ok (.aload_n 0, 1) := by decide +kernel
theorem dX4_paid_14 : decode cX4_paid 14 = .ok (.iconst 1, 1) := by decide +kernel
theorem dX4_paid_15 : decode cX4_paid 15 = .ok (.iload_n 1, 1) := by decide +kernel
theorem dX4_paid_16 : decode cX4_paid 16 = .ok (.isub, 1) := by decide +kernel
theorem dX4_paid_17 : decode cX4_paid 17 = .ok (.iload_n 3, 1) := by decide +kernel
theorem dX4_paid_18 : decode cX4_paid 18 = .ok (.invokevirtual 87, 3) := by decide +kernel
theorem dX4_paid_21 : decode cX4_paid 21 = .ok (.ifCond .ne 6, 3) := by decide +kernel
theorem dX4_paid_24 : decode cX4_paid 24 = .ok (.bipush (-2), 2) := by decide +kernel
theorem dX4_paid_26 : decode cX4_paid 26 = .ok (.ireturn, 1) := by decide +kernel
theorem dX4_paid_27 : decode cX4_paid 27 = .ok (.bipush 45, 2) := by decide +kernel
theorem dX4_paid_29 : decode cX4_paid 29 = .ok (.iload_n 1, 1) := by decide +kernel
theorem dX4_paid_30 : decode cX4_paid 30 = .ok (.imul, 1) := by decide +kernel
theorem dX4_paid_31 : decode cX4_paid 31 = .ok (.bipush 9, 2) := by decide +kernel
theorem dX4_paid_33 : decode cX4_paid 33 = .ok (.iload_n 2, 1) := by decide +kernel
theorem dX4_paid_34 : decode cX4_paid 34 = .ok (.imul, 1) := by decide +kernel
theorem dX4_paid_35 : decode cX4_paid 35 = .ok (.iadd, 1) := by decide +kernel
theorem dX4_paid_36 : decode cX4_paid 36 = .ok (.istore 4, 2) := by decide +kernel
theorem dX4_paid_38 : decode cX4_paid 38 = .ok (.aload_n 0, 1) := by decide +kernel
theorem dX4_paid_39 : decode cX4_paid 39 = .ok (.getfield 13, 3) := by decide +kernel
theorem dX4_paid_42 : decode cX4_paid 42 = .ok (.iload 4, 2) := by decide +kernel
theorem dX4_paid_44 : decode cX4_paid 44 = .ok (.bipush 6, 2) := by decide +kernel
theorem dX4_paid_46 : decode cX4_paid 46 = .ok (.iadd, 1) := by decide +kernel
theorem dX4_paid_47 : decode cX4_paid 47 = .ok (.iaload, 1) := by decide +kernel
theorem dX4_paid_48 : decode cX4_paid 48 = .ok (.istore 5, 2) := by decide +kernel
theorem dX4_paid_50 : decode cX4_paid 50 = .ok (.aload_n 0, 1) := by decide +kernel
theorem dX4_paid_51 : decode cX4_paid 51 = .ok (.getfield 13, 3) := by decide +kernel
theorem dX4_paid_54 : decode cX4_paid 54 = .ok (.iload 4, 2) := by decide +kernel
theorem dX4_paid_56 : decode cX4_paid 56 = .ok (.bipush 7, 2) := by decide +kernel
theorem dX4_paid_58 : decode cX4_paid 58 = .ok (.iadd, 1) := by decide +kernel
theorem dX4_paid_59 : decode cX4_paid 59 = .ok (.iaload, 1) := by decide +kernel
theorem dX4_paid_60 : decode cX4_paid 60 = .ok (.istore 6, 2) := by decide +kernel
theorem dX4_paid_62 : decode cX4_paid 62 = .ok (.iconst (-1), 1) := by decide +kernel
theorem dX4_paid_63 : decode cX4_paid 63 = .ok (.istore 7, 2) := by decide +kernel
theorem dX4_paid_65 : decode cX4_paid 65 = .ok (.iconst 0, 1) := by decide +kernel
theorem dX4_paid_66 : decode cX4_paid 66 = .ok (.istore 8, 2) := by decide +kernel
theorem dX4_paid_68 : decode cX4_paid 68 = .ok (.iconst 0, 1) := by decide +kernel
theorem dX4_paid_69 : decode cX4_paid 69 = .ok (.istore 9, 2) := by decide +kernel
theorem dX4_paid_71 : decode cX4_paid 71 = .ok (.iload 9, 2) := by decide +kernel
theorem dX4_paid_73 : decode cX4_paid 73 = .ok (.aload_n 0, 1) := by decide +kernel
theorem dX4_paid_74 : decode cX4_paid 74 = .ok (.getfield 7, 3) := by decide +kernel
theorem dX4_paid_77 : decode cX4_paid 77 = .ok (.if_icmp .gt 85, 3) := by decide +kernel
theorem dX4_paid_80 : decode cX4_paid 80 = .ok (.iconst 0, 1) := by decide +kernel
theorem dX4_paid_81 : decode cX4_paid 81 = .ok (.istore 10, 2) := by decide +kernel
theorem dX4_paid_83 : decode cX4_paid 83 = .ok (.iload 10, 2) := by decide +kernel
theorem dX4_paid_85 : decode cX4_paid 85 = .ok (.bipush 20, 2) := by decide +kernel
theorem dX4_paid_87 : decode cX4_paid 87 = .ok (.if_icmp .gt 69, 3) := by decide +kernel
theorem dX4_paid_90 : decode cX4_paid 90 = .ok (.aload_n 0, 1) := by decide +kernel
theorem dX4_paid_91 : decode cX4_paid 91 = .ok (.getfield 13, 3) := by decide +kernel
theorem dX4_paid_94 : decode cX4_paid 94 = .ok (.iload 4, 2) := by decide +kernel
theorem dX4_paid_96 : decode cX4_paid 96 = .ok (.bipush 6, 2) := by decide +kernel
theorem dX4_paid_98 : decode cX4_paid 98 = .ok (.iadd, 1) := by decide +kernel
theorem dX4_paid_99 : decode cX4_paid 99 = .ok (.iload 9, 2) := by decide +kernel
theorem dX4_paid_101 : decode cX4_paid 101 = .ok (.iastore, 1) := by decide +kernel
theorem dX4_paid_102 : decode cX4_paid 102 = .ok (.aload_n 0, 1) := by decide +kernel
theorem dX4_paid_103 : decode cX4_paid 103 = .ok (.getfield 13, 3) := by decide +kernel
theorem dX4_paid_106 : decode cX4_paid 106 = .ok (.iload 4, 2) := by decide +kernel
theorem dX4_paid_108 : decode cX4_paid 108 = .ok (.bipush 7, 2) := by decide +kernel
theorem dX4_paid_110 : decode cX4_paid 110 = .ok (.iadd, 1) := by decide +kernel
theorem dX4_paid_111 : decode cX4_paid 111 = .ok (.iload 10, 2) := by decide +kernel
theorem dX4_paid_113 : decode cX4_paid 113 = .ok (.iastore, 1) := by decide +kernel
theorem dX4_paid_114 : decode cX4_paid 114 = .ok (.aload_n 0, 1) := by decide +kernel
theorem dX4_paid_115 : decode cX4_paid 115 = .ok (.iload_n 1, 1) := by decide +kernel
theorem dX4_paid_116 : decode cX4_paid 116 = .ok (.iload_n 2, 1) := by decide +kernel
theorem dX4_paid_117 : decode cX4_paid 117 = .ok (.iload_n 3, 1) := by decide +kernel
theorem dX4_paid_118 : decode cX4_paid 118 = .ok (.invokevirtual 233, 3) := by decide +kernel
theorem dX4_paid_121 : decode cX4_paid 121 = .ok (.istore 11, 2) := by decide +kernel
theorem dX4_paid_123 : decode cX4_paid 123 = .ok (.iload 7, 2) := by decide +kernel
theorem dX4_paid_125 : decode cX4_paid 125 = .ok (.iconst (-1), 1) := by decide +kernel
theorem dX4_paid_126 : decode cX4_paid 126 = .ok (.if_icmp .eq 10, 3) := by decide +kernel
theorem dX4_paid_129 : decode cX4_paid 129 = .ok (.iload 11, 2) := by decide +kernel
theorem dX4_paid_131 : decode cX4_paid 131 = .ok (.iload 8, 2) := by decide +kernel
theorem dX4_paid_133 : decode cX4_paid 133 = .ok (.if_icmp .le 17, 3) := by decide +kernel
theorem dX4_paid_136 : decode cX4_paid 136 = .ok (.bipush 100, 2) := by decide +kernel
theorem dX4_paid_138 : decode cX4_paid 138 = .ok (.iload 9, 2) := by decide +kernel
theorem dX4_paid_140 : decode cX4_paid 140 = .ok (.imul, 1) := by decide +kernel
theorem dX4_paid_141 : decode cX4_paid 141 = .ok (.iload 10, 2) := by decide +kernel
theorem dX4_paid_143 : decode cX4_paid 143 = .ok (.iadd, 1) := by decide +kernel
theorem dX4_paid_144 : decode cX4_paid 144 = .ok (.istore 7, 2) := by decide +kernel
theorem dX4_paid_146 : decode cX4_paid 146 = .ok (.iload 11, 2) := by decide +kernel
theorem dX4_paid_148 : decode cX4_paid 148 = .ok (.istore 8, 2) := by decide +kernel
theorem dX4_paid_150 : decode cX4_paid 150 = .ok (.iinc 10 1, 3) := by decide +kernel
theorem dX4_paid_153 : decode cX4_paid 153 = .ok (.goto (-70), 3) := by decide +kernel
theorem dX4_paid_156 : decode cX4_paid 156 = .ok (.iinc 9 1, 3) := by decide +kernel
theorem dX4_paid_159 : decode cX4_paid 159 = .ok (.goto (-88), 3) := by decide +kernel
theorem dX4_paid_162 : decode cX4_paid 162 = .ok (.aload_n 0, 1) := by decide +kernel
theorem dX4_paid_163 : decode cX4_paid 163 = .ok (.getfield 13, 3) := by decide +kernel
theorem dX4_paid_166 : decode cX4_paid 166 = .ok (.iload 4, 2) := by decide +kernel
theorem dX4_paid_168 : decode cX4_paid 168 = .ok (.bipush 6, 2) := by decide +kernel
theorem dX4_paid_170 : decode cX4_paid 170 = .ok (.iadd, 1) := by decide +kernel
theorem dX4_paid_171 : decode cX4_paid 171 = .ok (.iload 5, 2) := by decide +kernel
theorem dX4_paid_173 : decode cX4_paid 173 = .ok (.iastore, 1) := by decide +kernel
theorem dX4_paid_174 : decode cX4_paid 174 = .ok (.aload_n 0, 1) := by decide +kernel
theorem dX4_paid_175 : decode cX4_paid 175 = .ok (.getfield 13, 3) := by decide +kernel
theorem dX4_paid_178 : decode cX4_paid 178 = .ok (.iload 4, 2) := by decide +kernel
theorem dX4_paid_180 : decode cX4_paid 180 = .ok (.bipush 7, 2) := by decide +kernel
theorem dX4_paid_182 : decode cX4_paid 182 = .ok (.iadd, 1) := by decide +kernel
theorem dX4_paid_183 : decode cX4_paid 183 = .ok (.iload 6, 2) := by decide +kernel
theorem dX4_paid_185 : decode cX4_paid 185 = .ok (.iastore, 1) := by decide +kernel
theorem dX4_paid_186 : decode cX4_paid 186 = .ok (.iload 7, 2) := by decide +kernel
theorem dX4_paid_188 : decode cX4_paid 188 = .ok (.ireturn, 1) := by decide +kernel
theorem dX4_hard_0 : decode cX4_hard 0 = .ok (.aload_n 0, 1) := by decide +kernel
theorem dX4_hard_1 : decode cX4_hard 1 = .ok (.iload_n 1, 1) := by decide +kernel
theorem dX4_hard_2 : decode cX4_hard 2 = .ok (.iload_n 2, 1) := by decide +kernel
theorem dX4_hard_3 : decode cX4_hard 3 = .ok (.invokevirtual 87, 3) := by decide +kernel
theorem dX4_hard_6 : decode cX4_hard 6 = .ok (.ifCond .eq 14, 3) := by decide +kernel
theorem dX4_hard_9 : decode cX4_hard 9 = .ok (.aload_n 0, 1) := by decide +kernel
theorem dX4_hard_10 : decode cX4_hard 10 = .ok (.iconst 1, 1) := by decide +kernel
theorem dX4_hard_11 : decode cX4_hard 11 = .ok (.iload_n 1, 1) := by decide +kernel
theorem dX4_hard_12 : decode cX4_hard 12 = .ok (.isub, 1) := by decide +kernel
theorem dX4_hard_13 : decode cX4_hard 13 = .ok (.iload_n 3, 1) := by decide +kernel
theorem dX4_hard_14 : decode cX4_hard 14 = .ok (.invokevirtual 87, 3) := by decide +kernel
theorem dX4_hard_17 : decode cX4_hard 17 = .ok (.ifCond .ne 6, 3) := by decide +kernel
theorem dX4_hard_20 : decode cX4_hard 20 = .ok (.bipush (-2), 2) := by decide +kernel
theorem dX4_hard_22 : decode cX4_hard 22 = .ok (.ireturn, 1) := by decide +kernel
theorem dX4_hard_23 : decode cX4_hard 23 = .ok (.bipush 45, 2) := by decide +kernel
theorem dX4_hard_25 : decode cX4_hard 25 = .ok (.iload_n 1, 1) := by decide +kernel
theorem dX4_hard_26 : decode cX4_hard 26 = .ok (.imul, 1) := by decide +kernel
theorem dX4_hard_27 : decode cX4_hard 27 = .ok (.bipush 9, 2) := by decide +kernel
theorem dX4_hard_29 : decode cX4_hard 29 = .ok (.iload_n 2, 1) := by decide +kernel
theorem dX4_hard_30 : decode cX4_hard 30 = .ok (.imul, 1) := by decide +kernel
theorem dX4_hard_31 : decode cX4_hard 31 = .ok (.iadd, 1) := by decide +kernel
theorem dX4_hard_32 : decode cX4_hard 32 = .ok (.iconst 5, 1) := by decide +kernel
theorem dX4_hard_33 : decode cX4_hard 33 = .ok (.iadd, 1) := by decide +kernel
theorem dX4_hard_34 : decode cX4_hard 34 = .ok (.istore 4, 2) := by decide +kernel
theorem dX4_hard_36 : decode cX4_hard 36 = .ok (.aload_n 0, 1) := by decide +kernel
theorem dX4_hard_37 : decode cX4_hard 37 = .ok (.getfield 13, 3) := by decide +kernel
theorem dX4_hard_40 : decode cX4_hard 40 = .ok (.iload 4, 2) := by decide +kernel
theorem dX4_hard_42 : decode cX4_hard 42 = .ok (.iaload, 1) := by decide +kernel
theorem dX4_hard_43 : decode cX4_hard 43 = .ok (.istore 5, 2) := by decide +kernel
theorem dX4_hard_45 : decode cX4_hard 45 = .ok (.iconst (-1), 1) := by decide +kernel
theorem dX4_hard_46 : decode cX4_hard 46 = .ok (.istore 6, 2) := by decide +kernel
theorem dX4_hard_48 : decode cX4_hard 48 = .ok (.iconst 0, 1) := by decide +kernel
theorem dX4_hard_49 : decode cX4_hard 49 = .ok (.istore 7, 2) := by decide +kernel
theorem dX4_hard_51 : decode cX4_hard 51 = .ok (.iload 7, 2) := by decide +kernel
theorem dX4_hard_53 : decode cX4_hard 53 = .ok (.aload_n 0, 1) := by decide +kernel
theorem dX4_hard_54 : decode cX4_hard 54 = .ok (.getfield 7, 3) := by decide +kernel
theorem dX4_hard_57 : decode cX4_hard 57 = .ok (.if_icmp .gt 58, 3) := by decide +kernel
theorem dX4_hard_60 : decode cX4_hard 60 = .ok (.aload_n 0, 1) := by decide +kernel
theorem dX4_hard_61 : decode cX4_hard 61 = .ok (.getfield 13, 3) := by decide +kernel
theorem dX4_hard_64 : decode cX4_hard 64 = .ok (.iload 4, 2) := by decide +kernel
theorem dX4_hard_66 : decode cX4_hard 66 = .ok (.iload 7, 2) := by decide +kernel
theorem dX4_hard_68 : decode cX4_hard 68 = .ok (.iastore, 1) := by decide +kernel
theorem dX4_hard_69 : decode cX4_hard 69 = .ok (.aload_n 0, 1) := by decide +kernel
theorem dX4_hard_70 : decode cX4_hard 70 = .ok (.iload_n 1, 1) := by decide +kernel
theorem dX4_hard_71 : decode cX4_hard 71 = .ok (.ifCond .ne 7, 3) := by decide +kernel
theorem dX4_hard_74 : decode cX4_hard 74 = .ok (.iload_n 2, 1) := by decide +kernel
theorem dX4_hard_75 : decode cX4_hard 75 = .ok (.goto 4, 3) := by decide +kernel
theorem dX4_hard_78 : decode cX4_hard 78 = .ok (.iload_n 3, 1) := by decide +kernel
theorem dX4_hard_79 : decode cX4_hard 79 = .ok (.iload_n 1, 1) := by decide +kernel
theorem dX4_hard_80 : decode cX4_hard 80 = .ok (.ifCond .ne 7, 3) := by decide +kernel
theorem dX4_hard_83 : decode cX4_hard 83 = .ok (.iload_n 3, 1) := by decide +kernel
theorem dX4_hard_84 : decode cX4_hard 84 = .ok (.goto 4, 3) := by decide +kernel
theorem dX4_hard_87 : decode cX4_hard 87 = .ok (.iload_n 2, 1) := by decide +kernel
theorem dX4_hard_88 : decode cX4_hard 88 = .ok (.invokevirtual 214, 3) := by decide +kernel
theorem dX4_hard_91 : decode cX4_hard 91 = .ok (.aload_n 0, 1) := by decide +kernel
theorem dX4_hard_92 : decode cX4_hard 92 = .ok (.getfield 180, 3) := by decide +kernel
theorem dX4_hard_95 : decode cX4_hard 95 = .ok (.bipush (-5), 2) := by decide +kernel
theorem dX4_hard_97 : decode cX4_hard 97 = .ok (.if_icmp .ne 8, 3) := by decide +kernel
theorem dX4_hard_100 : decode cX4_hard 100 = .ok (.iload 6, 2) := by decide +kernel
theorem dX4_hard_102 : decode cX4_hard 102 = .ok (.goto 5, 3) := by decide +kernel
theorem dX4_hard_105 : decode cX4_hard 105 = .ok (.iload 7, 2) := by decide +kernel
theorem dX4_hard_107 : decode cX4_hard 107 = .ok (.istore 6, 2) := by decide +kernel
theorem dX4_hard_109 : decode cX4_hard 109 = .ok (.iinc 7 1, 3) := by decide +kernel
theorem dX4_hard_112 : decode cX4_hard 112 = .ok (.goto (-61), 3) := by decide +kernel
theorem dX4_hard_115 : decode cX4_hard 115 = .ok (.aload_n 0, 1) := by decide +kernel
theorem dX4_hard_116 : decode cX4_hard 116 = .ok (.getfield 13, 3) := by decide +kernel
theorem dX4_hard_119 : decode cX4_hard 119 = .ok (.iload 4, 2) := by decide +kernel
theorem dX4_hard_121 : decode cX4_hard 121 = .ok (.iload 5, 2) := by decide +kernel
theorem dX4_hard_123 : decode cX4_hard 123 = .ok (.iastore, 1) := by decide +kernel
theorem dX4_hard_124 : decode cX4_hard 124 = .ok (.iload 6, 2) := by decide +kernel
theorem dX4_hard_126 : decode cX4_hard 126 = .ok (.ireturn, 1) := by decide +kernel
theorem dX4_committee_0 : decode cX4_committee 0 = .ok (.iload_n 1, 1) := by decide +kernel
theorem dX4_committee_1 : decode cX4_committee 1 = .ok (.i2l, 1) := by decide +kernel
theorem dX4_committee_2 : decode cX4_committee 2 = .ok (.lconst 1, 1) := by decide +kernel
theorem dX4_committee_3 : decode cX4_committee 3 = .ok (.iconst 1, 1) := by decide +kernel
theorem dX4_committee_4 : decode cX4_committee 4 = .ok (.aload_n 0, 1) := by decide +kernel
theorem dX4_committee_5 : decode cX4_committee 5 = .ok (.getfield 20, 3) := by decide +kernel
theorem dX4_committee_8 : decode cX4_committee 8 = .ok (.iconst 0, 1) := by decide +kernel
theorem dX4_committee_9 : decode cX4_committee 9 = .ok (.iaload, 1) := by decide +kernel
theorem dX4_committee_10 : decode cX4_committee 10 = .ok (.ishl, 1) := by decide +kernel
theorem dX4_committee_11 : decode cX4_committee 11 = .ok (.iconst 1, 1) := by decide +kernel
theorem dX4_committee_12 : decode cX4_committee 12 = .ok (.isub, 1) := by decide +kernel
theorem dX4_committee_13 : decode cX4_committee 13 = .ok (.i2l, 1) := by decide +kernel
theorem dX4_committee_14 : decode cX4_committee 14 = .ok (.invokestatic 65, 3) := by decide +kernel
theorem dX4_committee_17 : decode cX4_committee 17 = .ok (.ifCond .eq 12, 3) := by decide +kernel
theorem dX4_committee_20 : decode cX4_committee 20 = .ok (.aload_n 0, 1) := by decide +kernel
theorem dX4_committee_21 : decode cX4_committee 21 = .ok (.iconst 1, 1) := by decide +kernel
theorem dX4_committee_22 : decode cX4_committee 22 = .ok (.iload_n 3, 1) := by decide +kernel
theorem dX4_committee_23 : decode cX4_committee 23 = .ok (.invokevirtual 87, 3) := by decide +kernel
theorem dX4_committee_26 : decode cX4_committee 26 = .ok (.ifCond .ne 6, 3) := by decide +kernel
theorem dX4_committee_29 : decode cX4_committee 29 = .ok (.bipush (-2), 2) := by decide +kernel
theorem dX4_committee_31 : decode cX4_committee 31 = .ok (.ireturn, 1) := by decide +kernel
theorem dX4_committee_32 : decode cX4_committee 32 = .ok (.iconst 0, 1) := by decide +kernel
theorem dX4_committee_33 : decode cX4_committee 33 = .ok (.istore 4, 2) := by decide +kernel
theorem dX4_committee_35 : decode cX4_committee 35 = .ok (.iconst 0, 1) := by decide +kernel
theorem dX4_committee_36 : decode cX4_committee 36 = .ok (.istore 5, 2) := by decide +kernel
theorem dX4_committee_38 : decode cX4_committee 38 = .ok (.iload 5, 2) := by decide +kernel
theorem dX4_committee_40 : decode cX4_committee 40 = .ok (.aload_n 0, 1) := by decide +kernel
theorem dX4_committee_41 : decode cX4_committee 41 = .ok (.getfield 20, 3) := by decide +kernel
theorem dX4_committee_44 : decode cX4_committee 44 = .ok (.iconst 0, 1) := by decide +kernel
theorem dX4_committee_45 : decode cX4_committee 45 = .ok (.iaload, 1) := by decide +kernel
theorem dX4_committee_46 : decode cX4_committee 46 = .ok (.if_icmp .ge 20, 3) := by decide +kernel
theorem dX4_committee_49 : decode cX4_committee 49 = .ok (.iload 4, 2) := by decide +kernel
theorem dX4_committee_51 : decode cX4_committee 51 = .ok (.iload_n 1, 1) := by decide +kernel
theorem dX4_committee_52 : decode cX4_committee 52 = .ok (.iload 5, 2) := by decide +kernel
theorem dX4_committee_54 : decode cX4_committee 54 = .ok (.ishr, 1) := by decide +kernel
theorem dX4_committee_55 : decode cX4_committee 55 = .ok (.iconst 1, 1) := by decide +kernel
theorem dX4_committee_56 : decode cX4_committee 56 = .ok (.iand, 1) := by decide +kernel
theorem dX4_committee_57 : decode cX4_committee 57 = .ok (.iadd, 1) := by decide +kernel
theorem dX4_committee_58 : decode cX4_committee 58 = .ok (.istore 4, 2) := by decide +kernel
theorem dX4_committee_60 : decode cX4_committee 60 = .ok (.iinc 5 1, 3) := by decide +kernel
theorem dX4_committee_63 : decode cX4_committee 63 = .ok (.goto (-25), 3) := by decide +kernel
theorem dX4_committee_66 : decode cX4_committee 66 = .ok (.iload_n 2, 1) := by decide +kernel
theorem dX4_committee_67 : decode cX4_committee 67 = .ok (.i2l, 1) := by decide +kernel
theorem dX4_committee_68 : decode cX4_committee 68 = .ok (.lconst 1, 1) := by decide +kernel
theorem dX4_committee_69 : decode cX4_committee 69 = .ok (.iload 4, 2) := by decide +kernel
theorem dX4_committee_71 : decode cX4_committee 71 = .ok (.i2l, 1) := by decide +kernel
theorem dX4_committee_72 : decode cX4_committee 72 = .ok (.invokestatic 65, 3) := by decide +kernel
theorem dX4_committee_75 : decode cX4_committee 75 = .ok (.ifCond .ne 6, 3) := by decide +kernel
theorem dX4_committee_78 : decode cX4_committee 78 = .ok (.bipush (-2), 2) := by decide +kernel
theorem dX4_committee_80 : decode cX4_committee 80 = .ok (.ireturn, 1) := by decide +kernel
theorem dX4_committee_81 : decode cX4_committee 81 = .ok (.aload_n 0, 1) := by decide +kernel
theorem dX4_committee_82 : decode cX4_committee 82 = .ok (.iconst 0, 1) := by decide +kernel
theorem dX4_committee_83 : decode cX4_committee 83 = .ok (.iload_n 3, 1) := by decide +kernel
theorem dX4_committee_84 : decode cX4_committee 84 = .ok (.invokevirtual 173, 3) := by decide +kernel
theorem dX4_committee_87 : decode cX4_committee 87 = .ok (.iconst 0, 1) := by decide +kernel
theorem dX4_committee_88 : decode cX4_committee 88 = .ok (.istore 5, 2) := by decide +kernel
theorem dX4_committee_90 : decode cX4_committee 90 = .ok (.iload 5, 2) := by decide +kernel
theorem dX4_committee_92 : decode cX4_committee 92 = .ok (.aload_n 0, 1) := by decide +kernel
theorem dX4_committee_93 : decode cX4_committee 93 = .ok (.getfield 7, 3) := by decide +kernel
theorem dX4_committee_96 : decode cX4_committee 96 = .ok (.if_icmp .gt 98, 3) := by decide +kernel
theorem dX4_committee_99 : decode cX4_committee 99 = .ok (.iconst 0, 1) := by decide +kernel
theorem dX4_committee_100 : decode cX4_committee 100 = .ok (.istore 6, 2) := by decide +kernel
theorem dX4_committee_102 : decode cX4_committee 102 = .ok (.iconst 0, 1) := by decide +kernel
theorem dX4_committee_103 : decode cX4_committee 103 = .ok (.istore 7, 2) := by decide +kernel
theorem dX4_committee_105 : decode cX4_committee 105 = .ok (.iload 7, 2) := by decide +kernel
theorem dX4_committee_107 : decode cX4_committee 107 = .ok (.aload_n 0, 1) := by decide +kernel
theorem dX4_committee_108 : decode cX4_committee 108 = .ok (.getfield 20, 3) := by decide +kernel
theorem dX4_committee_111 : decode cX4_committee 111 = .ok (.iconst 0, 1) := by decide +kernel
theorem dX4_committee_112 : decode cX4_committee 112 = .ok (.iaload, 1) := by decide +kernel
theorem dX4_committee_113 : decode cX4_committee 113 = .ok (.if_icmp .ge 41, 3) := by decide +kernel
theorem dX4_committee_116 : decode cX4_committee 116 = .ok (.iload 6, 2) := by decide +kernel
theorem dX4_committee_118 : decode cX4_committee 118 = .ok (.iload_n 1, 1) := by decide +kernel
theorem dX4_committee_119 : decode cX4_committee 119 = .ok (.iload 7, 2) := by decide +kernel
theorem dX4_committee_121 : decode cX4_committee 121 = .ok (.ishr, 1) := by decide +kernel
theorem dX4_committee_122 : decode cX4_committee 122 = .ok (.iconst 1, 1) := by decide +kernel
theorem dX4_committee_123 : decode cX4_committee 123 = .ok (.iand, 1) := by decide +kernel
theorem dX4_committee_124 : decode cX4_committee 124 = .ok (.iconst 1, 1) := by decide +kernel
theorem dX4_committee_125 : decode cX4_committee 125 = .ok (.if_icmp .ne 19, 3) := by decide +kernel
theorem dX4_committee_128 : decode cX4_committee 128 = .ok (.aload_n 0, 1) := by decide +kernel
theorem dX4_committee_129 : decode cX4_committee 129 = .ok (.iconst 0, 1) := by decide +kernel
theorem dX4_committee_130 : decode cX4_committee 130 = .ok (.iload 7, 2) := by decide +kernel
theorem dX4_committee_132 : decode cX4_committee 132 = .ok (.iload 5, 2) := by decide +kernel
theorem dX4_committee_134 : decode cX4_committee 134 = .ok (.invokevirtual 101, 3) := by decide +kernel
theorem dX4_committee_137 : decode cX4_committee 137 = .ok (.ifCond .eq 7, 3) := by decide +kernel
theorem dX4_committee_140 : decode cX4_committee 140 = .ok (.iconst 1, 1) := by decide +kernel
theorem dX4_committee_141 : decode cX4_committee 141 = .ok (.goto 4, 3) := by decide +kernel
theorem dX4_committee_144 : decode cX4_committee 144 = .ok (.iconst 0, 1) := by decide +kernel
theorem dX4_committee_145 : decode cX4_committee 145 = .ok (.iadd, 1) := by decide +kernel
theorem dX4_committee_146 : decode cX4_committee 146 = .ok (.istore 6, 2) := by decide +kernel
theorem dX4_committee_148 : decode cX4_committee 148 = .ok (.iinc 7 1, 3) := by decide +kernel
theorem dX4_committee_151 : decode cX4_committee 151 = .ok (.goto (-46), 3) := by decide +kernel
theorem dX4_committee_154 : decode cX4_committee 154 = .ok (.aload_n 0, 1) := by decide +kernel
theorem dX4_committee_155 : decode cX4_committee 155 = .ok (.getfield 49, 3) := by decide +kernel
theorem dX4_committee_158 : decode cX4_committee 158 = .ok (.iload 5, 2) := by decide +kernel
theorem dX4_committee_160 : decode cX4_committee 160 = .ok (.iload 6, 2) := by decide +kernel
theorem dX4_committee_162 : decode cX4_committee 162 = .ok (.iload_n 2, 1) := by decide +kernel
theorem dX4_committee_163 : decode cX4_committee 163 = .ok (.if_icmp .lt 23, 3) := by decide +kernel
theorem dX4_committee_166 : decode cX4_committee 166 = .ok (.aload_n 0, 1) := by decide +kernel
theorem dX4_committee_167 : decode cX4_committee 167 = .ok (.iconst 1, 1) := by decide +kernel
theorem dX4_committee_168 : decode cX4_committee 168 = .ok (.iload_n 3, 1) := by decide +kernel
theorem dX4_committee_169 : decode cX4_committee 169 = .ok (.aload_n 0, 1) := by decide +kernel
theorem dX4_committee_170 : decode cX4_committee 170 = .ok (.getfield 7, 3) := by decide +kernel
theorem dX4_committee_173 : decode cX4_committee 173 = .ok (.iload 5, 2) := by decide +kernel
theorem dX4_committee_175 : decode cX4_committee 175 = .ok (.isub, 1) := by decide +kernel
theorem dX4_committee_176 : decode cX4_committee 176 = .ok (.invokevirtual 101, 3) := by decide +kernel
theorem dX4_committee_179 : decode cX4_committee 179 = .ok (.ifCond .eq 7, 3) := by decide +kernel
theorem dX4_committee_182 : decode cX4_committee 182 = .ok (.iconst 1, 1) := by decide +kernel
theorem dX4_committee_183 : decode cX4_committee 183 = .ok (.goto 4, 3) := by decide +kernel
theorem dX4_committee_186 : decode cX4_committee 186 = .ok (.iconst 0, 1) := by decide +kernel
theorem dX4_committee_187 : decode cX4_committee 187 = .ok (.bastore, 1) := by decide +kernel
theorem dX4_committee_188 : decode cX4_committee 188 = .ok (.iinc 5 1, 3) := by decide +kernel
theorem dX4_committee_191 : decode cX4_committee 191 = .ok (.goto (-101), 3) := by decide +kernel
theorem dX4_committee_194 : decode cX4_committee 194 = .ok (.aload_n 0, 1) := by decide +kernel
theorem dX4_committee_195 : decode cX4_committee 195 = .ok (.aload_n 0, 1) := by decide +kernel
theorem dX4_committee_196 : decode cX4_committee 196 = .ok (.iconst 0, 1) := by decide +kernel
theorem dX4_committee_197 : decode cX4_committee 197 = .ok (.iconst 0, 1) := by decide +kernel
theorem dX4_committee_198 : decode cX4_committee 198 = .ok (.iconst 4, 1) := by decide +kernel
theorem dX4_committee_199 : decode cX4_committee 199 = .ok (.invokevirtual 75, 3) := by decide +kernel
theorem dX4_committee_202 : decode cX4_committee 202 = .ok (.aload_n 0, 1) := by decide +kernel
theorem dX4_committee_203 : decode cX4_committee 203 = .ok (.iconst 1, 1) := by decide +kernel
theorem dX4_committee_204 : decode cX4_committee 204 = .ok (.iload_n 3, 1) := by decide +kernel
theorem dX4_committee_205 : decode cX4_committee 205 = .ok (.iconst 4, 1) := by decide +kernel
theorem dX4_committee_206 : decode cX4_committee 206 = .ok (.invokevirtual 75, 3) := by decide +kernel
theorem dX4_committee_209 : decode cX4_committee 209 = .ok (.invokevirtual 177, 3) := by decide +kernel
theorem dX4_committee_212 : decode cX4_committee 212 = .ok (.aload_n 0, 1) := by decide +kernel
theorem dX4_committee_213 : decode cX4_committee 213 = .ok (.getfield 180, 3) := by decide +kernel
theorem dX4_committee_216 : decode cX4_committee 216 = .ok (.ireturn, 1) := by decide +kernel
theorem dX4_recall_0 : decode cX4_recall 0 = .ok (.iload_n 1, 1) := by decide +kernel
theorem dX4_recall_1 : decode cX4_recall 1 = .ok (.invokestatic 69, 3) := by decide +kernel
theorem dX4_recall_4 : decode cX4_recall 4 = .ok (.ifCond .eq 12, 3) := by decide +kernel
theorem dX4_recall_7 : decode cX4_recall 7 = .ok (.aload_n 0, 1) := by decide +kernel
theorem dX4_recall_8 : decode cX4_recall 8 = .ok (.iload_n 2, 1) := by decide +kernel
theorem dX4_recall_9 : decode cX4_recall 9 = .ok (.iload_n 3, 1) := by decide +kernel
theorem dX4_recall_10 : decode cX4_recall 10 = .ok (.invokevirtual 211, 3) := by decide +kernel
theorem dX4_recall_13 : decode cX4_recall 13 = .ok (.ifCond .ne 6, 3) := by decide +kernel
theorem dX4_recall_16 : decode cX4_recall 16 = .ok (.bipush (-2), 2) := by decide +kernel
theorem dX4_recall_18 : decode cX4_recall 18 = .ok (.ireturn, 1) := by decide +kernel
theorem dX4_recall_19 : decode cX4_recall 19 = .ok (.aload_n 0, 1) := by decide +kernel
theorem dX4_recall_20 : decode cX4_recall 20 = .ok (.iload_n 1, 1) := by decide +kernel
theorem dX4_recall_21 : decode cX4_recall 21 = .ok (.iload_n 2, 1) := by decide +kernel
theorem dX4_recall_22 : decode cX4_recall 22 = .ok (.iload_n 3, 1) := by decide +kernel
theorem dX4_recall_23 : decode cX4_recall 23 = .ok (.invokevirtual 223, 3) := by decide +kernel
theorem dX4_recall_26 : decode cX4_recall 26 = .ok (.istore 4, 2) := by decide +kernel
theorem dX4_recall_28 : decode cX4_recall 28 = .ok (.aload_n 0, 1) := by decide +kernel
theorem dX4_recall_29 : decode cX4_recall 29 = .ok (.getfield 180, 3) := by decide +kernel
theorem dX4_recall_32 : decode cX4_recall 32 = .ok (.bipush (-5), 2) := by decide +kernel
theorem dX4_recall_34 : decode cX4_recall 34 = .ok (.if_icmp .eq 11, 3) := by decide +kernel
theorem dX4_recall_37 : decode cX4_recall 37 = .ok (.aload_n 0, 1) := by decide +kernel
theorem dX4_recall_38 : decode cX4_recall 38 = .ok (.getfield 111, 3) := by decide +kernel
theorem dX4_recall_41 : decode cX4_recall 41 = .ok (.iconst 2, 1) := by decide +kernel
theorem dX4_recall_42 : decode cX4_recall 42 = .ok (.if_icmp .ne 6, 3) := by decide +kernel
theorem dX4_recall_45 : decode cX4_recall 45 = .ok (.bipush (-3), 2) := by decide +kernel
theorem dX4_recall_47 : decode cX4_recall 47 = .ok (.ireturn, 1) := by decide +kernel
theorem dX4_recall_48 : decode cX4_recall 48 = .ok (.aload_n 0, 1) := by decide +kernel
theorem dX4_recall_49 : decode cX4_recall 49 = .ok (.iload_n 1, 1) := by decide +kernel
theorem dX4_recall_50 : decode cX4_recall 50 = .ok (.iload_n 1, 1) := by decide +kernel
theorem dX4_recall_51 : decode cX4_recall 51 = .ok (.ifCond .ne 7, 3) := by decide +kernel
theorem dX4_recall_54 : decode cX4_recall 54 = .ok (.iload_n 2, 1) := by decide +kernel
theorem dX4_recall_55 : decode cX4_recall 55 = .ok (.goto 4, 3) := by decide +kernel
theorem dX4_recall_58 : decode cX4_recall 58 = .ok (.iload_n 3, 1) := by decide +kernel
theorem dX4_recall_59 : decode cX4_recall 59 = .ok (.bipush (-5), 2) := by decide +kernel
theorem dX4_recall_61 : decode cX4_recall 61 = .ok (.invokevirtual 217, 3) := by decide +kernel
theorem dX4_recall_64 : decode cX4_recall 64 = .ok (.iload 4, 2) := by decide +kernel
theorem dX4_recall_66 : decode cX4_recall 66 = .ok (.isub, 1) := by decide +kernel
theorem dX4_recall_67 : decode cX4_recall 67 = .ok (.istore 5, 2) := by decide +kernel
theorem dX4_recall_69 : decode cX4_recall 69 = .ok (.iload 5, 2) := by decide +kernel
theorem dX4_recall_71 : decode cX4_recall 71 = .ok (.ifCond .le 8, 3) := by decide +kernel
theorem dX4_recall_74 : decode cX4_recall 74 = .ok (.iload 5, 2) := by decide +kernel
theorem dX4_recall_76 : decode cX4_recall 76 = .ok (.goto 4, 3) := by decide +kernel
theorem dX4_recall_79 : decode cX4_recall 79 = .ok (.iconst 0, 1) := by decide +kernel
theorem dX4_recall_80 : decode cX4_recall 80 = .ok (.ireturn, 1) := by decide +kernel
theorem dX4_middle_0 : decode cX4_middle 0 = .ok (.aload_n 0, 1) := by decide +kernel
theorem dX4_middle_1 : decode cX4_middle 1 = .ok (.iload_n 1, 1) := by decide +kernel
theorem dX4_middle_2 : decode cX4_middle 2 = .ok (.iload_n 2, 1) := by decide +kernel
theorem dX4_middle_3 : decode cX4_middle 3 = .ok (.invokevirtual 211, 3) := by decide +kernel
theorem dX4_middle_6 : decode cX4_middle 6 = .ok (.ifCond .eq 8, 3) := by decide +kernel
theorem dX4_middle_9 : decode cX4_middle 9 = .ok (.iload_n 3, 1) := by decide +kernel
theorem dX4_middle_10 : decode cX4_middle 10 = .ok (.iconst (-1), 1) := by decide +kernel
theorem dX4_middle_11 : decode cX4_middle 11 = .ok (.if_icmp .ge 6, 3) := by decide +kernel
theorem dX4_middle_14 : decode cX4_middle 14 = .ok (.bipush (-10), 2) := by decide +kernel
theorem dX4_middle_16 : decode cX4_middle 16 = .ok (.ireturn, 1) := by decide +kernel
theorem dX4_middle_17 : decode cX4_middle 17 = .ok (.aload_n 0, 1) := by decide +kernel
theorem dX4_middle_18 : decode cX4_middle 18 = .ok (.getfield 111, 3) := by decide +kernel
theorem dX4_middle_21 : decode cX4_middle 21 = .ok (.iconst 2, 1) := by decide +kernel
theorem dX4_middle_22 : decode cX4_middle 22 = .ok (.if_icmp .ne 6, 3) := by decide +kernel
theorem dX4_middle_25 : decode cX4_middle 25 = .ok (.bipush (-20), 2) := by decide +kernel
theorem dX4_middle_27 : decode cX4_middle 27 = .ok (.ireturn, 1) := by decide +kernel
theorem dX4_middle_28 : decode cX4_middle 28 = .ok (.aload_n 0, 1) := by decide +kernel
theorem dX4_middle_29 : decode cX4_middle 29 = .ok (.iload_n 1, 1) := by decide +kernel
theorem dX4_middle_30 : decode cX4_middle 30 = .ok (.iload_n 2, 1) := by decide +kernel
theorem dX4_middle_31 : decode cX4_middle 31 = .ok (.invokevirtual 214, 3) := by decide +kernel
theorem dX4_middle_34 : decode cX4_middle 34 = .ok (.aload_n 0, 1) := by decide +kernel
theorem dX4_middle_35 : decode cX4_middle 35 = .ok (.iconst 0, 1) := by decide +kernel
theorem dX4_middle_36 : decode cX4_middle 36 = .ok (.iload_n 1, 1) := by decide +kernel
theorem dX4_middle_37 : decode cX4_middle 37 = .ok (.aload_n 0, 1) := by decide +kernel
theorem dX4_middle_38 : decode cX4_middle 38 = .ok (.getfield 180, 3) := by decide +kernel
theorem dX4_middle_41 : decode cX4_middle 41 = .ok (.invokevirtual 217, 3) := by decide +kernel
theorem dX4_middle_44 : decode cX4_middle 44 = .ok (.istore 4, 2) := by decide +kernel
theorem dX4_middle_46 : decode cX4_middle 46 = .ok (.aload_n 0, 1) := by decide +kernel
theorem dX4_middle_47 : decode cX4_middle 47 = .ok (.iconst 1, 1) := by decide +kernel
theorem dX4_middle_48 : decode cX4_middle 48 = .ok (.iload_n 2, 1) := by decide +kernel
theorem dX4_middle_49 : decode cX4_middle 49 = .ok (.aload_n 0, 1) := by decide +kernel
theorem dX4_middle_50 : decode cX4_middle 50 = .ok (.getfield 180, 3) := by decide +kernel
theorem dX4_middle_53 : decode cX4_middle 53 = .ok (.invokevirtual 217, 3) := by decide +kernel
theorem dX4_middle_56 : decode cX4_middle 56 = .ok (.istore 5, 2) := by decide +kernel
theorem dX4_middle_58 : decode cX4_middle 58 = .ok (.iconst 0, 1) := by decide +kernel
theorem dX4_middle_59 : decode cX4_middle 59 = .ok (.istore 6, 2) := by decide +kernel
theorem dX4_middle_61 : decode cX4_middle 61 = .ok (.iconst 0, 1) := by decide +kernel
theorem dX4_middle_62 : decode cX4_middle 62 = .ok (.istore 7, 2) := by decide +kernel
theorem dX4_middle_64 : decode cX4_middle 64 = .ok (.iload 7, 2) := by decide +kernel
theorem dX4_middle_66 : decode cX4_middle 66 = .ok (.aload_n 0, 1) := by decide +kernel
theorem dX4_middle_67 : decode cX4_middle 67 = .ok (.getfield 7, 3) := by decide +kernel
theorem dX4_middle_70 : decode cX4_middle 70 = .ok (.if_icmp .gt 57, 3) := by decide +kernel
theorem dX4_middle_73 : decode cX4_middle 73 = .ok (.aload_n 0, 1) := by decide +kernel
theorem dX4_middle_74 : decode cX4_middle 74 = .ok (.getfield 49, 3) := by decide +kernel
theorem dX4_middle_77 : decode cX4_middle 77 = .ok (.iload 7, 2) := by decide +kernel
theorem dX4_middle_79 : decode cX4_middle 79 = .ok (.baload, 1) := by decide +kernel
theorem dX4_middle_80 : decode cX4_middle 80 = .ok (.ifCond .eq 41, 3) := by decide +kernel
theorem dX4_middle_83 : decode cX4_middle 83 = .ok (.aload_n 0, 1) := by decide +kernel
theorem dX4_middle_84 : decode cX4_middle 84 = .ok (.iconst 0, 1) := by decide +kernel
theorem dX4_middle_85 : decode cX4_middle 85 = .ok (.iload_n 1, 1) := by decide +kernel
theorem dX4_middle_86 : decode cX4_middle 86 = .ok (.iload 7, 2) := by decide +kernel
theorem dX4_middle_88 : decode cX4_middle 88 = .ok (.invokevirtual 217, 3) := by decide +kernel
theorem dX4_middle_91 : decode cX4_middle 91 = .ok (.iload 4, 2) := by decide +kernel
theorem dX4_middle_93 : decode cX4_middle 93 = .ok (.if_icmp .le 28, 3) := by decide +kernel
theorem dX4_middle_96 : decode cX4_middle 96 = .ok (.aload_n 0, 1) := by decide +kernel
theorem dX4_middle_97 : decode cX4_middle 97 = .ok (.iconst 1, 1) := by decide +kernel
theorem dX4_middle_98 : decode cX4_middle 98 = .ok (.iload_n 2, 1) := by decide +kernel
theorem dX4_middle_99 : decode cX4_middle 99 = .ok (.iload 7, 2) := by decide +kernel
theorem dX4_middle_101 : decode cX4_middle 101 = .ok (.invokevirtual 217, 3) := by decide +kernel
theorem dX4_middle_104 : decode cX4_middle 104 = .ok (.iload 5, 2) := by decide +kernel
theorem dX4_middle_106 : decode cX4_middle 106 = .ok (.if_icmp .le 15, 3) := by decide +kernel
theorem dX4_middle_109 : decode cX4_middle 109 = .ok (.iload 6, 2) := by decide +kernel
theorem dX4_middle_111 : decode cX4_middle 111 = .ok (.iload_n 3, 1) := by decide +kernel
theorem dX4_middle_112 : decode cX4_middle 112 = .ok (.if_icmp .ne 6, 3) := by decide +kernel
theorem dX4_middle_115 : decode cX4_middle 115 = .ok (.iload 7, 2) := by decide +kernel
theorem dX4_middle_117 : decode cX4_middle 117 = .ok (.ireturn, 1) := by decide +kernel
theorem dX4_middle_118 : decode cX4_middle 118 = .ok (.iinc 6 1, 3) := by decide +kernel
theorem dX4_middle_121 : decode cX4_middle 121 = .ok (.iinc 7 1, 3) := by decide +kernel
theorem dX4_middle_124 : decode cX4_middle 124 = .ok (.goto (-60), 3) := by decide +kernel
theorem dX4_middle_127 : decode cX4_middle 127 = .ok (.iload_n 3, 1) := by decide +kernel
theorem dX4_middle_128 : decode cX4_middle 128 = .ok (.iconst (-1), 1) := by decide +kernel
theorem dX4_middle_129 : decode cX4_middle 129 = .ok (.if_icmp .ne 8, 3) := by decide +kernel
theorem dX4_middle_132 : decode cX4_middle 132 = .ok (.iload 6, 2) := by decide +kernel
theorem dX4_middle_134 : decode cX4_middle 134 = .ok (.goto 5, 3) := by decide +kernel
theorem dX4_middle_137 : decode cX4_middle 137 = .ok (.bipush (-5), 2) := by decide +kernel
theorem dX4_middle_139 : decode cX4_middle 139 = .ok (.ireturn, 1) := by decide +kernel
theorem dX4_edge_0 : decode cX4_edge 0 = .ok (.iload_n 1, 1) := by decide +kernel
theorem dX4_edge_1 : decode cX4_edge 1 = .ok (.invokestatic 69, 3) := by decide +kernel
theorem dX4_edge_4 : decode cX4_edge 4 = .ok (.ifCond .ne 6, 3) := by decide +kernel
theorem dX4_edge_7 : decode cX4_edge 7 = .ok (.bipush (-2), 2) := by decide +kernel
theorem dX4_edge_9 : decode cX4_edge 9 = .ok (.ireturn, 1) := by decide +kernel
theorem dX4_edge_10 : decode cX4_edge 10 = .ok (.aload_n 0, 1) := by decide +kernel
theorem dX4_edge_11 : decode cX4_edge 11 = .ok (.iconst 0, 1) := by decide +kernel
theorem dX4_edge_12 : decode cX4_edge 12 = .ok (.invokevirtual 248, 3) := by decide +kernel
theorem dX4_edge_15 : decode cX4_edge 15 = .ok (.istore_n 2, 1) := by decide +kernel
theorem dX4_edge_16 : decode cX4_edge 16 = .ok (.aload_n 0, 1) := by decide +kernel
theorem dX4_edge_17 : decode cX4_edge 17 = .ok (.getfield 13, 3) := by decide +kernel
theorem dX4_edge_20 : decode cX4_edge 20 = .ok (.bipush 45, 2) := by decide +kernel
theorem dX4_edge_22 : decode cX4_edge 22 = .ok (.iload_n 1, 1) := by decide +kernel
theorem dX4_edge_23 : decode cX4_edge 23 = .ok (.imul, 1) := by decide +kernel
theorem dX4_edge_24 : decode cX4_edge 24 = .ok (.iconst 0, 1) := by decide +kernel
theorem dX4_edge_25 : decode cX4_edge 25 = .ok (.iadd, 1) := by decide +kernel
theorem dX4_edge_26 : decode cX4_edge 26 = .ok (.iaload, 1) := by decide +kernel
theorem dX4_edge_27 : decode cX4_edge 27 = .ok (.istore_n 3, 1) := by decide +kernel
theorem dX4_edge_28 : decode cX4_edge 28 = .ok (.iconst (-1), 1) := by decide +kernel
theorem dX4_edge_29 : decode cX4_edge 29 = .ok (.istore 4, 2) := by decide +kernel
theorem dX4_edge_31 : decode cX4_edge 31 = .ok (.iconst 1, 1) := by decide +kernel
theorem dX4_edge_32 : decode cX4_edge 32 = .ok (.istore 5, 2) := by decide +kernel
theorem dX4_edge_34 : decode cX4_edge 34 = .ok (.iload 5, 2) := by decide +kernel
theorem dX4_edge_36 : decode cX4_edge 36 = .ok (.bipush 30, 2) := by decide +kernel
theorem dX4_edge_38 : decode cX4_edge 38 = .ok (.if_icmp .gt 47, 3) := by decide +kernel
theorem dX4_edge_41 : decode cX4_edge 41 = .ok (.iload 4, 2) := by decide +kernel
theorem dX4_edge_43 : decode cX4_edge 43 = .ok (.iconst (-1), 1) := by decide +kernel
theorem dX4_edge_44 : decode cX4_edge 44 = .ok (.if_icmp .ne 41, 3) := by decide +kernel
theorem dX4_edge_47 : decode cX4_edge 47 = .ok (.aload_n 0, 1) := by decide +kernel
theorem dX4_edge_48 : decode cX4_edge 48 = .ok (.getfield 13, 3) := by decide +kernel
theorem dX4_edge_51 : decode cX4_edge 51 = .ok (.bipush 45, 2) := by decide +kernel
theorem dX4_edge_53 : decode cX4_edge 53 = .ok (.iload_n 1, 1) := by decide +kernel
theorem dX4_edge_54 : decode cX4_edge 54 = .ok (.imul, 1) := by decide +kernel
theorem dX4_edge_55 : decode cX4_edge 55 = .ok (.iconst 0, 1) := by decide +kernel
theorem dX4_edge_56 : decode cX4_edge 56 = .ok (.iadd, 1) := by decide +kernel
theorem dX4_edge_57 : decode cX4_edge 57 = .ok (.iload_n 3, 1) := by decide +kernel
theorem dX4_edge_58 : decode cX4_edge 58 = .ok (.iload 5, 2) := by decide +kernel
theorem dX4_edge_60 : decode cX4_edge 60 = .ok (.iadd, 1) := by decide +kernel
theorem dX4_edge_61 : decode cX4_edge 61 = .ok (.iastore, 1) := by decide +kernel
theorem dX4_edge_62 : decode cX4_edge 62 = .ok (.aload_n 0, 1) := by decide +kernel
theorem dX4_edge_63 : decode cX4_edge 63 = .ok (.iconst 0, 1) := by decide +kernel
theorem dX4_edge_64 : decode cX4_edge 64 = .ok (.invokevirtual 248, 3) := by decide +kernel
theorem dX4_edge_67 : decode cX4_edge 67 = .ok (.iload_n 2, 1) := by decide +kernel
theorem dX4_edge_68 : decode cX4_edge 68 = .ok (.if_icmp .ne 7, 3) := by decide +kernel
theorem dX4_edge_71 : decode cX4_edge 71 = .ok (.iconst (-1), 1) := by decide +kernel
theorem dX4_edge_72 : decode cX4_edge 72 = .ok (.goto 5, 3) := by decide +kernel
theorem dX4_edge_75 : decode cX4_edge 75 = .ok (.iload 5, 2) := by decide +kernel
theorem dX4_edge_77 : decode cX4_edge 77 = .ok (.istore 4, 2) := by decide +kernel
theorem dX4_edge_79 : decode cX4_edge 79 = .ok (.iinc 5 1, 3) := by decide +kernel
theorem dX4_edge_82 : decode cX4_edge 82 = .ok (.goto (-48), 3) := by decide +kernel
theorem dX4_edge_85 : decode cX4_edge 85 = .ok (.aload_n 0, 1) := by decide +kernel
theorem dX4_edge_86 : decode cX4_edge 86 = .ok (.getfield 13, 3) := by decide +kernel
theorem dX4_edge_89 : decode cX4_edge 89 = .ok (.bipush 45, 2) := by decide +kernel
theorem dX4_edge_91 : decode cX4_edge 91 = .ok (.iload_n 1, 1) := by decide +kernel
theorem dX4_edge_92 : decode cX4_edge 92 = .ok (.imul, 1) := by decide +kernel
theorem dX4_edge_93 : decode cX4_edge 93 = .ok (.iconst 0, 1) := by decide +kernel
theorem dX4_edge_94 : decode cX4_edge 94 = .ok (.iadd, 1) := by decide +kernel
theorem dX4_edge_95 : decode cX4_edge 95 = .ok (.iload_n 3, 1) := by decide +kernel
theorem dX4_edge_96 : decode cX4_edge 96 = .ok (.iastore, 1) := by decide +kernel
theorem dX4_edge_97 : decode cX4_edge 97 = .ok (.iload 4, 2) := by decide +kernel
theorem dX4_edge_99 : decode cX4_edge 99 = .ok (.ireturn, 1) := by decide +kernel
theorem dX4_part_0 : decode cX4_part 0 = .ok (.iload_n 1, 1) := by decide +kernel
theorem dX4_part_1 : decode cX4_part 1 = .ok (.ifCond .ne 10, 3) := by decide +kernel
theorem dX4_part_4 : decode cX4_part 4 = .ok (.aload_n 0, 1) := by decide +kernel
theorem dX4_part_5 : decode cX4_part 5 = .ok (.getfield 220, 3) := by decide +kernel
theorem dX4_part_8 : decode cX4_part 8 = .ok (.goto 18, 3) := by decide +kernel
theorem dX4_part_11 : decode cX4_part 11 = .ok (.iload_n 1, 1) := by decide +kernel
theorem dX4_part_12 : decode cX4_part 12 = .ok (.iconst 1, 1) := by decide +kernel
theorem dX4_part_13 : decode cX4_part 13 = .ok (.if_icmp .ne 10, 3) := by decide +kernel
theorem dX4_part_16 : decode cX4_part 16 = .ok (.aload_n 0, 1) := by decide +kernel
theorem dX4_part_17 : decode cX4_part 17 = .ok (.getfield 35, 3) := by decide +kernel
theorem dX4_part_20 : decode cX4_part 20 = .ok (.goto 6, 3) := by decide +kernel
theorem dX4_part_23 : decode cX4_part 23 = .ok (.ldc2_w 251, 3) := by decide +kernel
theorem dX4_part_26 : decode cX4_part 26 = .ok (.lreturn, 1) := by decide +kernel
theorem dX4_count_0 : decode cX4_count 0 = .ok (.iload_n 1, 1) := by decide +kernel
theorem dX4_count_1 : decode cX4_count 1 = .ok (.invokestatic 69, 3) := by decide +kernel
theorem dX4_count_4 : decode cX4_count 4 = .ok (.ifCond .eq 12, 3) := by decide +kernel
theorem dX4_count_7 : decode cX4_count 7 = .ok (.aload_n 0, 1) := by decide +kernel
theorem dX4_count_8 : decode cX4_count 8 = .ok (.getfield 20, 3) := by decide +kernel
theorem dX4_count_11 : decode cX4_count 11 = .ok (.iload_n 1, 1) := by decide +kernel
theorem dX4_count_12 : decode cX4_count 12 = .ok (.iaload, 1) := by decide +kernel
theorem dX4_count_13 : decode cX4_count 13 = .ok (.goto 5, 3) := by decide +kernel
theorem dX4_count_16 : decode cX4_count 16 = .ok (.bipush (-2), 2) := by decide +kernel
theorem dX4_count_18 : decode cX4_count 18 = .ok (.ireturn, 1) := by decide +kernel
theorem dX4_digest_0 : decode cX4_digest 0 = .ok (.ldc2_w 253, 3) := by decide +kernel
theorem dX4_digest_3 : decode cX4_digest 3 = .ok (.ldc2_w 253, 3) := by decide +kernel
theorem dX4_digest_6 : decode cX4_digest 6 = .ok (.ldc2_w 255, 3) := by decide +kernel
theorem dX4_digest_9 : decode cX4_digest 9 = .ok (.aload_n 0, 1) := by decide +kernel
theorem dX4_digest_10 : decode cX4_digest 10 = .ok (.getfield 7, 3) := by decide +kernel
theorem dX4_digest_13 : decode cX4_digest 13 = .ok (.i2l, 1) := by decide +kernel
theorem dX4_digest_14 : decode cX4_digest 14 = .ok (.ladd, 1) := by decide +kernel
theorem dX4_digest_15 : decode cX4_digest 15 = .ok (.lmul, 1) := by decide +kernel
theorem dX4_digest_16 : decode cX4_digest 16 = .ok (.aload_n 0, 1) := by decide +kernel
theorem dX4_digest_17 : decode cX4_digest 17 = .ok (.getfield 20, 3) := by decide +kernel
theorem dX4_digest_20 : decode cX4_digest 20 = .ok (.iconst 0, 1) := by decide +kernel
theorem dX4_digest_21 : decode cX4_digest 21 = .ok (.iaload, 1) := by decide +kernel
theorem dX4_digest_22 : decode cX4_digest 22 = .ok (.i2l, 1) := by decide +kernel
theorem dX4_digest_23 : decode cX4_digest 23 = .ok (.ladd, 1) := by decide +kernel
theorem dX4_digest_24 : decode cX4_digest 24 = .ok (.lmul, 1) := by decide +kernel
theorem dX4_digest_25 : decode cX4_digest 25 = .ok (.aload_n 0, 1) := by decide +kernel
theorem dX4_digest_26 : decode cX4_digest 26 = .ok (.getfield 20, 3) := by decide +kernel
theorem dX4_digest_29 : decode cX4_digest 29 = .ok (.iconst 1, 1) := by decide +kernel
theorem dX4_digest_30 : decode cX4_digest 30 = .ok (.iaload, 1) := by decide +kernel
theorem dX4_digest_31 : decode cX4_digest 31 = .ok (.i2l, 1) := by decide +kernel
theorem dX4_digest_32 : decode cX4_digest 32 = .ok (.ladd, 1) := by decide +kernel
theorem dX4_digest_33 : decode cX4_digest 33 = .ok (.lstore_n 1, 1) := by decide +kernel
theorem dX4_digest_34 : decode cX4_digest 34 = .ok (.iconst 0, 1) := by decide +kernel
theorem dX4_digest_35 : decode cX4_digest 35 = .ok (.istore_n 3, 1) := by decide +kernel
theorem dX4_digest_36 : decode cX4_digest 36 = .ok (.iload_n 3, 1) := by decide +kernel
theorem dX4_digest_37 : decode cX4_digest 37 = .ok (.iconst 2, 1) := by decide +kernel
theorem dX4_digest_38 : decode cX4_digest 38 = .ok (.if_icmp .ge 81, 3) := by decide +kernel
theorem dX4_digest_41 : decode cX4_digest 41 = .ok (.iconst 0, 1) := by decide +kernel
theorem dX4_digest_42 : decode cX4_digest 42 = .ok (.istore 4, 2) := by decide +kernel
theorem dX4_digest_44 : decode cX4_digest 44 = .ok (.iload 4, 2) := by decide +kernel
theorem dX4_digest_46 : decode cX4_digest 46 = .ok (.aload_n 0, 1) := by decide +kernel
theorem dX4_digest_47 : decode cX4_digest 47 = .ok (.getfield 20, 3) := by decide +kernel
theorem dX4_digest_50 : decode cX4_digest 50 = .ok (.iload_n 3, 1) := by decide +kernel
theorem dX4_digest_51 : decode cX4_digest 51 = .ok (.iaload, 1) := by decide +kernel
theorem dX4_digest_52 : decode cX4_digest 52 = .ok (.if_icmp .ge 61, 3) := by decide +kernel
theorem dX4_digest_55 : decode cX4_digest 55 = .ok (.iconst 0, 1) := by decide +kernel
theorem dX4_digest_56 : decode cX4_digest 56 = .ok (.istore 5, 2) := by decide +kernel
theorem dX4_digest_58 : decode cX4_digest 58 = .ok (.iload 5, 2) := by decide +kernel
theorem dX4_digest_60 : decode cX4_digest 60 = .ok (.bipush 9, 2) := by decide +kernel
theorem dX4_digest_62 : decode cX4_digest 62 = .ok (.if_icmp .ge 26, 3) := by decide +kernel
theorem dX4_digest_65 : decode cX4_digest 65 = .ok (.ldc2_w 253, 3) := by decide +kernel
theorem dX4_digest_68 : decode cX4_digest 68 = .ok (.lload_n 1, 1) := by decide +kernel
theorem dX4_digest_69 : decode cX4_digest 69 = .ok (.lmul, 1) := by decide +kernel
theorem dX4_digest_70 : decode cX4_digest 70 = .ok (.aload_n 0, 1) := by decide +kernel
theorem dX4_digest_71 : decode cX4_digest 71 = .ok (.iload_n 3, 1) := by decide +kernel
theorem dX4_digest_72 : decode cX4_digest 72 = .ok (.iload 4, 2) := by decide +kernel
theorem dX4_digest_74 : decode cX4_digest 74 = .ok (.iload 5, 2) := by decide +kernel
theorem dX4_digest_76 : decode cX4_digest 76 = .ok (.invokevirtual 75, 3) := by decide +kernel
theorem dX4_digest_79 : decode cX4_digest 79 = .ok (.i2l, 1) := by decide +kernel
theorem dX4_digest_80 : decode cX4_digest 80 = .ok (.ladd, 1) := by decide +kernel
theorem dX4_digest_81 : decode cX4_digest 81 = .ok (.lstore_n 1, 1) := by decide +kernel
theorem dX4_digest_82 : decode cX4_digest 82 = .ok (.iinc 5 1, 3) := by decide +kernel
theorem dX4_digest_85 : decode cX4_digest 85 = .ok (.goto (-27), 3) := by decide +kernel
theorem dX4_digest_88 : decode cX4_digest 88 = .ok (.ldc2_w 253, 3) := by decide +kernel
theorem dX4_digest_91 : decode cX4_digest 91 = .ok (.lload_n 1, 1) := by decide +kernel
theorem dX4_digest_92 : decode cX4_digest 92 = .ok (.lmul, 1) := by decide +kernel
theorem dX4_digest_93 : decode cX4_digest 93 = .ok (.aload_n 0, 1) := by decide +kernel
theorem dX4_digest_94 : decode cX4_digest 94 = .ok (.getfield 17, 3) := by decide +kernel
theorem dX4_digest_97 : decode cX4_digest 97 = .ok (.iconst 5, 1) := by decide +kernel
theorem dX4_digest_98 : decode cX4_digest 98 = .ok (.iload_n 3, 1) := by decide +kernel
theorem dX4_digest_99 : decode cX4_digest 99 = .ok (.imul, 1) := by decide +kernel
theorem dX4_digest_100 : decode cX4_digest 100 = .ok (.iload 4, 2) := by decide +kernel
theorem dX4_digest_102 : decode cX4_digest 102 = .ok (.iadd, 1) := by decide +kernel
theorem dX4_digest_103 : decode cX4_digest 103 = .ok (.iaload, 1) := by decide +kernel
theorem dX4_digest_104 : decode cX4_digest 104 = .ok (.i2l, 1) := by decide +kernel
theorem dX4_digest_105 : decode cX4_digest 105 = .ok (.ladd, 1) := by decide +kernel
theorem dX4_digest_106 : decode cX4_digest 106 = .ok (.lstore_n 1, 1) := by decide +kernel
theorem dX4_digest_107 : decode cX4_digest 107 = .ok (.iinc 4 1, 3) := by decide +kernel
theorem dX4_digest_110 : decode cX4_digest 110 = .ok (.goto (-66), 3) := by decide +kernel
theorem dX4_digest_113 : decode cX4_digest 113 = .ok (.iinc 3 1, 3) := by decide +kernel
theorem dX4_digest_116 : decode cX4_digest 116 = .ok (.goto (-80), 3) := by decide +kernel
theorem dX4_digest_119 : decode cX4_digest 119 = .ok (.ldc2_w 253, 3) := by decide +kernel
theorem dX4_digest_122 : decode cX4_digest 122 = .ok (.ldc2_w 253, 3) := by decide +kernel
theorem dX4_digest_125 : decode cX4_digest 125 = .ok (.ldc2_w 253, 3) := by decide +kernel
theorem dX4_digest_128 : decode cX4_digest 128 = .ok (.lload_n 1, 1) := by decide +kernel
theorem dX4_digest_129 : decode cX4_digest 129 = .ok (.lmul, 1) := by decide +kernel
theorem dX4_digest_130 : decode cX4_digest 130 = .ok (.aload_n 0, 1) := by decide +kernel
theorem dX4_digest_131 : decode cX4_digest 131 = .ok (.getfield 111, 3) := by decide +kernel
theorem dX4_digest_134 : decode cX4_digest 134 = .ok (.i2l, 1) := by decide +kernel
theorem dX4_digest_135 : decode cX4_digest 135 = .ok (.ladd, 1) := by decide +kernel
theorem dX4_digest_136 : decode cX4_digest 136 = .ok (.lmul, 1) := by decide +kernel
theorem dX4_digest_137 : decode cX4_digest 137 = .ok (.aload_n 0, 1) := by decide +kernel
theorem dX4_digest_138 : decode cX4_digest 138 = .ok (.getfield 23, 3) := by decide +kernel
theorem dX4_digest_141 : decode cX4_digest 141 = .ok (.i2l, 1) := by decide +kernel
theorem dX4_digest_142 : decode cX4_digest 142 = .ok (.ladd, 1) := by decide +kernel
theorem dX4_digest_143 : decode cX4_digest 143 = .ok (.lmul, 1) := by decide +kernel
theorem dX4_digest_144 : decode cX4_digest 144 = .ok (.aload_n 0, 1) := by decide +kernel
theorem dX4_digest_145 : decode cX4_digest 145 = .ok (.getfield 114, 3) := by decide +kernel
theorem dX4_digest_148 : decode cX4_digest 148 = .ok (.i2l, 1) := by decide +kernel
theorem dX4_digest_149 : decode cX4_digest 149 = .ok (.ladd, 1) := by decide +kernel
theorem dX4_digest_150 : decode cX4_digest 150 = .ok (.lstore_n 1, 1) := by decide +kernel
theorem dX4_digest_151 : decode cX4_digest 151 = .ok (.ldc2_w 253, 3) := by decide +kernel
theorem dX4_digest_154 : decode cX4_digest 154 = .ok (.ldc2_w 253, 3) := by decide +kernel
theorem dX4_digest_157 : decode cX4_digest 157 = .ok (.ldc2_w 253, 3) := by decide +kernel
theorem dX4_digest_160 : decode cX4_digest 160 = .ok (.lload_n 1, 1) := by decide +kernel
theorem dX4_digest_161 : decode cX4_digest 161 = .ok (.lmul, 1) := by decide +kernel
theorem dX4_digest_162 : decode cX4_digest 162 = .ok (.aload_n 0, 1) := by decide +kernel
theorem dX4_digest_163 : decode cX4_digest 163 = .ok (.getfield 26, 3) := by decide +kernel
theorem dX4_digest_166 : decode cX4_digest 166 = .ok (.i2l, 1) := by decide +kernel
theorem dX4_digest_167 : decode cX4_digest 167 = .ok (.ladd, 1) := by decide +kernel
theorem dX4_digest_168 : decode cX4_digest 168 = .ok (.lmul, 1) := by decide +kernel
theorem dX4_digest_169 : decode cX4_digest 169 = .ok (.aload_n 0, 1) := by decide +kernel
theorem dX4_digest_170 : decode cX4_digest 170 = .ok (.getfield 29, 3) := by decide +kernel
theorem dX4_digest_173 : decode cX4_digest 173 = .ok (.i2l, 1) := by decide +kernel
theorem dX4_digest_174 : decode cX4_digest 174 = .ok (.ladd, 1) := by decide +kernel
theorem dX4_digest_175 : decode cX4_digest 175 = .ok (.lmul, 1) := by decide +kernel
theorem dX4_digest_176 : decode cX4_digest 176 = .ok (.aload_n 0, 1) := by decide +kernel
theorem dX4_digest_177 : decode cX4_digest 177 = .ok (.getfield 119, 3) := by decide +kernel
theorem dX4_digest_180 : decode cX4_digest 180 = .ok (.i2l, 1) := by decide +kernel
theorem dX4_digest_181 : decode cX4_digest 181 = .ok (.ladd, 1) := by decide +kernel
theorem dX4_digest_182 : decode cX4_digest 182 = .ok (.lstore_n 1, 1) := by decide +kernel
theorem dX4_digest_183 : decode cX4_digest 183 = .ok (.iconst 0, 1) := by decide +kernel
theorem dX4_digest_184 : decode cX4_digest 184 = .ok (.istore_n 3, 1) := by decide +kernel
theorem dX4_digest_185 : decode cX4_digest 185 = .ok (.iload_n 3, 1) := by decide +kernel
theorem dX4_digest_186 : decode cX4_digest 186 = .ok (.aload_n 0, 1) := by decide +kernel
theorem dX4_digest_187 : decode cX4_digest 187 = .ok (.getfield 119, 3) := by decide +kernel
theorem dX4_digest_190 : decode cX4_digest 190 = .ok (.if_icmp .ge 23, 3) := by decide +kernel
theorem dX4_digest_193 : decode cX4_digest 193 = .ok (.ldc2_w 253, 3) := by decide +kernel
theorem dX4_digest_196 : decode cX4_digest 196 = .ok (.lload_n 1, 1) := by decide +kernel
theorem dX4_digest_197 : decode cX4_digest 197 = .ok (.lmul, 1) := by decide +kernel
theorem dX4_digest_198 : decode cX4_digest 198 = .ok (.aload_n 0, 1) := by decide +kernel
theorem dX4_digest_199 : decode cX4_digest 199 = .ok (.getfield 32, 3) := by decide +kernel
theorem dX4_digest_202 : decode cX4_digest 202 = .ok (.iload_n 3, 1) := by decide +kernel
theorem dX4_digest_203 : decode cX4_digest 203 = .ok (.iaload, 1) := by decide +kernel
theorem dX4_digest_204 : decode cX4_digest 204 = .ok (.i2l, 1) := by decide +kernel
theorem dX4_digest_205 : decode cX4_digest 205 = .ok (.ladd, 1) := by decide +kernel
theorem dX4_digest_206 : decode cX4_digest 206 = .ok (.lstore_n 1, 1) := by decide +kernel
theorem dX4_digest_207 : decode cX4_digest 207 = .ok (.iinc 3 1, 3) := by decide +kernel
theorem dX4_digest_210 : decode cX4_digest 210 = .ok (.goto (-25), 3) := by decide +kernel
theorem dX4_digest_213 : decode cX4_digest 213 = .ok (.ldc2_w 253, 3) := by decide +kernel
theorem dX4_digest_216 : decode cX4_digest 216 = .ok (.ldc2_w 253, 3) := by decide +kernel
theorem dX4_digest_219 : decode cX4_digest 219 = .ok (.lload_n 1, 1) := by decide +kernel
theorem dX4_digest_220 : decode cX4_digest 220 = .ok (.lmul, 1) := by decide +kernel
theorem dX4_digest_221 : decode cX4_digest 221 = .ok (.aload_n 0, 1) := by decide +kernel
theorem dX4_digest_222 : decode cX4_digest 222 = .ok (.getfield 220, 3) := by decide +kernel
theorem dX4_digest_225 : decode cX4_digest 225 = .ok (.ladd, 1) := by decide +kernel
theorem dX4_digest_226 : decode cX4_digest 226 = .ok (.lmul, 1) := by decide +kernel
theorem dX4_digest_227 : decode cX4_digest 227 = .ok (.aload_n 0, 1) := by decide +kernel
theorem dX4_digest_228 : decode cX4_digest 228 = .ok (.getfield 35, 3) := by decide +kernel
theorem dX4_digest_231 : decode cX4_digest 231 = .ok (.ladd, 1) := by decide +kernel
theorem dX4_digest_232 : decode cX4_digest 232 = .ok (.lreturn, 1) := by decide +kernel
theorem dJ0_indexOf_0f7a4_0 : decode cJ0_indexOf_0f7a4 0 = .ok (.aload_n 0, 1) := by decide +kernel
theorem dJ0_indexOf_0f7a4_1 : decode cJ0_indexOf_0f7a4 1 = .ok (.iload_n 1, 1) := by decide +kernel
theorem dJ0_indexOf_0f7a4_2 : decode cJ0_indexOf_0f7a4 2 = .ok (.iconst 0, 1) := by decide +kernel
theorem dJ0_indexOf_0f7a4_3 : decode cJ0_indexOf_0f7a4 3 = .ok (.invokevirtual 633, 3) := by decide +kernel
theorem dJ0_indexOf_0f7a4_6 : decode cJ0_indexOf_0f7a4 6 = .ok (.ireturn, 1) := by decide +kernel
theorem dJ0_indexOf_7cf53_0 : decode cJ0_indexOf_7cf53 0 = .ok (.aload_n 0, 1) := by decide +kernel
theorem dJ0_indexOf_7cf53_1 : decode cJ0_indexOf_7cf53 1 = .ok (.invokevirtual 492, 3) := by decide +kernel
theorem dJ0_indexOf_7cf53_4 : decode cJ0_indexOf_7cf53 4 = .ok (.ifCond .eq 19, 3) := by decide +kernel
theorem dJ0_indexOf_7cf53_7 : decode cJ0_indexOf_7cf53 7 = .ok (.aload_n 0, 1) := by decide +kernel
theorem dJ0_indexOf_7cf53_8 : decode cJ0_indexOf_7cf53 8 = .ok (.getfield 9, 3) := by decide +kernel
theorem dJ0_indexOf_7cf53_11 : decode cJ0_indexOf_7cf53 11 = .ok (.iload_n 1, 1) := by decide +kernel
theorem dJ0_indexOf_7cf53_12 : decode cJ0_indexOf_7cf53 12 = .ok (.iload_n 2, 1) := by decide +kernel
theorem dJ0_indexOf_7cf53_13 : decode cJ0_indexOf_7cf53 13 = .ok (.aload_n 0, 1) := by decide +kernel
theorem dJ0_indexOf_7cf53_14 : decode cJ0_indexOf_7cf53 14 = .ok (.invokevirtual 505, 3) := by decide +kernel
theorem dJ0_indexOf_7cf53_17 : decode cJ0_indexOf_7cf53 17 = .ok (.invokestatic 637, 3) := by decide +kernel
theorem dJ0_indexOf_7cf53_20 : decode cJ0_indexOf_7cf53 20 = .ok (.goto 16, 3) := by decide +kernel
theorem dJ0_indexOf_7cf53_23 : decode cJ0_indexOf_7cf53 23 = .ok (.aload_n 0, 1) := by decide +kernel
theorem dJ0_indexOf_7cf53_24 : decode cJ0_indexOf_7cf53 24 = .ok (.getfield 9, 3) := by decide +kernel
theorem dJ0_indexOf_7cf53_27 : decode cJ0_indexOf_7cf53 27 = .ok (.iload_n 1, 1) := by decide +kernel
theorem dJ0_indexOf_7cf53_28 : decode cJ0_indexOf_7cf53 28 = .ok (.iload_n 2, 1) := by decide +kernel
theorem dJ0_indexOf_7cf53_29 : decode cJ0_indexOf_7cf53 29 = .ok (.aload_n 0, 1) := by decide +kernel
theorem dJ0_indexOf_7cf53_30 : decode cJ0_indexOf_7cf53 30 = .ok (.invokevirtual 505, 3) := by decide +kernel
theorem dJ0_indexOf_7cf53_36 : decode cJ0_indexOf_7cf53 36 = .ok (.ireturn, 1) := by decide +kernel
theorem dJ0_isLatin1_aae02_0 : decode cJ0_isLatin1_aae02 0 = .ok (.getstatic 38, 3) := by decide +kernel
theorem dJ0_isLatin1_aae02_3 : decode cJ0_isLatin1_aae02 3 = .ok (.ifCond .eq 14, 3) := by decide +kernel
theorem dJ0_isLatin1_aae02_6 : decode cJ0_isLatin1_aae02 6 = .ok (.aload_n 0, 1) := by decide +kernel
theorem dJ0_isLatin1_aae02_7 : decode cJ0_isLatin1_aae02 7 = .ok (.getfield 15, 3) := by decide +kernel
theorem dJ0_isLatin1_aae02_10 : decode cJ0_isLatin1_aae02 10 = .ok (.ifCond .ne 7, 3) := by decide +kernel
theorem dJ0_isLatin1_aae02_13 : decode cJ0_isLatin1_aae02 13 = .ok (.iconst 1, 1) := by decide +kernel
theorem dJ0_isLatin1_aae02_14 : decode cJ0_isLatin1_aae02 14 = .ok (.goto 4, 3) := by decide +kernel
theorem dJ0_isLatin1_aae02_17 : decode cJ0_isLatin1_aae02 17 = .ok (.iconst 0, 1) := by decide +kernel
theorem dJ0_isLatin1_aae02_18 : decode cJ0_isLatin1_aae02 18 = .ok (.ireturn, 1) := by decide +kernel
theorem dJ0_length_8abf5_0 : decode cJ0_length_8abf5 0 = .ok (.aload_n 0, 1) := by decide +kernel
theorem dJ0_length_8abf5_1 : decode cJ0_length_8abf5 1 = .ok (.getfield 9, 3) := by decide +kernel
theorem dJ0_length_8abf5_4 : decode cJ0_length_8abf5 4 = .ok (.arraylength, 1) := by decide +kernel
theorem dJ0_length_8abf5_5 : decode cJ0_length_8abf5 5 = .ok (.aload_n 0, 1) := by decide +kernel
theorem dJ0_length_8abf5_6 : decode cJ0_length_8abf5 6 = .ok (.invokevirtual 335, 3) := by decide +kernel
theorem dJ0_length_8abf5_9 : decode cJ0_length_8abf5 9 = .ok (.ishr, 1) := by decide +kernel
theorem dJ0_length_8abf5_10 : decode cJ0_length_8abf5 10 = .ok (.ireturn, 1) := by decide +kernel
theorem dJ0_coder_7d493_0 : decode cJ0_coder_7d493 0 = .ok (.getstatic 38, 3) := by decide +kernel
theorem dJ0_coder_7d493_3 : decode cJ0_coder_7d493 3 = .ok (.ifCond .eq 10, 3) := by decide +kernel
theorem dJ0_coder_7d493_6 : decode cJ0_coder_7d493 6 = .ok (.aload_n 0, 1) := by decide +kernel
theorem dJ0_coder_7d493_7 : decode cJ0_coder_7d493 7 = .ok (.getfield 15, 3) := by decide +kernel
theorem dJ0_coder_7d493_10 : decode cJ0_coder_7d493 10 = .ok (.goto 4, 3) := by decide +kernel
theorem dJ0_coder_7d493_13 : decode cJ0_coder_7d493 13 = .ok (.iconst 1, 1) := by decide +kernel
theorem dJ0_coder_7d493_14 : decode cJ0_coder_7d493 14 = .ok (.ireturn, 1) := by decide +kernel
theorem dJ1_canEncode_9a6ad_0 : decode cJ1_canEncode_9a6ad 0 = .ok (.iload_n 0, 1) := by decide +kernel
theorem dJ1_canEncode_9a6ad_1 : decode cJ1_canEncode_9a6ad 1 = .ok (.ifCond .lt 14, 3) := by decide +kernel
theorem dJ1_canEncode_9a6ad_4 : decode cJ1_canEncode_9a6ad 4 = .ok (.iload_n 0, 1) := by decide +kernel
theorem dJ1_canEncode_9a6ad_5 : decode cJ1_canEncode_9a6ad 5 = .ok (.sipush 255, 3) := by decide +kernel
theorem dJ1_canEncode_9a6ad_8 : decode cJ1_canEncode_9a6ad 8 = .ok (.if_icmp .gt 7, 3) := by decide +kernel
theorem dJ1_canEncode_9a6ad_11 : decode cJ1_canEncode_9a6ad 11 = .ok (.iconst 1, 1) := by decide +kernel
theorem dJ1_canEncode_9a6ad_12 : decode cJ1_canEncode_9a6ad 12 = .ok (.goto 4, 3) := by decide +kernel
theorem dJ1_canEncode_9a6ad_15 : decode cJ1_canEncode_9a6ad 15 = .ok (.iconst 0, 1) := by decide +kernel
theorem dJ1_canEncode_9a6ad_16 : decode cJ1_canEncode_9a6ad 16 = .ok (.ireturn, 1) := by decide +kernel
theorem dJ1_indexOf_4cfef_0 : decode cJ1_indexOf_4cfef 0 = .ok (.iload_n 1, 1) := by decide +kernel
theorem dJ1_indexOf_4cfef_1 : decode cJ1_indexOf_4cfef 1 = .ok (.invokestatic 88, 3) := by decide +kernel
theorem dJ1_indexOf_4cfef_4 : decode cJ1_indexOf_4cfef 4 = .ok (.ifCond .ne 5, 3) := by decide +kernel
theorem dJ1_indexOf_4cfef_7 : decode cJ1_indexOf_4cfef 7 = .ok (.iconst (-1), 1) := by decide +kernel
theorem dJ1_indexOf_4cfef_8 : decode cJ1_indexOf_4cfef 8 = .ok (.ireturn, 1) := by decide +kernel
theorem dJ1_indexOf_4cfef_9 : decode cJ1_indexOf_4cfef 9 = .ok (.iload_n 2, 1) := by decide +kernel
theorem dJ1_indexOf_4cfef_10 : decode cJ1_indexOf_4cfef 10 = .ok (.iconst 0, 1) := by decide +kernel
theorem dJ1_indexOf_4cfef_11 : decode cJ1_indexOf_4cfef 11 = .ok (.invokestatic 92, 3) := by decide +kernel
theorem dJ1_indexOf_4cfef_14 : decode cJ1_indexOf_4cfef 14 = .ok (.istore_n 2, 1) := by decide +kernel
theorem dJ1_indexOf_4cfef_15 : decode cJ1_indexOf_4cfef 15 = .ok (.iload_n 3, 1) := by decide +kernel
theorem dJ1_indexOf_4cfef_16 : decode cJ1_indexOf_4cfef 16 = .ok (.aload_n 0, 1) := by decide +kernel
theorem dJ1_indexOf_4cfef_17 : decode cJ1_indexOf_4cfef 17 = .ok (.arraylength, 1) := by decide +kernel
theorem dJ1_indexOf_4cfef_18 : decode cJ1_indexOf_4cfef 18 = .ok (.invokestatic 38, 3) := by decide +kernel
theorem dJ1_indexOf_4cfef_21 : decode cJ1_indexOf_4cfef 21 = .ok (.istore_n 3, 1) := by decide +kernel
theorem dJ1_indexOf_4cfef_22 : decode cJ1_indexOf_4cfef 22 = .ok (.iload_n 2, 1) := by decide +kernel
theorem dJ1_indexOf_4cfef_23 : decode cJ1_indexOf_4cfef 23 = .ok (.iload_n 3, 1) := by decide +kernel
theorem dJ1_indexOf_4cfef_24 : decode cJ1_indexOf_4cfef 24 = .ok (.if_icmp .lt 5, 3) := by decide +kernel
theorem dJ1_indexOf_4cfef_27 : decode cJ1_indexOf_4cfef 27 = .ok (.iconst (-1), 1) := by decide +kernel
theorem dJ1_indexOf_4cfef_28 : decode cJ1_indexOf_4cfef 28 = .ok (.ireturn, 1) := by decide +kernel
theorem dJ1_indexOf_4cfef_29 : decode cJ1_indexOf_4cfef 29 = .ok (.aload_n 0, 1) := by decide +kernel
theorem dJ1_indexOf_4cfef_30 : decode cJ1_indexOf_4cfef 30 = .ok (.iload_n 1, 1) := by decide +kernel
theorem dJ1_indexOf_4cfef_31 : decode cJ1_indexOf_4cfef 31 = .ok (.iload_n 2, 1) := by decide +kernel
theorem dJ1_indexOf_4cfef_32 : decode cJ1_indexOf_4cfef 32 = .ok (.iload_n 3, 1) := by decide +kernel
theorem dJ1_indexOf_4cfef_33 : decode cJ1_indexOf_4cfef 33 = .ok (.invokestatic 95, 3) := by decide +kernel
theorem dJ1_indexOf_4cfef_36 : decode cJ1_indexOf_4cfef 36 = .ok (.ireturn, 1) := by decide +kernel
theorem dJ1_indexOfChar_4cfef_0 : decode cJ1_indexOfChar_4cfef 0 = .ok (.iload_n 1, 1) := by decide +kernel
theorem dJ1_indexOfChar_4cfef_1 : decode cJ1_indexOfChar_4cfef 1 = .ok (.i2b, 1) := by decide +kernel
theorem dJ1_indexOfChar_4cfef_2 : decode cJ1_indexOfChar_4cfef 2 = .ok (.istore 4, 2) := by decide +kernel
theorem dJ1_indexOfChar_4cfef_4 : decode cJ1_indexOfChar_4cfef 4 = .ok (.iload_n 2, 1) := by decide +kernel
theorem dJ1_indexOfChar_4cfef_5 : decode cJ1_indexOfChar_4cfef 5 = .ok (.istore 5, 2) := by decide +kernel
theorem dJ1_indexOfChar_4cfef_7 : decode cJ1_indexOfChar_4cfef 7 = .ok (.iload 5, 2) := by decide +kernel
theorem dJ1_indexOfChar_4cfef_9 : decode cJ1_indexOfChar_4cfef 9 = .ok (.iload_n 3, 1) := by decide +kernel
theorem dJ1_indexOfChar_4cfef_10 : decode cJ1_indexOfChar_4cfef 10 = .ok (.if_icmp .ge 21, 3) := by decide +kernel
theorem dJ1_indexOfChar_4cfef_13 : decode cJ1_indexOfChar_4cfef 13 = .ok (.aload_n 0, 1) := by decide +kernel
theorem dJ1_indexOfChar_4cfef_14 : decode cJ1_indexOfChar_4cfef 14 = .ok (.iload 5, 2) := by decide +kernel
theorem dJ1_indexOfChar_4cfef_16 : decode cJ1_indexOfChar_4cfef 16 = .ok (.baload, 1) := by decide +kernel
theorem dJ1_indexOfChar_4cfef_17 : decode cJ1_indexOfChar_4cfef 17 = .ok (.iload 4, 2) := by decide +kernel
theorem dJ1_indexOfChar_4cfef_19 : decode cJ1_indexOfChar_4cfef 19 = .ok (.if_icmp .ne 6, 3) := by decide +kernel
theorem dJ1_indexOfChar_4cfef_22 : decode cJ1_indexOfChar_4cfef 22 = .ok (.iload 5, 2) := by decide +kernel
theorem dJ1_indexOfChar_4cfef_24 : decode cJ1_indexOfChar_4cfef 24 = .ok (.ireturn, 1) := by decide +kernel
theorem dJ1_indexOfChar_4cfef_25 : decode cJ1_indexOfChar_4cfef 25 = .ok (.iinc 5 1, 3) := by decide +kernel
theorem dJ1_indexOfChar_4cfef_28 : decode cJ1_indexOfChar_4cfef 28 = .ok (.goto (-21), 3) := by decide +kernel
theorem dJ1_indexOfChar_4cfef_31 : decode cJ1_indexOfChar_4cfef 31 = .ok (.iconst (-1), 1) := by decide +kernel
theorem dJ1_indexOfChar_4cfef_32 : decode cJ1_indexOfChar_4cfef 32 = .ok (.ireturn, 1) := by decide +kernel
theorem dJ6_bitCount_0f7a4_0 : decode cJ6_bitCount_0f7a4 0 = .ok (.iload_n 0, 1) := by decide +kernel
theorem dJ6_bitCount_0f7a4_1 : decode cJ6_bitCount_0f7a4 1 = .ok (.iload_n 0, 1) := by decide +kernel
theorem dJ6_bitCount_0f7a4_2 : decode cJ6_bitCount_0f7a4 2 = .ok (.iconst 1, 1) := by decide +kernel
theorem dJ6_bitCount_0f7a4_3 : decode cJ6_bitCount_0f7a4 3 = .ok (.iushr, 1) := by decide +kernel
theorem dJ6_bitCount_0f7a4_4 : decode cJ6_bitCount_0f7a4 4 = .ok (.ldc_w 265, 3) := by decide +kernel
theorem dJ6_bitCount_0f7a4_7 : decode cJ6_bitCount_0f7a4 7 = .ok (.iand, 1) := by decide +kernel
theorem dJ6_bitCount_0f7a4_8 : decode cJ6_bitCount_0f7a4 8 = .ok (.isub, 1) := by decide +kernel
theorem dJ6_bitCount_0f7a4_9 : decode cJ6_bitCount_0f7a4 9 = .ok (.istore_n 0, 1) := by decide +kernel
theorem dJ6_bitCount_0f7a4_10 : decode cJ6_bitCount_0f7a4 10 = .ok (.iload_n 0, 1) := by decide +kernel
theorem dJ6_bitCount_0f7a4_11 : decode cJ6_bitCount_0f7a4 11 = .ok (.ldc_w 266, 3) := by decide +kernel
theorem dJ6_bitCount_0f7a4_14 : decode cJ6_bitCount_0f7a4 14 = .ok (.iand, 1) := by decide +kernel
theorem dJ6_bitCount_0f7a4_15 : decode cJ6_bitCount_0f7a4 15 = .ok (.iload_n 0, 1) := by decide +kernel
theorem dJ6_bitCount_0f7a4_16 : decode cJ6_bitCount_0f7a4 16 = .ok (.iconst 2, 1) := by decide +kernel
theorem dJ6_bitCount_0f7a4_17 : decode cJ6_bitCount_0f7a4 17 = .ok (.iushr, 1) := by decide +kernel
theorem dJ6_bitCount_0f7a4_18 : decode cJ6_bitCount_0f7a4 18 = .ok (.ldc_w 266, 3) := by decide +kernel
theorem dJ6_bitCount_0f7a4_21 : decode cJ6_bitCount_0f7a4 21 = .ok (.iand, 1) := by decide +kernel
theorem dJ6_bitCount_0f7a4_22 : decode cJ6_bitCount_0f7a4 22 = .ok (.iadd, 1) := by decide +kernel
theorem dJ6_bitCount_0f7a4_23 : decode cJ6_bitCount_0f7a4 23 = .ok (.istore_n 0, 1) := by decide +kernel
theorem dJ6_bitCount_0f7a4_24 : decode cJ6_bitCount_0f7a4 24 = .ok (.iload_n 0, 1) := by decide +kernel
theorem dJ6_bitCount_0f7a4_25 : decode cJ6_bitCount_0f7a4 25 = .ok (.iload_n 0, 1) := by decide +kernel
theorem dJ6_bitCount_0f7a4_26 : decode cJ6_bitCount_0f7a4 26 = .ok (.iconst 4, 1) := by decide +kernel
theorem dJ6_bitCount_0f7a4_27 : decode cJ6_bitCount_0f7a4 27 = .ok (.iushr, 1) := by decide +kernel
theorem dJ6_bitCount_0f7a4_28 : decode cJ6_bitCount_0f7a4 28 = .ok (.iadd, 1) := by decide +kernel
theorem dJ6_bitCount_0f7a4_29 : decode cJ6_bitCount_0f7a4 29 = .ok (.ldc_w 267, 3) := by decide +kernel
theorem dJ6_bitCount_0f7a4_32 : decode cJ6_bitCount_0f7a4 32 = .ok (.iand, 1) := by decide +kernel
theorem dJ6_bitCount_0f7a4_33 : decode cJ6_bitCount_0f7a4 33 = .ok (.istore_n 0, 1) := by decide +kernel
theorem dJ6_bitCount_0f7a4_34 : decode cJ6_bitCount_0f7a4 34 = .ok (.iload_n 0, 1) := by decide +kernel
theorem dJ6_bitCount_0f7a4_35 : decode cJ6_bitCount_0f7a4 35 = .ok (.iload_n 0, 1) := by decide +kernel
theorem dJ6_bitCount_0f7a4_36 : decode cJ6_bitCount_0f7a4 36 = .ok (.bipush 8, 2) := by decide +kernel
theorem dJ6_bitCount_0f7a4_38 : decode cJ6_bitCount_0f7a4 38 = .ok (.iushr, 1) := by decide +kernel
theorem dJ6_bitCount_0f7a4_39 : decode cJ6_bitCount_0f7a4 39 = .ok (.iadd, 1) := by decide +kernel
theorem dJ6_bitCount_0f7a4_40 : decode cJ6_bitCount_0f7a4 40 = .ok (.istore_n 0, 1) := by decide +kernel
theorem dJ6_bitCount_0f7a4_41 : decode cJ6_bitCount_0f7a4 41 = .ok (.iload_n 0, 1) := by decide +kernel
theorem dJ6_bitCount_0f7a4_42 : decode cJ6_bitCount_0f7a4 42 = .ok (.iload_n 0, 1) := by decide +kernel
theorem dJ6_bitCount_0f7a4_43 : decode cJ6_bitCount_0f7a4 43 = .ok (.bipush 16, 2) := by decide +kernel
theorem dJ6_bitCount_0f7a4_45 : decode cJ6_bitCount_0f7a4 45 = .ok (.iushr, 1) := by decide +kernel
theorem dJ6_bitCount_0f7a4_46 : decode cJ6_bitCount_0f7a4 46 = .ok (.iadd, 1) := by decide +kernel
theorem dJ6_bitCount_0f7a4_47 : decode cJ6_bitCount_0f7a4 47 = .ok (.istore_n 0, 1) := by decide +kernel
theorem dJ6_bitCount_0f7a4_48 : decode cJ6_bitCount_0f7a4 48 = .ok (.iload_n 0, 1) := by decide +kernel
theorem dJ6_bitCount_0f7a4_49 : decode cJ6_bitCount_0f7a4 49 = .ok (.bipush 63, 2) := by decide +kernel
theorem dJ6_bitCount_0f7a4_51 : decode cJ6_bitCount_0f7a4 51 = .ok (.iand, 1) := by decide +kernel
theorem dJ6_bitCount_0f7a4_52 : decode cJ6_bitCount_0f7a4 52 = .ok (.ireturn, 1) := by decide +kernel
