theorem dX4_isSide_3 : decode cX4_isSide 3 = .ok (.lconst 1, 1) := by decide +kernel
theorem dX4_isSide_4 : decode cX4_isSide 4 = .ok (.invokestatic 65, 3) := by decide +kernel
theorem dX4_isSide_7 : decode cX4_isSide 7 = .ok (.ireturn, 1) := by decide +kernel
theorem dX4_isMan_0 : decode cX4_isMan 0 = .ok (.iload_n 1, 1) := by decide +kernel
theorem dX4_isMan_1 : decode cX4_isMan 1 = .ok (.invokestatic 69, 3) := by decide +kernel
theorem dX4_isMan_4 : decode cX4_isMan 4 = .ok (.ifCond .eq 25, 3) := by decide +kernel
theorem dX4_isMan_7 : decode cX4_isMan 7 = .ok (.iload_n 2, 1) := by decide +kernel
theorem dX4_isMan_8 : decode cX4_isMan 8 = .ok (.i2l, 1) := by decide +kernel
theorem dX4_isMan_9 : decode cX4_isMan 9 = .ok (.lconst 0, 1) := by decide +kernel
theorem dX4_isMan_10 : decode cX4_isMan 10 = .ok (.aload_n 0, 1) := by decide +kernel
theorem dX4_isMan_11 : decode cX4_isMan 11 = .ok (.getfield 20, 3) := by decide +kernel
theorem dX4_isMan_14 : decode cX4_isMan 14 = .ok (.iload_n 1, 1) := by decide +kernel
theorem dX4_isMan_15 : decode cX4_isMan 15 = .ok (.iaload, 1) := by decide +kernel
theorem dX4_isMan_16 : decode cX4_isMan 16 = .ok (.iconst 1, 1) := by decide +kernel
theorem dX4_isMan_17 : decode cX4_isMan 17 = .ok (.isub, 1) := by decide +kernel
theorem dX4_isMan_18 : decode cX4_isMan 18 = .ok (.i2l, 1) := by decide +kernel
theorem dX4_isMan_19 : decode cX4_isMan 19 = .ok (.invokestatic 65, 3) := by decide +kernel
theorem dX4_isMan_22 : decode cX4_isMan 22 = .ok (.ifCond .eq 7, 3) := by decide +kernel
theorem dX4_isMan_25 : decode cX4_isMan 25 = .ok (.iconst 1, 1) := by decide +kernel
theorem dX4_isMan_26 : decode cX4_isMan 26 = .ok (.goto 4, 3) := by decide +kernel
theorem dX4_isMan_29 : decode cX4_isMan 29 = .ok (.iconst 0, 1) := by decide +kernel
theorem dX4_isMan_30 : decode cX4_isMan 30 = .ok (.ireturn, 1) := by decide +kernel
theorem dX4_of_0 : decode cX4_of 0 = .ok (.aload_n 0, 1) := by decide +kernel
theorem dX4_of_1 : decode cX4_of 1 = .ok (.getfield 13, 3) := by decide +kernel
theorem dX4_of_4 : decode cX4_of 4 = .ok (.bipush 45, 2) := by decide +kernel
theorem dX4_of_6 : decode cX4_of 6 = .ok (.iload_n 1, 1) := by decide +kernel
theorem dX4_of_7 : decode cX4_of 7 = .ok (.imul, 1) := by decide +kernel
theorem dX4_of_8 : decode cX4_of 8 = .ok (.bipush 9, 2) := by decide +kernel
theorem dX4_of_10 : decode cX4_of 10 = .ok (.iload_n 2, 1) := by decide +kernel
theorem dX4_of_11 : decode cX4_of 11 = .ok (.imul, 1) := by decide +kernel
theorem dX4_of_12 : decode cX4_of 12 = .ok (.iadd, 1) := by decide +kernel
theorem dX4_of_13 : decode cX4_of 13 = .ok (.iload_n 3, 1) := by decide +kernel
theorem dX4_of_14 : decode cX4_of 14 = .ok (.iadd, 1) := by decide +kernel
theorem dX4_of_15 : decode cX4_of 15 = .ok (.iaload, 1) := by decide +kernel
theorem dX4_of_16 : decode cX4_of 16 = .ok (.ireturn, 1) := by decide +kernel
theorem dX4_steps_0 : decode cX4_steps 0 = .ok (.iload_n 1, 1) := by decide +kernel
theorem dX4_steps_1 : decode cX4_steps 1 = .ok (.i2l, 1) := by decide +kernel
theorem dX4_steps_2 : decode cX4_steps 2 = .ok (.lconst 1, 1) := by decide +kernel
theorem dX4_steps_3 : decode cX4_steps 3 = .ok (.ldc2_w 73, 3) := by decide +kernel
theorem dX4_steps_6 : decode cX4_steps 6 = .ok (.invokestatic 65, 3) := by decide +kernel
theorem dX4_steps_9 : decode cX4_steps 9 = .ok (.ifCond .ne 6, 3) := by decide +kernel
theorem dX4_steps_12 : decode cX4_steps 12 = .ok (.bipush (-2), 2) := by decide +kernel
theorem dX4_steps_14 : decode cX4_steps 14 = .ok (.ireturn, 1) := by decide +kernel
theorem dX4_steps_15 : decode cX4_steps 15 = .ok (.aload_n 0, 1) := by decide +kernel
theorem dX4_steps_16 : decode cX4_steps 16 = .ok (.getfield 7, 3) := by decide +kernel
theorem dX4_steps_19 : decode cX4_steps 19 = .ok (.istore_n 2, 1) := by decide +kernel
theorem dX4_steps_20 : decode cX4_steps 20 = .ok (.aload_n 0, 1) := by decide +kernel
theorem dX4_steps_21 : decode cX4_steps 21 = .ok (.iload_n 1, 1) := by decide +kernel
theorem dX4_steps_22 : decode cX4_steps 22 = .ok (.putfield 7, 3) := by decide +kernel
theorem dX4_steps_25 : decode cX4_steps 25 = .ok (.iload_n 2, 1) := by decide +kernel
theorem dX4_steps_26 : decode cX4_steps 26 = .ok (.ireturn, 1) := by decide +kernel
theorem dX4_envoy_0 : decode cX4_envoy 0 = .ok (.iload_n 1, 1) := by decide +kernel
theorem dX4_envoy_1 : decode cX4_envoy 1 = .ok (.invokestatic 69, 3) := by decide +kernel
theorem dX4_envoy_4 : decode cX4_envoy 4 = .ok (.ifCond .ne 6, 3) := by decide +kernel
theorem dX4_envoy_7 : decode cX4_envoy 7 = .ok (.bipush (-2), 2) := by decide +kernel
theorem dX4_envoy_9 : decode cX4_envoy 9 = .ok (.ireturn, 1) := by decide +kernel
theorem dX4_envoy_10 : decode cX4_envoy 10 = .ok (.aload_n 0, 1) := by decide +kernel
theorem dX4_envoy_11 : decode cX4_envoy 11 = .ok (.getfield 20, 3) := by decide +kernel
theorem dX4_envoy_14 : decode cX4_envoy 14 = .ok (.iload_n 1, 1) := by decide +kernel
theorem dX4_envoy_15 : decode cX4_envoy 15 = .ok (.iaload, 1) := by decide +kernel
theorem dX4_envoy_16 : decode cX4_envoy 16 = .ok (.istore_n 2, 1) := by decide +kernel
theorem dX4_envoy_17 : decode cX4_envoy 17 = .ok (.iload_n 2, 1) := by decide +kernel
theorem dX4_envoy_18 : decode cX4_envoy 18 = .ok (.iconst 5, 1) := by decide +kernel
theorem dX4_envoy_19 : decode cX4_envoy 19 = .ok (.if_icmp .ne 6, 3) := by decide +kernel
theorem dX4_envoy_22 : decode cX4_envoy 22 = .ok (.bipush (-4), 2) := by decide +kernel
theorem dX4_envoy_24 : decode cX4_envoy 24 = .ok (.ireturn, 1) := by decide +kernel
theorem dX4_envoy_25 : decode cX4_envoy 25 = .ok (.iconst 0, 1) := by decide +kernel
theorem dX4_envoy_26 : decode cX4_envoy 26 = .ok (.istore_n 3, 1) := by decide +kernel
theorem dX4_envoy_27 : decode cX4_envoy 27 = .ok (.iload_n 3, 1) := by decide +kernel
theorem dX4_envoy_28 : decode cX4_envoy 28 = .ok (.bipush 9, 2) := by decide +kernel
theorem dX4_envoy_30 : decode cX4_envoy 30 = .ok (.if_icmp .ge 42, 3) := by decide +kernel
theorem dX4_envoy_33 : decode cX4_envoy 33 = .ok (.aload_n 0, 1) := by decide +kernel
theorem dX4_envoy_34 : decode cX4_envoy 34 = .ok (.getfield 13, 3) := by decide +kernel
theorem dX4_envoy_37 : decode cX4_envoy 37 = .ok (.bipush 45, 2) := by decide +kernel
theorem dX4_envoy_39 : decode cX4_envoy 39 = .ok (.iload_n 1, 1) := by decide +kernel
theorem dX4_envoy_40 : decode cX4_envoy 40 = .ok (.imul, 1) := by decide +kernel
theorem dX4_envoy_41 : decode cX4_envoy 41 = .ok (.bipush 9, 2) := by decide +kernel
theorem dX4_envoy_43 : decode cX4_envoy 43 = .ok (.iload_n 2, 1) := by decide +kernel
theorem dX4_envoy_44 : decode cX4_envoy 44 = .ok (.imul, 1) := by decide +kernel
theorem dX4_envoy_45 : decode cX4_envoy 45 = .ok (.iadd, 1) := by decide +kernel
theorem dX4_envoy_46 : decode cX4_envoy 46 = .ok (.iload_n 3, 1) := by decide +kernel
theorem dX4_envoy_47 : decode cX4_envoy 47 = .ok (.iadd, 1) := by decide +kernel
theorem dX4_envoy_48 : decode cX4_envoy 48 = .ok (.iload_n 3, 1) := by decide +kernel
theorem dX4_envoy_49 : decode cX4_envoy 49 = .ok (.bipush 8, 2) := by decide +kernel
theorem dX4_envoy_51 : decode cX4_envoy 51 = .ok (.if_icmp .ne 7, 3) := by decide +kernel
theorem dX4_envoy_54 : decode cX4_envoy 54 = .ok (.iconst 0, 1) := by decide +kernel
theorem dX4_envoy_55 : decode cX4_envoy 55 = .ok (.goto 10, 3) := by decide +kernel
theorem dX4_envoy_58 : decode cX4_envoy 58 = .ok (.aload_n 0, 1) := by decide +kernel
theorem dX4_envoy_59 : decode cX4_envoy 59 = .ok (.iload_n 1, 1) := by decide +kernel
theorem dX4_envoy_60 : decode cX4_envoy 60 = .ok (.iconst 0, 1) := by decide +kernel
theorem dX4_envoy_61 : decode cX4_envoy 61 = .ok (.iload_n 3, 1) := by decide +kernel
theorem dX4_envoy_62 : decode cX4_envoy 62 = .ok (.invokevirtual 75, 3) := by decide +kernel
theorem dX4_envoy_65 : decode cX4_envoy 65 = .ok (.iastore, 1) := by decide +kernel
theorem dX4_envoy_66 : decode cX4_envoy 66 = .ok (.iinc 3 1, 3) := by decide +kernel
theorem dX4_envoy_69 : decode cX4_envoy 69 = .ok (.goto (-42), 3) := by decide +kernel
theorem dX4_envoy_72 : decode cX4_envoy 72 = .ok (.aload_n 0, 1) := by decide +kernel
theorem dX4_envoy_73 : decode cX4_envoy 73 = .ok (.getfield 17, 3) := by decide +kernel
theorem dX4_envoy_76 : decode cX4_envoy 76 = .ok (.iconst 5, 1) := by decide +kernel
theorem dX4_envoy_77 : decode cX4_envoy 77 = .ok (.iload_n 1, 1) := by decide +kernel
theorem dX4_envoy_78 : decode cX4_envoy 78 = .ok (.imul, 1) := by decide +kernel
theorem dX4_envoy_79 : decode cX4_envoy 79 = .ok (.iload_n 2, 1) := by decide +kernel
theorem dX4_envoy_80 : decode cX4_envoy 80 = .ok (.iadd, 1) := by decide +kernel
theorem dX4_envoy_81 : decode cX4_envoy 81 = .ok (.iconst 1, 1) := by decide +kernel
theorem dX4_envoy_82 : decode cX4_envoy 82 = .ok (.iastore, 1) := by decide +kernel
theorem dX4_envoy_83 : decode cX4_envoy 83 = .ok (.aload_n 0, 1) := by decide +kernel
theorem dX4_envoy_84 : decode cX4_envoy 84 = .ok (.getfield 20, 3) := by decide +kernel
theorem dX4_envoy_87 : decode cX4_envoy 87 = .ok (.iload_n 1, 1) := by decide +kernel
theorem dX4_envoy_88 : decode cX4_envoy 88 = .ok (.dup2, 1) := by decide +kernel
theorem dX4_envoy_89 : decode cX4_envoy 89 = .ok (.iaload, 1) := by decide +kernel
theorem dX4_envoy_90 : decode cX4_envoy 90 = .ok (.iconst 1, 1) := by decide +kernel
theorem dX4_envoy_91 : decode cX4_envoy 91 = .ok (.iadd, 1) := by decide +kernel
theorem dX4_envoy_92 : decode cX4_envoy 92 = .ok (.iastore, 1) := by decide +kernel
theorem dX4_envoy_93 : decode cX4_envoy 93 = .ok (.iload_n 2, 1) := by decide +kernel
theorem dX4_envoy_94 : decode cX4_envoy 94 = .ok (.ireturn, 1) := by decide +kernel
theorem dX4_isNumber_0 : decode cX4_isNumber 0 = .ok (.iload_n 0, 1) := by decide +kernel
theorem dX4_isNumber_1 : decode cX4_isNumber 1 = .ok (.tableswitch 93 0 8 #[51, 61, 71, 51, 81, 61, 61, 51, 71], 51) := by decide +kernel
theorem dX4_isNumber_52 : decode cX4_isNumber 52 = .ok (.iload_n 1, 1) := by decide +kernel
theorem dX4_isNumber_53 : decode cX4_isNumber 53 = .ok (.i2l, 1) := by decide +kernel
theorem dX4_isNumber_54 : decode cX4_isNumber 54 = .ok (.lconst 0, 1) := by decide +kernel
theorem dX4_isNumber_55 : decode cX4_isNumber 55 = .ok (.ldc2_w 79, 3) := by decide +kernel
theorem dX4_isNumber_58 : decode cX4_isNumber 58 = .ok (.invokestatic 65, 3) := by decide +kernel
theorem dX4_isNumber_61 : decode cX4_isNumber 61 = .ok (.ireturn, 1) := by decide +kernel
theorem dX4_isNumber_62 : decode cX4_isNumber 62 = .ok (.iload_n 1, 1) := by decide +kernel
theorem dX4_isNumber_63 : decode cX4_isNumber 63 = .ok (.i2l, 1) := by decide +kernel
theorem dX4_isNumber_64 : decode cX4_isNumber 64 = .ok (.lconst 0, 1) := by decide +kernel
theorem dX4_isNumber_65 : decode cX4_isNumber 65 = .ok (.ldc2_w 73, 3) := by decide +kernel
theorem dX4_isNumber_68 : decode cX4_isNumber 68 = .ok (.invokestatic 65, 3) := by decide +kernel
theorem dX4_isNumber_71 : decode cX4_isNumber 71 = .ok (.ireturn, 1) := by decide +kernel
theorem dX4_isNumber_72 : decode cX4_isNumber 72 = .ok (.iload_n 1, 1) := by decide +kernel
theorem dX4_isNumber_73 : decode cX4_isNumber 73 = .ok (.i2l, 1) := by decide +kernel
theorem dX4_isNumber_74 : decode cX4_isNumber 74 = .ok (.lconst 0, 1) := by decide +kernel
theorem dX4_isNumber_75 : decode cX4_isNumber 75 = .ok (.ldc2_w 81, 3) := by decide +kernel
theorem dX4_isNumber_78 : decode cX4_isNumber 78 = .ok (.invokestatic 65, 3) := by decide +kernel
theorem dX4_isNumber_81 : decode cX4_isNumber 81 = .ok (.ireturn, 1) := by decide +kernel
theorem dX4_isNumber_82 : decode cX4_isNumber 82 = .ok (.iload_n 1, 1) := by decide +kernel
theorem dX4_isNumber_83 : decode cX4_isNumber 83 = .ok (.i2l, 1) := by decide +kernel
theorem dX4_isNumber_84 : decode cX4_isNumber 84 = .ok (.ldc2_w 83, 3) := by decide +kernel
theorem dX4_isNumber_87 : decode cX4_isNumber 87 = .ok (.ldc2_w 85, 3) := by decide +kernel
theorem dX4_isNumber_90 : decode cX4_isNumber 90 = .ok (.invokestatic 65, 3) := by decide +kernel
theorem dX4_isNumber_93 : decode cX4_isNumber 93 = .ok (.ireturn, 1) := by decide +kernel
theorem dX4_isNumber_94 : decode cX4_isNumber 94 = .ok (.iconst 0, 1) := by decide +kernel
theorem dX4_isNumber_95 : decode cX4_isNumber 95 = .ok (.ireturn, 1) := by decide +kernel
theorem dX4_put_0 : decode cX4_put 0 = .ok (.aload_n 0, 1) := by decide +kernel
theorem dX4_put_1 : decode cX4_put 1 = .ok (.iload_n 1, 1) := by decide +kernel
theorem dX4_put_2 : decode cX4_put 2 = .ok (.iload_n 2, 1) := by decide +kernel
theorem dX4_put_3 : decode cX4_put 3 = .ok (.invokevirtual 87, 3) := by decide +kernel
theorem dX4_put_6 : decode cX4_put 6 = .ok (.ifCond .eq 12, 3) := by decide +kernel
theorem dX4_put_9 : decode cX4_put 9 = .ok (.iload_n 3, 1) := by decide +kernel
theorem dX4_put_10 : decode cX4_put 10 = .ok (.iload 4, 2) := by decide +kernel
theorem dX4_put_12 : decode cX4_put 12 = .ok (.invokestatic 91, 3) := by decide +kernel
theorem dX4_put_15 : decode cX4_put 15 = .ok (.ifCond .ne 7, 3) := by decide +kernel
theorem dX4_put_18 : decode cX4_put 18 = .ok (.sipush (-1000), 3) := by decide +kernel
theorem dX4_put_21 : decode cX4_put 21 = .ok (.ireturn, 1) := by decide +kernel
theorem dX4_put_22 : decode cX4_put 22 = .ok (.aload_n 0, 1) := by decide +kernel
theorem dX4_put_23 : decode cX4_put 23 = .ok (.iload_n 1, 1) := by decide +kernel
theorem dX4_put_24 : decode cX4_put 24 = .ok (.iload_n 2, 1) := by decide +kernel
theorem dX4_put_25 : decode cX4_put 25 = .ok (.iload_n 3, 1) := by decide +kernel
theorem dX4_put_26 : decode cX4_put 26 = .ok (.invokevirtual 75, 3) := by decide +kernel
theorem dX4_put_29 : decode cX4_put 29 = .ok (.istore 5, 2) := by decide +kernel
theorem dX4_put_31 : decode cX4_put 31 = .ok (.aload_n 0, 1) := by decide +kernel
theorem dX4_put_32 : decode cX4_put 32 = .ok (.getfield 13, 3) := by decide +kernel
theorem dX4_put_35 : decode cX4_put 35 = .ok (.bipush 45, 2) := by decide +kernel
theorem dX4_put_37 : decode cX4_put 37 = .ok (.iload_n 1, 1) := by decide +kernel
theorem dX4_put_38 : decode cX4_put 38 = .ok (.imul, 1) := by decide +kernel
theorem dX4_put_39 : decode cX4_put 39 = .ok (.bipush 9, 2) := by decide +kernel
theorem dX4_put_41 : decode cX4_put 41 = .ok (.iload_n 2, 1) := by decide +kernel
theorem dX4_put_42 : decode cX4_put 42 = .ok (.imul, 1) := by decide +kernel
theorem dX4_put_43 : decode cX4_put 43 = .ok (.iadd, 1) := by decide +kernel
theorem dX4_put_44 : decode cX4_put 44 = .ok (.iload_n 3, 1) := by decide +kernel
theorem dX4_put_45 : decode cX4_put 45 = .ok (.iadd, 1) := by decide +kernel
theorem dX4_put_46 : decode cX4_put 46 = .ok (.iload 4, 2) := by decide +kernel
theorem dX4_put_48 : decode cX4_put 48 = .ok (.iastore, 1) := by decide +kernel
theorem dX4_put_49 : decode cX4_put 49 = .ok (.iload 5, 2) := by decide +kernel
theorem dX4_put_51 : decode cX4_put 51 = .ok (.ireturn, 1) := by decide +kernel
theorem dX4_worthOf_0 : decode cX4_worthOf 0 = .ok (.aload_n 0, 1) := by decide +kernel
theorem dX4_worthOf_1 : decode cX4_worthOf 1 = .ok (.iload_n 1, 1) := by decide +kernel
theorem dX4_worthOf_2 : decode cX4_worthOf 2 = .ok (.iload_n 2, 1) := by decide +kernel
theorem dX4_worthOf_3 : decode cX4_worthOf 3 = .ok (.iconst 0, 1) := by decide +kernel
theorem dX4_worthOf_4 : decode cX4_worthOf 4 = .ok (.invokevirtual 75, 3) := by decide +kernel
theorem dX4_worthOf_7 : decode cX4_worthOf 7 = .ok (.iload_n 3, 1) := by decide +kernel
theorem dX4_worthOf_8 : decode cX4_worthOf 8 = .ok (.imul, 1) := by decide +kernel
theorem dX4_worthOf_9 : decode cX4_worthOf 9 = .ok (.aload_n 0, 1) := by decide +kernel
theorem dX4_worthOf_10 : decode cX4_worthOf 10 = .ok (.iload_n 1, 1) := by decide +kernel
theorem dX4_worthOf_11 : decode cX4_worthOf 11 = .ok (.iload_n 2, 1) := by decide +kernel
theorem dX4_worthOf_12 : decode cX4_worthOf 12 = .ok (.iconst 3, 1) := by decide +kernel
theorem dX4_worthOf_13 : decode cX4_worthOf 13 = .ok (.invokevirtual 75, 3) := by decide +kernel
theorem dX4_worthOf_16 : decode cX4_worthOf 16 = .ok (.aload_n 0, 1) := by decide +kernel
theorem dX4_worthOf_17 : decode cX4_worthOf 17 = .ok (.getfield 7, 3) := by decide +kernel
theorem dX4_worthOf_20 : decode cX4_worthOf 20 = .ok (.iload_n 3, 1) := by decide +kernel
theorem dX4_worthOf_21 : decode cX4_worthOf 21 = .ok (.isub, 1) := by decide +kernel
theorem dX4_worthOf_22 : decode cX4_worthOf 22 = .ok (.imul, 1) := by decide +kernel
theorem dX4_worthOf_23 : decode cX4_worthOf 23 = .ok (.isub, 1) := by decide +kernel
theorem dX4_worthOf_24 : decode cX4_worthOf 24 = .ok (.istore 4, 2) := by decide +kernel
theorem dX4_worthOf_26 : decode cX4_worthOf 26 = .ok (.iload 4, 2) := by decide +kernel
theorem dX4_worthOf_28 : decode cX4_worthOf 28 = .ok (.iload_n 3, 1) := by decide +kernel
theorem dX4_worthOf_29 : decode cX4_worthOf 29 = .ok (.aload_n 0, 1) := by decide +kernel
theorem dX4_worthOf_30 : decode cX4_worthOf 30 = .ok (.iload_n 1, 1) := by decide +kernel
theorem dX4_worthOf_31 : decode cX4_worthOf 31 = .ok (.iload_n 2, 1) := by decide +kernel
theorem dX4_worthOf_32 : decode cX4_worthOf 32 = .ok (.iconst 1, 1) := by decide +kernel
theorem dX4_worthOf_33 : decode cX4_worthOf 33 = .ok (.invokevirtual 75, 3) := by decide +kernel
theorem dX4_worthOf_36 : decode cX4_worthOf 36 = .ok (.if_icmp .lt 13, 3) := by decide +kernel
theorem dX4_worthOf_39 : decode cX4_worthOf 39 = .ok (.aload_n 0, 1) := by decide +kernel
theorem dX4_worthOf_40 : decode cX4_worthOf 40 = .ok (.iload_n 1, 1) := by decide +kernel
theorem dX4_worthOf_41 : decode cX4_worthOf 41 = .ok (.iload_n 2, 1) := by decide +kernel
theorem dX4_worthOf_42 : decode cX4_worthOf 42 = .ok (.iconst 2, 1) := by decide +kernel
theorem dX4_worthOf_43 : decode cX4_worthOf 43 = .ok (.invokevirtual 75, 3) := by decide +kernel
theorem dX4_worthOf_46 : decode cX4_worthOf 46 = .ok (.goto 4, 3) := by decide +kernel
theorem dX4_worthOf_49 : decode cX4_worthOf 49 = .ok (.iconst 0, 1) := by decide +kernel
theorem dX4_worthOf_50 : decode cX4_worthOf 50 = .ok (.iadd, 1) := by decide +kernel
theorem dX4_worthOf_51 : decode cX4_worthOf 51 = .ok (.istore 4, 2) := by decide +kernel
theorem dX4_worthOf_53 : decode cX4_worthOf 53 = .ok (.iload 4, 2) := by decide +kernel
theorem dX4_worthOf_55 : decode cX4_worthOf 55 = .ok (.aload_n 0, 1) := by decide +kernel
theorem dX4_worthOf_56 : decode cX4_worthOf 56 = .ok (.iload_n 1, 1) := by decide +kernel
theorem dX4_worthOf_57 : decode cX4_worthOf 57 = .ok (.iload_n 2, 1) := by decide +kernel
theorem dX4_worthOf_58 : decode cX4_worthOf 58 = .ok (.iload_n 3, 1) := by decide +kernel
theorem dX4_worthOf_59 : decode cX4_worthOf 59 = .ok (.invokevirtual 94, 3) := by decide +kernel
theorem dX4_worthOf_62 : decode cX4_worthOf 62 = .ok (.iadd, 1) := by decide +kernel
theorem dX4_worthOf_63 : decode cX4_worthOf 63 = .ok (.ireturn, 1) := by decide +kernel
theorem dX4_paidTo_0 : decode cX4_paidTo 0 = .ok (.iload_n 3, 1) := by decide +kernel
theorem dX4_paidTo_1 : decode cX4_paidTo 1 = .ok (.aload_n 0, 1) := by decide +kernel
theorem dX4_paidTo_2 : decode cX4_paidTo 2 = .ok (.iload_n 1, 1) := by decide +kernel
theorem dX4_paidTo_3 : decode cX4_paidTo 3 = .ok (.iload_n 2, 1) := by decide +kernel
theorem dX4_paidTo_4 : decode cX4_paidTo 4 = .ok (.bipush 6, 2) := by decide +kernel
theorem dX4_paidTo_6 : decode cX4_paidTo 6 = .ok (.invokevirtual 75, 3) := by decide +kernel
theorem dX4_paidTo_9 : decode cX4_paidTo 9 = .ok (.isub, 1) := by decide +kernel
theorem dX4_paidTo_10 : decode cX4_paidTo 10 = .ok (.istore 4, 2) := by decide +kernel
theorem dX4_paidTo_12 : decode cX4_paidTo 12 = .ok (.iload 4, 2) := by decide +kernel
theorem dX4_paidTo_14 : decode cX4_paidTo 14 = .ok (.ifCond .le 17, 3) := by decide +kernel
theorem dX4_paidTo_17 : decode cX4_paidTo 17 = .ok (.aload_n 0, 1) := by decide +kernel
theorem dX4_paidTo_18 : decode cX4_paidTo 18 = .ok (.iload_n 1, 1) := by decide +kernel
theorem dX4_paidTo_19 : decode cX4_paidTo 19 = .ok (.iload_n 2, 1) := by decide +kernel
theorem dX4_paidTo_20 : decode cX4_paidTo 20 = .ok (.bipush 7, 2) := by decide +kernel
theorem dX4_paidTo_22 : decode cX4_paidTo 22 = .ok (.invokevirtual 75, 3) := by decide +kernel
theorem dX4_paidTo_25 : decode cX4_paidTo 25 = .ok (.iload 4, 2) := by decide +kernel
theorem dX4_paidTo_27 : decode cX4_paidTo 27 = .ok (.imul, 1) := by decide +kernel
theorem dX4_paidTo_28 : decode cX4_paidTo 28 = .ok (.goto 4, 3) := by decide +kernel
theorem dX4_paidTo_31 : decode cX4_paidTo 31 = .ok (.iconst 0, 1) := by decide +kernel
theorem dX4_paidTo_32 : decode cX4_paidTo 32 = .ok (.ireturn, 1) := by decide +kernel
theorem dX4_doesTake_0 : decode cX4_doesTake 0 = .ok (.iload_n 3, 1) := by decide +kernel
theorem dX4_doesTake_1 : decode cX4_doesTake 1 = .ok (.aload_n 0, 1) := by decide +kernel
theorem dX4_doesTake_2 : decode cX4_doesTake 2 = .ok (.iload_n 1, 1) := by decide +kernel
theorem dX4_doesTake_3 : decode cX4_doesTake 3 = .ok (.iload_n 2, 1) := by decide +kernel
theorem dX4_doesTake_4 : decode cX4_doesTake 4 = .ok (.iconst 5, 1) := by decide +kernel
theorem dX4_doesTake_5 : decode cX4_doesTake 5 = .ok (.invokevirtual 75, 3) := by decide +kernel
theorem dX4_doesTake_8 : decode cX4_doesTake 8 = .ok (.if_icmp .lt 24, 3) := by decide +kernel
theorem dX4_doesTake_11 : decode cX4_doesTake 11 = .ok (.aload_n 0, 1) := by decide +kernel
theorem dX4_doesTake_12 : decode cX4_doesTake 12 = .ok (.iload_n 1, 1) := by decide +kernel
theorem dX4_doesTake_13 : decode cX4_doesTake 13 = .ok (.iload_n 2, 1) := by decide +kernel
theorem dX4_doesTake_14 : decode cX4_doesTake 14 = .ok (.iload_n 3, 1) := by decide +kernel
theorem dX4_doesTake_15 : decode cX4_doesTake 15 = .ok (.invokevirtual 97, 3) := by decide +kernel
theorem dX4_doesTake_18 : decode cX4_doesTake 18 = .ok (.aload_n 0, 1) := by decide +kernel
theorem dX4_doesTake_19 : decode cX4_doesTake 19 = .ok (.iload_n 1, 1) := by decide +kernel
theorem dX4_doesTake_20 : decode cX4_doesTake 20 = .ok (.iload_n 2, 1) := by decide +kernel
theorem dX4_doesTake_21 : decode cX4_doesTake 21 = .ok (.iconst 4, 1) := by decide +kernel
theorem dX4_doesTake_22 : decode cX4_doesTake 22 = .ok (.invokevirtual 75, 3) := by decide +kernel
theorem dX4_doesTake_25 : decode cX4_doesTake 25 = .ok (.if_icmp .lt 7, 3) := by decide +kernel
theorem dX4_doesTake_28 : decode cX4_doesTake 28 = .ok (.iconst 1, 1) := by decide +kernel
theorem dX4_doesTake_29 : decode cX4_doesTake 29 = .ok (.goto 4, 3) := by decide +kernel
theorem dX4_doesTake_32 : decode cX4_doesTake 32 = .ok (.iconst 0, 1) := by decide +kernel
theorem dX4_doesTake_33 : decode cX4_doesTake 33 = .ok (.ireturn, 1) := by decide +kernel
theorem dX4_worth_0 : decode cX4_worth 0 = .ok (.aload_n 0, 1) := by decide +kernel
theorem dX4_worth_1 : decode cX4_worth 1 = .ok (.iload_n 1, 1) := by decide +kernel
theorem dX4_worth_2 : decode cX4_worth 2 = .ok (.iload_n 2, 1) := by decide +kernel
theorem dX4_worth_3 : decode cX4_worth 3 = .ok (.invokevirtual 87, 3) := by decide +kernel
theorem dX4_worth_6 : decode cX4_worth 6 = .ok (.ifCond .eq 27, 3) := by decide +kernel
theorem dX4_worth_9 : decode cX4_worth 9 = .ok (.iload_n 3, 1) := by decide +kernel
theorem dX4_worth_10 : decode cX4_worth 10 = .ok (.i2l, 1) := by decide +kernel
theorem dX4_worth_11 : decode cX4_worth 11 = .ok (.lconst 0, 1) := by decide +kernel
theorem dX4_worth_12 : decode cX4_worth 12 = .ok (.aload_n 0, 1) := by decide +kernel
theorem dX4_worth_13 : decode cX4_worth 13 = .ok (.getfield 7, 3) := by decide +kernel
theorem dX4_worth_16 : decode cX4_worth 16 = .ok (.i2l, 1) := by decide +kernel
theorem dX4_worth_17 : decode cX4_worth 17 = .ok (.invokestatic 65, 3) := by decide +kernel
theorem dX4_worth_20 : decode cX4_worth 20 = .ok (.ifCond .eq 13, 3) := by decide +kernel
theorem dX4_worth_23 : decode cX4_worth 23 = .ok (.aload_n 0, 1) := by decide +kernel
theorem dX4_worth_24 : decode cX4_worth 24 = .ok (.iload_n 1, 1) := by decide +kernel
theorem dX4_worth_25 : decode cX4_worth 25 = .ok (.iload_n 2, 1) := by decide +kernel
theorem dX4_worth_26 : decode cX4_worth 26 = .ok (.iload_n 3, 1) := by decide +kernel
theorem dX4_worth_27 : decode cX4_worth 27 = .ok (.invokevirtual 97, 3) := by decide +kernel
theorem dX4_worth_30 : decode cX4_worth 30 = .ok (.goto 5, 3) := by decide +kernel
theorem dX4_worth_33 : decode cX4_worth 33 = .ok (.ldc 100, 2) := by decide +kernel
theorem dX4_worth_35 : decode cX4_worth 35 = .ok (.ireturn, 1) := by decide +kernel
theorem dX4_takes_0 : decode cX4_takes 0 = .ok (.aload_n 0, 1) := by decide +kernel
theorem dX4_takes_1 : decode cX4_takes 1 = .ok (.iload_n 1, 1) := by decide +kernel
theorem dX4_takes_2 : decode cX4_takes 2 = .ok (.iload_n 2, 1) := by decide +kernel
theorem dX4_takes_3 : decode cX4_takes 3 = .ok (.invokevirtual 87, 3) := by decide +kernel
theorem dX4_takes_6 : decode cX4_takes 6 = .ok (.ifCond .eq 35, 3) := by decide +kernel
theorem dX4_takes_9 : decode cX4_takes 9 = .ok (.iload_n 3, 1) := by decide +kernel
theorem dX4_takes_10 : decode cX4_takes 10 = .ok (.i2l, 1) := by decide +kernel
theorem dX4_takes_11 : decode cX4_takes 11 = .ok (.lconst 0, 1) := by decide +kernel
theorem dX4_takes_12 : decode cX4_takes 12 = .ok (.aload_n 0, 1) := by decide +kernel
theorem dX4_takes_13 : decode cX4_takes 13 = .ok (.getfield 7, 3) := by decide +kernel
theorem dX4_takes_16 : decode cX4_takes 16 = .ok (.i2l, 1) := by decide +kernel
theorem dX4_takes_17 : decode cX4_takes 17 = .ok (.invokestatic 65, 3) := by decide +kernel
theorem dX4_takes_20 : decode cX4_takes 20 = .ok (.ifCond .eq 21, 3) := by decide +kernel
theorem dX4_takes_23 : decode cX4_takes 23 = .ok (.aload_n 0, 1) := by decide +kernel
theorem dX4_takes_24 : decode cX4_takes 24 = .ok (.iload_n 1, 1) := by decide +kernel
theorem dX4_takes_25 : decode cX4_takes 25 = .ok (.iload_n 2, 1) := by decide +kernel
theorem dX4_takes_26 : decode cX4_takes 26 = .ok (.iload_n 3, 1) := by decide +kernel
theorem dX4_takes_27 : decode cX4_takes 27 = .ok (.invokevirtual 101, 3) := by decide +kernel
theorem dX4_takes_30 : decode cX4_takes 30 = .ok (.ifCond .eq 7, 3) := by decide +kernel
theorem dX4_takes_33 : decode cX4_takes 33 = .ok (.iconst 1, 1) := by decide +kernel
theorem dX4_takes_34 : decode cX4_takes 34 = .ok (.goto 9, 3) := by decide +kernel
theorem dX4_takes_37 : decode cX4_takes 37 = .ok (.iconst 0, 1) := by decide +kernel
theorem dX4_takes_38 : decode cX4_takes 38 = .ok (.goto 5, 3) := by decide +kernel
theorem dX4_takes_41 : decode cX4_takes 41 = .ok (.bipush (-2), 2) := by decide +kernel
theorem dX4_takes_43 : decode cX4_takes 43 = .ok (.ireturn, 1) := by decide +kernel
theorem dX4_set_0 : decode cX4_set 0 = .ok (.iload_n 1, 1) := by decide +kernel
theorem dX4_set_1 : decode cX4_set 1 = .ok (.ifCond .ne 15, 3) := by decide +kernel
theorem dX4_set_4 : decode cX4_set 4 = .ok (.iload_n 2, 1) := by decide +kernel
theorem dX4_set_5 : decode cX4_set 5 = .ok (.i2l, 1) := by decide +kernel
theorem dX4_set_6 : decode cX4_set 6 = .ok (.lconst 0, 1) := by decide +kernel
theorem dX4_set_7 : decode cX4_set 7 = .ok (.ldc2_w 105, 3) := by decide +kernel
theorem dX4_set_10 : decode cX4_set 10 = .ok (.invokestatic 65, 3) := by decide +kernel
theorem dX4_set_13 : decode cX4_set 13 = .ok (.goto 42, 3) := by decide +kernel
theorem dX4_set_16 : decode cX4_set 16 = .ok (.iload_n 1, 1) := by decide +kernel
theorem dX4_set_17 : decode cX4_set 17 = .ok (.iconst 1, 1) := by decide +kernel
theorem dX4_set_18 : decode cX4_set 18 = .ok (.if_icmp .ne 15, 3) := by decide +kernel
theorem dX4_set_21 : decode cX4_set 21 = .ok (.iload_n 2, 1) := by decide +kernel
theorem dX4_set_22 : decode cX4_set 22 = .ok (.i2l, 1) := by decide +kernel
theorem dX4_set_23 : decode cX4_set 23 = .ok (.lconst 1, 1) := by decide +kernel
theorem dX4_set_24 : decode cX4_set 24 = .ok (.ldc2_w 107, 3) := by decide +kernel
theorem dX4_set_27 : decode cX4_set 27 = .ok (.invokestatic 65, 3) := by decide +kernel
theorem dX4_set_30 : decode cX4_set 30 = .ok (.goto 25, 3) := by decide +kernel
theorem dX4_set_33 : decode cX4_set 33 = .ok (.iload_n 1, 1) := by decide +kernel
theorem dX4_set_34 : decode cX4_set 34 = .ok (.iconst 2, 1) := by decide +kernel
theorem dX4_set_35 : decode cX4_set 35 = .ok (.if_icmp .ne 19, 3) := by decide +kernel
theorem dX4_set_38 : decode cX4_set 38 = .ok (.iload_n 2, 1) := by decide +kernel
theorem dX4_set_39 : decode cX4_set 39 = .ok (.i2l, 1) := by decide +kernel
theorem dX4_set_40 : decode cX4_set 40 = .ok (.lconst 0, 1) := by decide +kernel
theorem dX4_set_41 : decode cX4_set 41 = .ok (.ldc2_w 109, 3) := by decide +kernel
theorem dX4_set_44 : decode cX4_set 44 = .ok (.invokestatic 65, 3) := by decide +kernel
theorem dX4_set_47 : decode cX4_set 47 = .ok (.ifCond .eq 7, 3) := by decide +kernel
theorem dX4_set_50 : decode cX4_set 50 = .ok (.iconst 1, 1) := by decide +kernel
theorem dX4_set_51 : decode cX4_set 51 = .ok (.goto 4, 3) := by decide +kernel
theorem dX4_set_54 : decode cX4_set 54 = .ok (.iconst 0, 1) := by decide +kernel
theorem dX4_set_55 : decode cX4_set 55 = .ok (.istore_n 3, 1) := by decide +kernel
theorem dX4_set_56 : decode cX4_set 56 = .ok (.iload_n 3, 1) := by decide +kernel
theorem dX4_set_57 : decode cX4_set 57 = .ok (.ifCond .ne 6, 3) := by decide +kernel
theorem dX4_set_60 : decode cX4_set 60 = .ok (.bipush (-2), 2) := by decide +kernel
theorem dX4_set_62 : decode cX4_set 62 = .ok (.ireturn, 1) := by decide +kernel
theorem dX4_set_63 : decode cX4_set 63 = .ok (.iload_n 1, 1) := by decide +kernel
theorem dX4_set_64 : decode cX4_set 64 = .ok (.ifCond .ne 10, 3) := by decide +kernel
theorem dX4_set_67 : decode cX4_set 67 = .ok (.aload_n 0, 1) := by decide +kernel
theorem dX4_set_68 : decode cX4_set 68 = .ok (.getfield 111, 3) := by decide +kernel
theorem dX4_set_71 : decode cX4_set 71 = .ok (.goto 19, 3) := by decide +kernel
theorem dX4_set_74 : decode cX4_set 74 = .ok (.iload_n 1, 1) := by decide +kernel
theorem dX4_set_75 : decode cX4_set 75 = .ok (.iconst 1, 1) := by decide +kernel
theorem dX4_set_76 : decode cX4_set 76 = .ok (.if_icmp .ne 10, 3) := by decide +kernel
theorem dX4_set_79 : decode cX4_set 79 = .ok (.aload_n 0, 1) := by decide +kernel
theorem dX4_set_80 : decode cX4_set 80 = .ok (.getfield 23, 3) := by decide +kernel
theorem dX4_set_83 : decode cX4_set 83 = .ok (.goto 7, 3) := by decide +kernel
theorem dX4_set_86 : decode cX4_set 86 = .ok (.aload_n 0, 1) := by decide +kernel
theorem dX4_set_87 : decode cX4_set 87 = .ok (.getfield 114, 3) := by decide +kernel
theorem dX4_set_90 : decode cX4_set 90 = .ok (.istore 4, 2) := by decide +kernel
theorem dX4_set_92 : decode cX4_set 92 = .ok (.iload_n 1, 1) := by decide +kernel
theorem dX4_set_93 : decode cX4_set 93 = .ok (.ifCond .ne 11, 3) := by decide +kernel
theorem dX4_set_96 : decode cX4_set 96 = .ok (.aload_n 0, 1) := by decide +kernel
theorem dX4_set_97 : decode cX4_set 97 = .ok (.iload_n 2, 1) := by decide +kernel
theorem dX4_set_98 : decode cX4_set 98 = .ok (.putfield 111, 3) := by decide +kernel
theorem dX4_set_101 : decode cX4_set 101 = .ok (.goto 21, 3) := by decide +kernel
theorem dX4_set_104 : decode cX4_set 104 = .ok (.iload_n 1, 1) := by decide +kernel
theorem dX4_set_105 : decode cX4_set 105 = .ok (.iconst 1, 1) := by decide +kernel
theorem dX4_set_106 : decode cX4_set 106 = .ok (.if_icmp .ne 11, 3) := by decide +kernel
theorem dX4_set_109 : decode cX4_set 109 = .ok (.aload_n 0, 1) := by decide +kernel
theorem dX4_set_110 : decode cX4_set 110 = .ok (.iload_n 2, 1) := by decide +kernel
theorem dX4_set_111 : decode cX4_set 111 = .ok (.putfield 23, 3) := by decide +kernel
theorem dX4_set_114 : decode cX4_set 114 = .ok (.goto 8, 3) := by decide +kernel
theorem dX4_set_117 : decode cX4_set 117 = .ok (.aload_n 0, 1) := by decide +kernel
theorem dX4_set_118 : decode cX4_set 118 = .ok (.iload_n 2, 1) := by decide +kernel
theorem dX4_set_119 : decode cX4_set 119 = .ok (.putfield 114, 3) := by decide +kernel
theorem dX4_set_122 : decode cX4_set 122 = .ok (.iload 4, 2) := by decide +kernel
theorem dX4_set_124 : decode cX4_set 124 = .ok (.ireturn, 1) := by decide +kernel
theorem dX4_lot_0 : decode cX4_lot 0 = .ok (.iload_n 2, 1) := by decide +kernel
theorem dX4_lot_1 : decode cX4_lot 1 = .ok (.i2l, 1) := by decide +kernel
theorem dX4_lot_2 : decode cX4_lot 2 = .ok (.lconst 1, 1) := by decide +kernel
theorem dX4_lot_3 : decode cX4_lot 3 = .ok (.ldc2_w 107, 3) := by decide +kernel
theorem dX4_lot_6 : decode cX4_lot 6 = .ok (.invokestatic 65, 3) := by decide +kernel
theorem dX4_lot_9 : decode cX4_lot 9 = .ok (.ifCond .eq 14, 3) := by decide +kernel
theorem dX4_lot_12 : decode cX4_lot 12 = .ok (.iload_n 1, 1) := by decide +kernel
theorem dX4_lot_13 : decode cX4_lot 13 = .ok (.i2l, 1) := by decide +kernel
theorem dX4_lot_14 : decode cX4_lot 14 = .ok (.lconst 0, 1) := by decide +kernel
theorem dX4_lot_15 : decode cX4_lot 15 = .ok (.iload_n 2, 1) := by decide +kernel
theorem dX4_lot_16 : decode cX4_lot 16 = .ok (.i2l, 1) := by decide +kernel
theorem dX4_lot_17 : decode cX4_lot 17 = .ok (.invokestatic 65, 3) := by decide +kernel
theorem dX4_lot_20 : decode cX4_lot 20 = .ok (.ifCond .ne 6, 3) := by decide +kernel
theorem dX4_lot_23 : decode cX4_lot 23 = .ok (.bipush (-2), 2) := by decide +kernel
theorem dX4_lot_25 : decode cX4_lot 25 = .ok (.ireturn, 1) := by decide +kernel
theorem dX4_lot_26 : decode cX4_lot 26 = .ok (.aload_n 0, 1) := by decide +kernel
theorem dX4_lot_27 : decode cX4_lot 27 = .ok (.iload_n 1, 1) := by decide +kernel
theorem dX4_lot_28 : decode cX4_lot 28 = .ok (.putfield 26, 3) := by decide +kernel
theorem dX4_lot_31 : decode cX4_lot 31 = .ok (.aload_n 0, 1) := by decide +kernel
theorem dX4_lot_32 : decode cX4_lot 32 = .ok (.iload_n 2, 1) := by decide +kernel
theorem dX4_lot_33 : decode cX4_lot 33 = .ok (.putfield 29, 3) := by decide +kernel
theorem dX4_lot_36 : decode cX4_lot 36 = .ok (.iconst 1, 1) := by decide +kernel
theorem dX4_lot_37 : decode cX4_lot 37 = .ok (.ireturn, 1) := by decide +kernel
theorem dX4_write_0 : decode cX4_write 0 = .ok (.iload_n 1, 1) := by decide +kernel
theorem dX4_write_1 : decode cX4_write 1 = .ok (.i2l, 1) := by decide +kernel
theorem dX4_write_2 : decode cX4_write 2 = .ok (.lconst 0, 1) := by decide +kernel
theorem dX4_write_3 : decode cX4_write 3 = .ok (.ldc2_w 117, 3) := by decide +kernel
theorem dX4_write_6 : decode cX4_write 6 = .ok (.invokestatic 65, 3) := by decide +kernel
theorem dX4_write_9 : decode cX4_write 9 = .ok (.ifCond .ne 6, 3) := by decide +kernel
theorem dX4_write_12 : decode cX4_write 12 = .ok (.bipush (-2), 2) := by decide +kernel
theorem dX4_write_14 : decode cX4_write 14 = .ok (.ireturn, 1) := by decide +kernel
theorem dX4_write_15 : decode cX4_write 15 = .ok (.aload_n 0, 1) := by decide +kernel
theorem dX4_write_16 : decode cX4_write 16 = .ok (.getfield 119, 3) := by decide +kernel
theorem dX4_write_19 : decode cX4_write 19 = .ok (.bipush 40, 2) := by decide +kernel
theorem dX4_write_21 : decode cX4_write 21 = .ok (.if_icmp .ne 6, 3) := by decide +kernel
theorem dX4_write_24 : decode cX4_write 24 = .ok (.bipush (-4), 2) := by decide +kernel
theorem dX4_write_26 : decode cX4_write 26 = .ok (.ireturn, 1) := by decide +kernel
theorem dX4_write_27 : decode cX4_write 27 = .ok (.aload_n 0, 1) := by decide +kernel
theorem dX4_write_28 : decode cX4_write 28 = .ok (.getfield 32, 3) := by decide +kernel
theorem dX4_write_31 : decode cX4_write 31 = .ok (.aload_n 0, 1) := by decide +kernel
theorem dX4_write_32 : decode cX4_write 32 = .ok (.getfield 119, 3) := by decide +kernel
theorem dX4_write_35 : decode cX4_write 35 = .ok (.iload_n 1, 1) := by decide +kernel
theorem dX4_write_36 : decode cX4_write 36 = .ok (.iastore, 1) := by decide +kernel
theorem dX4_write_37 : decode cX4_write 37 = .ok (.aload_n 0, 1) := by decide +kernel
theorem dX4_write_38 : decode cX4_write 38 = .ok (.dup, 1) := by decide +kernel
theorem dX4_write_39 : decode cX4_write 39 = .ok (.getfield 119, 3) := by decide +kernel
theorem dX4_write_42 : decode cX4_write 42 = .ok (.iconst 1, 1) := by decide +kernel
theorem dX4_write_43 : decode cX4_write 43 = .ok (.iadd, 1) := by decide +kernel
theorem dX4_write_44 : decode cX4_write 44 = .ok (.putfield 119, 3) := by decide +kernel
theorem dX4_write_47 : decode cX4_write 47 = .ok (.aload_n 0, 1) := by decide +kernel
theorem dX4_write_48 : decode cX4_write 48 = .ok (.getfield 119, 3) := by decide +kernel
theorem dX4_write_51 : decode cX4_write 51 = .ok (.ireturn, 1) := by decide +kernel
theorem dX4_erase_0 : decode cX4_erase 0 = .ok (.aload_n 0, 1) := by decide +kernel
theorem dX4_erase_1 : decode cX4_erase 1 = .ok (.getfield 119, 3) := by decide +kernel
theorem dX4_erase_4 : decode cX4_erase 4 = .ok (.istore_n 1, 1) := by decide +kernel
theorem dX4_erase_5 : decode cX4_erase 5 = .ok (.aload_n 0, 1) := by decide +kernel
theorem dX4_erase_6 : decode cX4_erase 6 = .ok (.iconst 0, 1) := by decide +kernel
theorem dX4_erase_7 : decode cX4_erase 7 = .ok (.putfield 119, 3) := by decide +kernel
theorem dX4_erase_10 : decode cX4_erase 10 = .ok (.iload_n 1, 1) := by decide +kernel
theorem dX4_erase_11 : decode cX4_erase 11 = .ok (.ireturn, 1) := by decide +kernel
theorem dX4_ahead_0 : decode cX4_ahead 0 = .ok (.aload_n 0, 1) := by decide +kernel
theorem dX4_ahead_1 : decode cX4_ahead 1 = .ok (.getfield 122, 3) := by decide +kernel
theorem dX4_ahead_4 : decode cX4_ahead 4 = .ok (.aload_n 0, 1) := by decide +kernel
theorem dX4_ahead_5 : decode cX4_ahead 5 = .ok (.getfield 119, 3) := by decide +kernel
theorem dX4_ahead_8 : decode cX4_ahead 8 = .ok (.if_icmp .ge 30, 3) := by decide +kernel
theorem dX4_ahead_11 : decode cX4_ahead 11 = .ok (.aload_n 0, 1) := by decide +kernel
theorem dX4_ahead_12 : decode cX4_ahead 12 = .ok (.getfield 32, 3) := by decide +kernel
theorem dX4_ahead_15 : decode cX4_ahead 15 = .ok (.aload_n 0, 1) := by decide +kernel
theorem dX4_ahead_16 : decode cX4_ahead 16 = .ok (.getfield 122, 3) := by decide +kernel
theorem dX4_ahead_19 : decode cX4_ahead 19 = .ok (.iaload, 1) := by decide +kernel
theorem dX4_ahead_20 : decode cX4_ahead 20 = .ok (.bipush 32, 2) := by decide +kernel
theorem dX4_ahead_22 : decode cX4_ahead 22 = .ok (.if_icmp .ne 16, 3) := by decide +kernel
theorem dX4_ahead_25 : decode cX4_ahead 25 = .ok (.aload_n 0, 1) := by decide +kernel
theorem dX4_ahead_26 : decode cX4_ahead 26 = .ok (.dup, 1) := by decide +kernel
theorem dX4_ahead_27 : decode cX4_ahead 27 = .ok (.getfield 122, 3) := by decide +kernel
theorem dX4_ahead_30 : decode cX4_ahead 30 = .ok (.iconst 1, 1) := by decide +kernel
theorem dX4_ahead_31 : decode cX4_ahead 31 = .ok (.iadd, 1) := by decide +kernel
theorem dX4_ahead_32 : decode cX4_ahead 32 = .ok (.putfield 122, 3) := by decide +kernel
theorem dX4_ahead_35 : decode cX4_ahead 35 = .ok (.goto (-35), 3) := by decide +kernel
theorem dX4_ahead_38 : decode cX4_ahead 38 = .ok (.aload_n 0, 1) := by decide +kernel
theorem dX4_ahead_39 : decode cX4_ahead 39 = .ok (.getfield 122, 3) := by decide +kernel
theorem dX4_ahead_42 : decode cX4_ahead 42 = .ok (.aload_n 0, 1) := by decide +kernel
theorem dX4_ahead_43 : decode cX4_ahead 43 = .ok (.getfield 119, 3) := by decide +kernel
theorem dX4_ahead_46 : decode cX4_ahead 46 = .ok (.if_icmp .ge 15, 3) := by decide +kernel
theorem dX4_ahead_49 : decode cX4_ahead 49 = .ok (.aload_n 0, 1) := by decide +kernel
theorem dX4_ahead_50 : decode cX4_ahead 50 = .ok (.getfield 32, 3) := by decide +kernel
theorem dX4_ahead_53 : decode cX4_ahead 53 = .ok (.aload_n 0, 1) := by decide +kernel
theorem dX4_ahead_54 : decode cX4_ahead 54 = .ok (.getfield 122, 3) := by decide +kernel
theorem dX4_ahead_57 : decode cX4_ahead 57 = .ok (.iaload, 1) := by decide +kernel
theorem dX4_ahead_58 : decode cX4_ahead 58 = .ok (.goto 4, 3) := by decide +kernel
theorem dX4_ahead_61 : decode cX4_ahead 61 = .ok (.iconst (-1), 1) := by decide +kernel
theorem dX4_ahead_62 : decode cX4_ahead 62 = .ok (.ireturn, 1) := by decide +kernel
theorem dX4_rank_0 : decode cX4_rank 0 = .ok (.iload_n 0, 1) := by decide +kernel
theorem dX4_rank_1 : decode cX4_rank 1 = .ok (.lookupswitch 93 #[(38, 85), (42, 91), (43, 89), (45, 89), (47, 91), (60, 87), (61, 87), (62, 87), (124, 83)], 83) := by decide +kernel
theorem dX4_rank_84 : decode cX4_rank 84 = .ok (.iconst 1, 1) := by decide +kernel
theorem dX4_rank_85 : decode cX4_rank 85 = .ok (.ireturn, 1) := by decide +kernel
theorem dX4_rank_86 : decode cX4_rank 86 = .ok (.iconst 2, 1) := by decide +kernel
theorem dX4_rank_87 : decode cX4_rank 87 = .ok (.ireturn, 1) := by decide +kernel
theorem dX4_rank_88 : decode cX4_rank 88 = .ok (.iconst 3, 1) := by decide +kernel
theorem dX4_rank_89 : decode cX4_rank 89 = .ok (.ireturn, 1) := by decide +kernel
theorem dX4_rank_90 : decode cX4_rank 90 = .ok (.iconst 4, 1) := by decide +kernel
theorem dX4_rank_91 : decode cX4_rank 91 = .ok (.ireturn, 1) := by decide +kernel
theorem dX4_rank_92 : decode cX4_rank 92 = .ok (.iconst 5, 1) := by decide +kernel
theorem dX4_rank_93 : decode cX4_rank 93 = .ok (.ireturn, 1) := by decide +kernel
theorem dX4_rank_94 : decode cX4_rank 94 = .ok (.iconst 0, 1) := by decide +kernel
theorem dX4_rank_95 : decode cX4_rank 95 = .ok (.ireturn, 1) := by decide +kernel
theorem dX4_workOut_0 : decode cX4_workOut 0 = .ok (.aload_n 0, 1) := by decide +kernel
theorem dX4_workOut_1 : decode cX4_workOut 1 = .ok (.dup, 1) := by decide +kernel
theorem dX4_workOut_2 : decode cX4_workOut 2 = .ok (.getfield 125, 3) := by decide +kernel
theorem dX4_workOut_5 : decode cX4_workOut 5 = .ok (.iconst 1, 1) := by decide +kernel
theorem dX4_workOut_6 : decode cX4_workOut 6 = .ok (.isub, 1) := by decide +kernel
theorem dX4_workOut_7 : decode cX4_workOut 7 = .ok (.putfield 125, 3) := by decide +kernel
theorem dX4_workOut_10 : decode cX4_workOut 10 = .ok (.aload_n 0, 1) := by decide +kernel
theorem dX4_workOut_11 : decode cX4_workOut 11 = .ok (.dup, 1) := by decide +kernel
theorem dX4_workOut_12 : decode cX4_workOut 12 = .ok (.getfield 128, 3) := by decide +kernel
theorem dX4_workOut_15 : decode cX4_workOut 15 = .ok (.iconst 1, 1) := by decide +kernel
theorem dX4_workOut_16 : decode cX4_workOut 16 = .ok (.isub, 1) := by decide +kernel
theorem dX4_workOut_17 : decode cX4_workOut 17 = .ok (.putfield 128, 3) := by decide +kernel
theorem dX4_workOut_20 : decode cX4_workOut 20 = .ok (.aload_n 0, 1) := by decide +kernel
theorem dX4_workOut_21 : decode cX4_workOut 21 = .ok (.getfield 39, 3) := by decide +kernel
theorem dX4_workOut_24 : decode cX4_workOut 24 = .ok (.aload_n 0, 1) := by decide +kernel
theorem dX4_workOut_25 : decode cX4_workOut 25 = .ok (.getfield 128, 3) := by decide +kernel
theorem dX4_workOut_28 : decode cX4_workOut 28 = .ok (.iconst 1, 1) := by decide +kernel
theorem dX4_workOut_29 : decode cX4_workOut 29 = .ok (.isub, 1) := by decide +kernel
theorem dX4_workOut_30 : decode cX4_workOut 30 = .ok (.laload, 1) := by decide +kernel
theorem dX4_workOut_31 : decode cX4_workOut 31 = .ok (.lstore_n 1, 1) := by decide +kernel
theorem dX4_workOut_32 : decode cX4_workOut 32 = .ok (.aload_n 0, 1) := by decide +kernel
theorem dX4_workOut_33 : decode cX4_workOut 33 = .ok (.getfield 39, 3) := by decide +kernel
theorem dX4_workOut_36 : decode cX4_workOut 36 = .ok (.aload_n 0, 1) := by decide +kernel
theorem dX4_workOut_37 : decode cX4_workOut 37 = .ok (.getfield 128, 3) := by decide +kernel
theorem dX4_workOut_40 : decode cX4_workOut 40 = .ok (.laload, 1) := by decide +kernel
theorem dX4_workOut_41 : decode cX4_workOut 41 = .ok (.lstore_n 3, 1) := by decide +kernel
theorem dX4_workOut_42 : decode cX4_workOut 42 = .ok (.lconst 0, 1) := by decide +kernel
theorem dX4_workOut_43 : decode cX4_workOut 43 = .ok (.lstore 5, 2) := by decide +kernel
theorem dX4_workOut_45 : decode cX4_workOut 45 = .ok (.aload_n 0, 1) := by decide +kernel
theorem dX4_workOut_46 : decode cX4_workOut 46 = .ok (.getfield 43, 3) := by decide +kernel
theorem dX4_workOut_49 : decode cX4_workOut 49 = .ok (.aload_n 0, 1) := by decide +kernel
theorem dX4_workOut_50 : decode cX4_workOut 50 = .ok (.getfield 125, 3) := by decide +kernel
theorem dX4_workOut_53 : decode cX4_workOut 53 = .ok (.iaload, 1) := by decide +kernel
theorem dX4_workOut_54 : decode cX4_workOut 54 = .ok (.lookupswitch 190 #[(38, 96), (42, 182), (43, 166), (45, 174), (60, 118), (61, 150), (62, 134), (124, 74)], 74) := by decide +kernel
theorem dX4_workOut_128 : decode cX4_workOut 128 = .ok (.lload_n 1, 1) := by decide +kernel
theorem dX4_workOut_129 : decode cX4_workOut 129 = .ok (.lconst 0, 1) := by decide +kernel
theorem dX4_workOut_130 : decode cX4_workOut 130 = .ok (.lcmp, 1) := by decide +kernel
theorem dX4_workOut_131 : decode cX4_workOut 131 = .ok (.ifCond .ne 9, 3) := by decide +kernel
theorem dX4_workOut_134 : decode cX4_workOut 134 = .ok (.lload_n 3, 1) := by decide +kernel
theorem dX4_workOut_135 : decode cX4_workOut 135 = .ok (.lconst 0, 1) := by decide +kernel
theorem dX4_workOut_136 : decode cX4_workOut 136 = .ok (.lcmp, 1) := by decide +kernel
theorem dX4_workOut_137 : decode cX4_workOut 137 = .ok (.ifCond .eq 7, 3) := by decide +kernel
theorem dX4_workOut_140 : decode cX4_workOut 140 = .ok (.lconst 1, 1) := by decide +kernel
theorem dX4_workOut_141 : decode cX4_workOut 141 = .ok (.goto 4, 3) := by decide +kernel
theorem dX4_workOut_144 : decode cX4_workOut 144 = .ok (.lconst 0, 1) := by decide +kernel
theorem dX4_workOut_145 : decode cX4_workOut 145 = .ok (.lstore 5, 2) := by decide +kernel
theorem dX4_workOut_147 : decode cX4_workOut 147 = .ok (.goto 112, 3) := by decide +kernel
theorem dX4_workOut_150 : decode cX4_workOut 150 = .ok (.lload_n 1, 1) := by decide +kernel
theorem dX4_workOut_151 : decode cX4_workOut 151 = .ok (.lconst 0, 1) := by decide +kernel
theorem dX4_workOut_152 : decode cX4_workOut 152 = .ok (.lcmp, 1) := by decide +kernel
theorem dX4_workOut_153 : decode cX4_workOut 153 = .ok (.ifCond .eq 13, 3) := by decide +kernel
theorem dX4_workOut_156 : decode cX4_workOut 156 = .ok (.lload_n 3, 1) := by decide +kernel
theorem dX4_workOut_157 : decode cX4_workOut 157 = .ok (.lconst 0, 1) := by decide +kernel
theorem dX4_workOut_158 : decode cX4_workOut 158 = .ok (.lcmp, 1) := by decide +kernel
theorem dX4_workOut_159 : decode cX4_workOut 159 = .ok (.ifCond .eq 7, 3) := by decide +kernel
theorem dX4_workOut_162 : decode cX4_workOut 162 = .ok (.lconst 1, 1) := by decide +kernel
theorem dX4_workOut_163 : decode cX4_workOut 163 = .ok (.goto 4, 3) := by decide +kernel
theorem dX4_workOut_166 : decode cX4_workOut 166 = .ok (.lconst 0, 1) := by decide +kernel
theorem dX4_workOut_167 : decode cX4_workOut 167 = .ok (.lstore 5, 2) := by decide +kernel
theorem dX4_workOut_169 : decode cX4_workOut 169 = .ok (.goto 90, 3) := by decide +kernel
theorem dX4_workOut_172 : decode cX4_workOut 172 = .ok (.lload_n 1, 1) := by decide +kernel
theorem dX4_workOut_173 : decode cX4_workOut 173 = .ok (.lload_n 3, 1) := by decide +kernel
theorem dX4_workOut_174 : decode cX4_workOut 174 = .ok (.lcmp, 1) := by decide +kernel
theorem dX4_workOut_175 : decode cX4_workOut 175 = .ok (.ifCond .ge 7, 3) := by decide +kernel
theorem dX4_workOut_178 : decode cX4_workOut 178 = .ok (.lconst 1, 1) := by decide +kernel
theorem dX4_workOut_179 : decode cX4_workOut 179 = .ok (.goto 4, 3) := by decide +kernel
theorem dX4_workOut_182 : decode cX4_workOut 182 = .ok (.lconst 0, 1) := by decide +kernel
theorem dX4_workOut_183 : decode cX4_workOut 183 = .ok (.lstore 5, 2) := by decide +kernel
theorem dX4_workOut_185 : decode cX4_workOut 185 = .ok (.goto 74, 3) := by decide +kernel
theorem dX4_workOut_188 : decode cX4_workOut 188 = .ok (.lload_n 1, 1) := by decide +kernel
theorem dX4_workOut_189 : decode cX4_workOut 189 = .ok (.lload_n 3, 1) := by decide +kernel
theorem dX4_workOut_190 : decode cX4_workOut 190 = .ok (.lcmp, 1) := by decide +kernel
theorem dX4_workOut_191 : decode cX4_workOut 191 = .ok (.ifCond .le 7, 3) := by decide +kernel
theorem dX4_workOut_194 : decode cX4_workOut 194 = .ok (.lconst 1, 1) := by decide +kernel
theorem dX4_workOut_195 : decode cX4_workOut 195 = .ok (.goto 4, 3) := by decide +kernel
theorem dX4_workOut_198 : decode cX4_workOut 198 = .ok (.lconst 0, 1) := by decide +kernel
theorem dX4_workOut_199 : decode cX4_workOut 199 = .ok (.lstore 5, 2) := by decide +kernel
theorem dX4_workOut_201 : decode cX4_workOut 201 = .ok (.goto 58, 3) := by decide +kernel
theorem dX4_workOut_204 : decode cX4_workOut 204 = .ok (.lload_n 1, 1) := by decide +kernel
theorem dX4_workOut_205 : decode cX4_workOut 205 = .ok (.lload_n 3, 1) := by decide +kernel
theorem dX4_workOut_206 : decode cX4_workOut 206 = .ok (.lcmp, 1) := by decide +kernel
theorem dX4_workOut_207 : decode cX4_workOut 207 = .ok (.ifCond .ne 7, 3) := by decide +kernel
theorem dX4_workOut_210 : decode cX4_workOut 210 = .ok (.lconst 1, 1) := by decide +kernel
theorem dX4_workOut_211 : decode cX4_workOut 211 = .ok (.goto 4, 3) := by decide +kernel
theorem dX4_workOut_214 : decode cX4_workOut 214 = .ok (.lconst 0, 1) := by decide +kernel
theorem dX4_workOut_215 : decode cX4_workOut 215 = .ok (.lstore 5, 2) := by decide +kernel
theorem dX4_workOut_217 : decode cX4_workOut 217 = .ok (.goto 42, 3) := by decide +kernel
theorem dX4_workOut_220 : decode cX4_workOut 220 = .ok (.lload_n 1, 1) := by decide +kernel
theorem dX4_workOut_221 : decode cX4_workOut 221 = .ok (.lload_n 3, 1) := by decide +kernel
theorem dX4_workOut_222 : decode cX4_workOut 222 = .ok (.ladd, 1) := by decide +kernel
theorem dX4_workOut_223 : decode cX4_workOut 223 = .ok (.lstore 5, 2) := by decide +kernel
theorem dX4_workOut_225 : decode cX4_workOut 225 = .ok (.goto 34, 3) := by decide +kernel
theorem dX4_workOut_228 : decode cX4_workOut 228 = .ok (.lload_n 1, 1) := by decide +kernel
theorem dX4_workOut_229 : decode cX4_workOut 229 = .ok (.lload_n 3, 1) := by decide +kernel
theorem dX4_workOut_230 : decode cX4_workOut 230 = .ok (.lsub, 1) := by decide +kernel
theorem dX4_workOut_231 : decode cX4_workOut 231 = .ok (.lstore 5, 2) := by decide +kernel
theorem dX4_workOut_233 : decode cX4_workOut 233 = .ok (.goto 26, 3) := by decide +kernel
theorem dX4_workOut_236 : decode cX4_workOut 236 = .ok (.lload_n 1, 1) := by decide +kernel
theorem dX4_workOut_237 : decode cX4_workOut 237 = .ok (.lload_n 3, 1) := by decide +kernel
theorem dX4_workOut_238 : decode cX4_workOut 238 = .ok (.lmul, 1) := by decide +kernel
theorem dX4_workOut_239 : decode cX4_workOut 239 = .ok (.lstore 5, 2) := by decide +kernel
theorem dX4_workOut_241 : decode cX4_workOut 241 = .ok (.goto 18, 3) := by decide +kernel
theorem dX4_workOut_244 : decode cX4_workOut 244 = .ok (.lload_n 3, 1) := by decide +kernel
theorem dX4_workOut_245 : decode cX4_workOut 245 = .ok (.lconst 0, 1) := by decide +kernel
theorem dX4_workOut_246 : decode cX4_workOut 246 = .ok (.lcmp, 1) := by decide +kernel
theorem dX4_workOut_247 : decode cX4_workOut 247 = .ok (.ifCond .ne 7, 3) := by decide +kernel
theorem dX4_workOut_250 : decode cX4_workOut 250 = .ok (.lconst 0, 1) := by decide +kernel
theorem dX4_workOut_251 : decode cX4_workOut 251 = .ok (.goto 6, 3) := by decide +kernel
theorem dX4_workOut_254 : decode cX4_workOut 254 = .ok (.lload_n 1, 1) := by decide +kernel
theorem dX4_workOut_255 : decode cX4_workOut 255 = .ok (.lload_n 3, 1) := by decide +kernel
theorem dX4_workOut_256 : decode cX4_workOut 256 = .ok (.ldiv, 1) := by decide +kernel
theorem dX4_workOut_257 : decode cX4_workOut 257 = .ok (.lstore 5, 2) := by decide +kernel
theorem dX4_workOut_259 : decode cX4_workOut 259 = .ok (.aload_n 0, 1) := by decide +kernel
theorem dX4_workOut_260 : decode cX4_workOut 260 = .ok (.getfield 39, 3) := by decide +kernel
theorem dX4_workOut_263 : decode cX4_workOut 263 = .ok (.aload_n 0, 1) := by decide +kernel
theorem dX4_workOut_264 : decode cX4_workOut 264 = .ok (.getfield 128, 3) := by decide +kernel
theorem dX4_workOut_267 : decode cX4_workOut 267 = .ok (.iconst 1, 1) := by decide +kernel
theorem dX4_workOut_268 : decode cX4_workOut 268 = .ok (.isub, 1) := by decide +kernel
theorem dX4_workOut_269 : decode cX4_workOut 269 = .ok (.lload 5, 2) := by decide +kernel
theorem dX4_workOut_271 : decode cX4_workOut 271 = .ok (.lastore, 1) := by decide +kernel
theorem dX4_workOut_272 : decode cX4_workOut 272 = .ok (.return_, 1) := by decide +kernel
theorem dX4_workDown_0 : decode cX4_workDown 0 = .ok (.aload_n 0, 1) := by decide +kernel
theorem dX4_workDown_1 : decode cX4_workDown 1 = .ok (.getfield 125, 3) := by decide +kernel
theorem dX4_workDown_4 : decode cX4_workDown 4 = .ok (.ifCond .le 45, 3) := by decide +kernel
theorem dX4_workDown_7 : decode cX4_workDown 7 = .ok (.aload_n 0, 1) := by decide +kernel
theorem dX4_workDown_8 : decode cX4_workDown 8 = .ok (.getfield 43, 3) := by decide +kernel
theorem dX4_workDown_11 : decode cX4_workDown 11 = .ok (.aload_n 0, 1) := by decide +kernel
theorem dX4_workDown_12 : decode cX4_workDown 12 = .ok (.getfield 125, 3) := by decide +kernel
theorem dX4_workDown_15 : decode cX4_workDown 15 = .ok (.iconst 1, 1) := by decide +kernel
theorem dX4_workDown_16 : decode cX4_workDown 16 = .ok (.isub, 1) := by decide +kernel
theorem dX4_workDown_17 : decode cX4_workDown 17 = .ok (.iaload, 1) := by decide +kernel
theorem dX4_workDown_18 : decode cX4_workDown 18 = .ok (.sipush 1000, 3) := by decide +kernel
theorem dX4_workDown_21 : decode cX4_workDown 21 = .ok (.if_icmp .ge 28, 3) := by decide +kernel
theorem dX4_workDown_24 : decode cX4_workDown 24 = .ok (.aload_n 0, 1) := by decide +kernel
theorem dX4_workDown_25 : decode cX4_workDown 25 = .ok (.getfield 43, 3) := by decide +kernel
theorem dX4_workDown_28 : decode cX4_workDown 28 = .ok (.aload_n 0, 1) := by decide +kernel
theorem dX4_workDown_29 : decode cX4_workDown 29 = .ok (.getfield 125, 3) := by decide +kernel
theorem dX4_workDown_32 : decode cX4_workDown 32 = .ok (.iconst 1, 1) := by decide +kernel
theorem dX4_workDown_33 : decode cX4_workDown 33 = .ok (.isub, 1) := by decide +kernel
theorem dX4_workDown_34 : decode cX4_workDown 34 = .ok (.iaload, 1) := by decide +kernel
theorem dX4_workDown_35 : decode cX4_workDown 35 = .ok (.invokestatic 131, 3) := by decide +kernel
theorem dX4_workDown_38 : decode cX4_workDown 38 = .ok (.iload_n 1, 1) := by decide +kernel
theorem dX4_workDown_39 : decode cX4_workDown 39 = .ok (.if_icmp .lt 10, 3) := by decide +kernel
theorem dX4_workDown_42 : decode cX4_workDown 42 = .ok (.aload_n 0, 1) := by decide +kernel
theorem dX4_workDown_43 : decode cX4_workDown 43 = .ok (.invokevirtual 135, 3) := by decide +kernel
theorem dX4_workDown_46 : decode cX4_workDown 46 = .ok (.goto (-46), 3) := by decide +kernel
theorem dX4_workDown_49 : decode cX4_workDown 49 = .ok (.return_, 1) := by decide +kernel
theorem dX4_stands_0 : decode cX4_stands 0 = .ok (.lload_n 1, 1) := by decide +kernel
theorem dX4_stands_1 : decode cX4_stands 1 = .ok (.lstore_n 3, 1) := by decide +kernel
theorem dX4_stands_2 : decode cX4_stands 2 = .ok (.aload_n 0, 1) := by decide +kernel
theorem dX4_stands_3 : decode cX4_stands 3 = .ok (.getfield 125, 3) := by decide +kernel
theorem dX4_stands_6 : decode cX4_stands 6 = .ok (.ifCond .le 67, 3) := by decide +kernel
theorem dX4_stands_9 : decode cX4_stands 9 = .ok (.aload_n 0, 1) := by decide +kernel
theorem dX4_stands_10 : decode cX4_stands 10 = .ok (.getfield 43, 3) := by decide +kernel
theorem dX4_stands_13 : decode cX4_stands 13 = .ok (.aload_n 0, 1) := by decide +kernel
theorem dX4_stands_14 : decode cX4_stands 14 = .ok (.getfield 125, 3) := by decide +kernel
theorem dX4_stands_17 : decode cX4_stands 17 = .ok (.iconst 1, 1) := by decide +kernel
theorem dX4_stands_18 : decode cX4_stands 18 = .ok (.isub, 1) := by decide +kernel
theorem dX4_stands_19 : decode cX4_stands 19 = .ok (.iaload, 1) := by decide +kernel
theorem dX4_stands_20 : decode cX4_stands 20 = .ok (.sipush 1000, 3) := by decide +kernel
theorem dX4_stands_23 : decode cX4_stands 23 = .ok (.if_icmp .le 50, 3) := by decide +kernel
theorem dX4_stands_26 : decode cX4_stands 26 = .ok (.aload_n 0, 1) := by decide +kernel
theorem dX4_stands_27 : decode cX4_stands 27 = .ok (.getfield 43, 3) := by decide +kernel
theorem dX4_stands_30 : decode cX4_stands 30 = .ok (.aload_n 0, 1) := by decide +kernel
theorem dX4_stands_31 : decode cX4_stands 31 = .ok (.getfield 125, 3) := by decide +kernel
theorem dX4_stands_34 : decode cX4_stands 34 = .ok (.iconst 1, 1) := by decide +kernel
theorem dX4_stands_35 : decode cX4_stands 35 = .ok (.isub, 1) := by decide +kernel
theorem dX4_stands_36 : decode cX4_stands 36 = .ok (.iaload, 1) := by decide +kernel
theorem dX4_stands_37 : decode cX4_stands 37 = .ok (.sipush 1001, 3) := by decide +kernel
theorem dX4_stands_40 : decode cX4_stands 40 = .ok (.if_icmp .ne 17, 3) := by decide +kernel
theorem dX4_stands_43 : decode cX4_stands 43 = .ok (.lload_n 3, 1) := by decide +kernel
theorem dX4_stands_44 : decode cX4_stands 44 = .ok (.lconst 0, 1) := by decide +kernel
theorem dX4_stands_45 : decode cX4_stands 45 = .ok (.lcmp, 1) := by decide +kernel
theorem dX4_stands_46 : decode cX4_stands 46 = .ok (.ifCond .ne 7, 3) := by decide +kernel
theorem dX4_stands_49 : decode cX4_stands 49 = .ok (.lconst 1, 1) := by decide +kernel
theorem dX4_stands_50 : decode cX4_stands 50 = .ok (.goto 9, 3) := by decide +kernel
theorem dX4_stands_53 : decode cX4_stands 53 = .ok (.lconst 0, 1) := by decide +kernel
theorem dX4_stands_54 : decode cX4_stands 54 = .ok (.goto 5, 3) := by decide +kernel
theorem dX4_stands_57 : decode cX4_stands 57 = .ok (.lload_n 3, 1) := by decide +kernel
theorem dX4_stands_58 : decode cX4_stands 58 = .ok (.lneg, 1) := by decide +kernel
theorem dX4_stands_59 : decode cX4_stands 59 = .ok (.lstore_n 3, 1) := by decide +kernel
theorem dX4_stands_60 : decode cX4_stands 60 = .ok (.aload_n 0, 1) := by decide +kernel
theorem dX4_stands_61 : decode cX4_stands 61 = .ok (.dup, 1) := by decide +kernel
theorem dX4_stands_62 : decode cX4_stands 62 = .ok (.getfield 125, 3) := by decide +kernel
theorem dX4_stands_65 : decode cX4_stands 65 = .ok (.iconst 1, 1) := by decide +kernel
theorem dX4_stands_66 : decode cX4_stands 66 = .ok (.isub, 1) := by decide +kernel
theorem dX4_stands_67 : decode cX4_stands 67 = .ok (.putfield 125, 3) := by decide +kernel
theorem dX4_stands_70 : decode cX4_stands 70 = .ok (.goto (-68), 3) := by decide +kernel
theorem dX4_stands_73 : decode cX4_stands 73 = .ok (.aload_n 0, 1) := by decide +kernel
theorem dX4_stands_74 : decode cX4_stands 74 = .ok (.getfield 39, 3) := by decide +kernel
theorem dX4_stands_77 : decode cX4_stands 77 = .ok (.aload_n 0, 1) := by decide +kernel
theorem dX4_stands_78 : decode cX4_stands 78 = .ok (.getfield 128, 3) := by decide +kernel
theorem dX4_stands_81 : decode cX4_stands 81 = .ok (.lload_n 3, 1) := by decide +kernel
theorem dX4_stands_82 : decode cX4_stands 82 = .ok (.lastore, 1) := by decide +kernel
theorem dX4_stands_83 : decode cX4_stands 83 = .ok (.aload_n 0, 1) := by decide +kernel
theorem dX4_stands_84 : decode cX4_stands 84 = .ok (.dup, 1) := by decide +kernel
theorem dX4_stands_85 : decode cX4_stands 85 = .ok (.getfield 128, 3) := by decide +kernel
theorem dX4_stands_88 : decode cX4_stands 88 = .ok (.iconst 1, 1) := by decide +kernel
theorem dX4_stands_89 : decode cX4_stands 89 = .ok (.iadd, 1) := by decide +kernel
theorem dX4_stands_90 : decode cX4_stands 90 = .ok (.putfield 128, 3) := by decide +kernel
theorem dX4_stands_93 : decode cX4_stands 93 = .ok (.return_, 1) := by decide +kernel
theorem dX4_nameOf_0 : decode cX4_nameOf 0 = .ok (.iload_n 0, 1) := by decide +kernel
theorem dX4_nameOf_1 : decode cX4_nameOf 1 = .ok (.bipush 108, 2) := by decide +kernel
theorem dX4_nameOf_3 : decode cX4_nameOf 3 = .ok (.if_icmp .ne 7, 3) := by decide +kernel
theorem dX4_nameOf_6 : decode cX4_nameOf 6 = .ok (.iconst 0, 1) := by decide +kernel
theorem dX4_nameOf_7 : decode cX4_nameOf 7 = .ok (.goto 44, 3) := by decide +kernel
theorem dX4_nameOf_10 : decode cX4_nameOf 10 = .ok (.iload_n 0, 1) := by decide +kernel
theorem dX4_nameOf_11 : decode cX4_nameOf 11 = .ok (.bipush 117, 2) := by decide +kernel
theorem dX4_nameOf_13 : decode cX4_nameOf 13 = .ok (.if_icmp .ne 7, 3) := by decide +kernel
theorem dX4_nameOf_16 : decode cX4_nameOf 16 = .ok (.iconst 1, 1) := by decide +kernel
theorem dX4_nameOf_17 : decode cX4_nameOf 17 = .ok (.goto 34, 3) := by decide +kernel
theorem dX4_nameOf_20 : decode cX4_nameOf 20 = .ok (.iload_n 0, 1) := by decide +kernel
theorem dX4_nameOf_21 : decode cX4_nameOf 21 = .ok (.bipush 110, 2) := by decide +kernel
theorem dX4_nameOf_23 : decode cX4_nameOf 23 = .ok (.if_icmp .ne 7, 3) := by decide +kernel
theorem dX4_nameOf_26 : decode cX4_nameOf 26 = .ok (.iconst 2, 1) := by decide +kernel
theorem dX4_nameOf_27 : decode cX4_nameOf 27 = .ok (.goto 24, 3) := by decide +kernel
theorem dX4_nameOf_30 : decode cX4_nameOf 30 = .ok (.iload_n 0, 1) := by decide +kernel
theorem dX4_nameOf_31 : decode cX4_nameOf 31 = .ok (.bipush 119, 2) := by decide +kernel
theorem dX4_nameOf_33 : decode cX4_nameOf 33 = .ok (.if_icmp .ne 7, 3) := by decide +kernel
theorem dX4_nameOf_36 : decode cX4_nameOf 36 = .ok (.iconst 3, 1) := by decide +kernel
theorem dX4_nameOf_37 : decode cX4_nameOf 37 = .ok (.goto 14, 3) := by decide +kernel
theorem dX4_nameOf_40 : decode cX4_nameOf 40 = .ok (.iload_n 0, 1) := by decide +kernel
theorem dX4_nameOf_41 : decode cX4_nameOf 41 = .ok (.bipush 118, 2) := by decide +kernel
theorem dX4_nameOf_43 : decode cX4_nameOf 43 = .ok (.if_icmp .ne 7, 3) := by decide +kernel
theorem dX4_nameOf_46 : decode cX4_nameOf 46 = .ok (.iconst 4, 1) := by decide +kernel
theorem dX4_nameOf_47 : decode cX4_nameOf 47 = .ok (.goto 4, 3) := by decide +kernel
theorem dX4_nameOf_50 : decode cX4_nameOf 50 = .ok (.iconst (-1), 1) := by decide +kernel
theorem dX4_nameOf_51 : decode cX4_nameOf 51 = .ok (.ireturn, 1) := by decide +kernel
theorem dX4_digits_0 : decode cX4_digits 0 = .ok (.aload_n 0, 1) := by decide +kernel
theorem dX4_digits_1 : decode cX4_digits 1 = .ok (.getfield 122, 3) := by decide +kernel
theorem dX4_digits_4 : decode cX4_digits 4 = .ok (.istore_n 1, 1) := by decide +kernel
theorem dX4_digits_5 : decode cX4_digits 5 = .ok (.lconst 0, 1) := by decide +kernel
theorem dX4_digits_6 : decode cX4_digits 6 = .ok (.lstore_n 2, 1) := by decide +kernel
theorem dX4_digits_7 : decode cX4_digits 7 = .ok (.aload_n 0, 1) := by decide +kernel
theorem dX4_digits_8 : decode cX4_digits 8 = .ok (.getfield 122, 3) := by decide +kernel
theorem dX4_digits_11 : decode cX4_digits 11 = .ok (.aload_n 0, 1) := by decide +kernel
theorem dX4_digits_12 : decode cX4_digits 12 = .ok (.getfield 119, 3) := by decide +kernel
theorem dX4_digits_15 : decode cX4_digits 15 = .ok (.if_icmp .ge 82, 3) := by decide +kernel
theorem dX4_digits_18 : decode cX4_digits 18 = .ok (.aload_n 0, 1) := by decide +kernel
theorem dX4_digits_19 : decode cX4_digits 19 = .ok (.getfield 32, 3) := by decide +kernel
theorem dX4_digits_22 : decode cX4_digits 22 = .ok (.aload_n 0, 1) := by decide +kernel
theorem dX4_digits_23 : decode cX4_digits 23 = .ok (.getfield 122, 3) := by decide +kernel
theorem dX4_digits_26 : decode cX4_digits 26 = .ok (.iaload, 1) := by decide +kernel
theorem dX4_digits_27 : decode cX4_digits 27 = .ok (.i2l, 1) := by decide +kernel
theorem dX4_digits_28 : decode cX4_digits 28 = .ok (.ldc2_w 138, 3) := by decide +kernel
theorem dX4_digits_31 : decode cX4_digits 31 = .ok (.ldc2_w 140, 3) := by decide +kernel
theorem dX4_digits_34 : decode cX4_digits 34 = .ok (.invokestatic 65, 3) := by decide +kernel
theorem dX4_digits_37 : decode cX4_digits 37 = .ok (.ifCond .eq 60, 3) := by decide +kernel
theorem dX4_digits_40 : decode cX4_digits 40 = .ok (.aload_n 0, 1) := by decide +kernel
theorem dX4_digits_41 : decode cX4_digits 41 = .ok (.getfield 122, 3) := by decide +kernel
theorem dX4_digits_44 : decode cX4_digits 44 = .ok (.iload_n 1, 1) := by decide +kernel
theorem dX4_digits_45 : decode cX4_digits 45 = .ok (.isub, 1) := by decide +kernel
theorem dX4_digits_46 : decode cX4_digits 46 = .ok (.bipush 6, 2) := by decide +kernel
theorem dX4_digits_48 : decode cX4_digits 48 = .ok (.if_icmp .ne 15, 3) := by decide +kernel
theorem dX4_digits_51 : decode cX4_digits 51 = .ok (.aload_n 0, 1) := by decide +kernel
theorem dX4_digits_52 : decode cX4_digits 52 = .ok (.bipush 10, 2) := by decide +kernel
theorem dX4_digits_54 : decode cX4_digits 54 = .ok (.iload_n 1, 1) := by decide +kernel
theorem dX4_digits_55 : decode cX4_digits 55 = .ok (.imul, 1) := by decide +kernel
theorem dX4_digits_56 : decode cX4_digits 56 = .ok (.iconst 2, 1) := by decide +kernel
theorem dX4_digits_57 : decode cX4_digits 57 = .ok (.iadd, 1) := by decide +kernel
theorem dX4_digits_58 : decode cX4_digits 58 = .ok (.putfield 142, 3) := by decide +kernel
theorem dX4_digits_61 : decode cX4_digits 61 = .ok (.lconst 0, 1) := by decide +kernel
theorem dX4_digits_62 : decode cX4_digits 62 = .ok (.lreturn, 1) := by decide +kernel
theorem dX4_digits_63 : decode cX4_digits 63 = .ok (.ldc2_w 145, 3) := by decide +kernel
theorem dX4_digits_66 : decode cX4_digits 66 = .ok (.lload_n 2, 1) := by decide +kernel
theorem dX4_digits_67 : decode cX4_digits 67 = .ok (.lmul, 1) := by decide +kernel
theorem dX4_digits_68 : decode cX4_digits 68 = .ok (.aload_n 0, 1) := by decide +kernel
theorem dX4_digits_69 : decode cX4_digits 69 = .ok (.getfield 32, 3) := by decide +kernel
theorem dX4_digits_72 : decode cX4_digits 72 = .ok (.aload_n 0, 1) := by decide +kernel
theorem dX4_digits_73 : decode cX4_digits 73 = .ok (.getfield 122, 3) := by decide +kernel
theorem dX4_digits_76 : decode cX4_digits 76 = .ok (.iaload, 1) := by decide +kernel
theorem dX4_digits_77 : decode cX4_digits 77 = .ok (.i2l, 1) := by decide +kernel
theorem dX4_digits_78 : decode cX4_digits 78 = .ok (.ladd, 1) := by decide +kernel
theorem dX4_digits_79 : decode cX4_digits 79 = .ok (.ldc2_w 138, 3) := by decide +kernel
theorem dX4_digits_82 : decode cX4_digits 82 = .ok (.lsub, 1) := by decide +kernel
theorem dX4_digits_83 : decode cX4_digits 83 = .ok (.lstore_n 2, 1) := by decide +kernel
theorem dX4_digits_84 : decode cX4_digits 84 = .ok (.aload_n 0, 1) := by decide +kernel
theorem dX4_digits_85 : decode cX4_digits 85 = .ok (.dup, 1) := by decide +kernel
theorem dX4_digits_86 : decode cX4_digits 86 = .ok (.getfield 122, 3) := by decide +kernel
theorem dX4_digits_89 : decode cX4_digits 89 = .ok (.iconst 1, 1) := by decide +kernel
theorem dX4_digits_90 : decode cX4_digits 90 = .ok (.iadd, 1) := by decide +kernel
theorem dX4_digits_91 : decode cX4_digits 91 = .ok (.putfield 122, 3) := by decide +kernel
theorem dX4_digits_94 : decode cX4_digits 94 = .ok (.goto (-87), 3) := by decide +kernel
theorem dX4_digits_97 : decode cX4_digits 97 = .ok (.lload_n 2, 1) := by decide +kernel
theorem dX4_digits_98 : decode cX4_digits 98 = .ok (.lreturn, 1) := by decide +kernel
theorem dX4_reads_0 : decode cX4_reads 0 = .ok (.aload_n 0, 1) := by decide +kernel
theorem dX4_reads_1 : decode cX4_reads 1 = .ok (.iconst 0, 1) := by decide +kernel
theorem dX4_reads_2 : decode cX4_reads 2 = .ok (.putfield 122, 3) := by decide +kernel
theorem dX4_reads_5 : decode cX4_reads 5 = .ok (.aload_n 0, 1) := by decide +kernel
theorem dX4_reads_6 : decode cX4_reads 6 = .ok (.iconst (-1), 1) := by decide +kernel
theorem dX4_reads_7 : decode cX4_reads 7 = .ok (.putfield 142, 3) := by decide +kernel
theorem dX4_reads_10 : decode cX4_reads 10 = .ok (.aload_n 0, 1) := by decide +kernel
theorem dX4_reads_11 : decode cX4_reads 11 = .ok (.iconst 0, 1) := by decide +kernel
theorem dX4_reads_12 : decode cX4_reads 12 = .ok (.putfield 128, 3) := by decide +kernel
theorem dX4_reads_15 : decode cX4_reads 15 = .ok (.aload_n 0, 1) := by decide +kernel
theorem dX4_reads_16 : decode cX4_reads 16 = .ok (.iconst 0, 1) := by decide +kernel
theorem dX4_reads_17 : decode cX4_reads 17 = .ok (.putfield 125, 3) := by decide +kernel
theorem dX4_reads_20 : decode cX4_reads 20 = .ok (.iconst 0, 1) := by decide +kernel
theorem dX4_reads_21 : decode cX4_reads 21 = .ok (.istore_n 1, 1) := by decide +kernel
theorem dX4_reads_22 : decode cX4_reads 22 = .ok (.iconst 1, 1) := by decide +kernel
theorem dX4_reads_23 : decode cX4_reads 23 = .ok (.istore_n 2, 1) := by decide +kernel
theorem dX4_reads_24 : decode cX4_reads 24 = .ok (.iconst 1, 1) := by decide +kernel
theorem dX4_reads_25 : decode cX4_reads 25 = .ok (.istore_n 3, 1) := by decide +kernel
theorem dX4_reads_26 : decode cX4_reads 26 = .ok (.iload_n 3, 1) := by decide +kernel
theorem dX4_reads_27 : decode cX4_reads 27 = .ok (.ifCond .eq 461, 3) := by decide +kernel
theorem dX4_reads_30 : decode cX4_reads 30 = .ok (.aload_n 0, 1) := by decide +kernel
theorem dX4_reads_31 : decode cX4_reads 31 = .ok (.getfield 142, 3) := by decide +kernel
theorem dX4_reads_34 : decode cX4_reads 34 = .ok (.iconst (-1), 1) := by decide +kernel
theorem dX4_reads_35 : decode cX4_reads 35 = .ok (.if_icmp .ne 453, 3) := by decide +kernel
theorem dX4_reads_38 : decode cX4_reads 38 = .ok (.aload_n 0, 1) := by decide +kernel
theorem dX4_reads_39 : decode cX4_reads 39 = .ok (.invokevirtual 147, 3) := by decide +kernel
theorem dX4_reads_42 : decode cX4_reads 42 = .ok (.istore 4, 2) := by decide +kernel
theorem dX4_reads_44 : decode cX4_reads 44 = .ok (.iload_n 2, 1) := by decide +kernel
theorem dX4_reads_45 : decode cX4_reads 45 = .ok (.ifCond .eq 209, 3) := by decide +kernel
theorem dX4_reads_48 : decode cX4_reads 48 = .ok (.iload 4, 2) := by decide +kernel
theorem dX4_reads_50 : decode cX4_reads 50 = .ok (.i2l, 1) := by decide +kernel
theorem dX4_reads_51 : decode cX4_reads 51 = .ok (.ldc2_w 138, 3) := by decide +kernel
theorem dX4_reads_54 : decode cX4_reads 54 = .ok (.ldc2_w 140, 3) := by decide +kernel
theorem dX4_reads_57 : decode cX4_reads 57 = .ok (.invokestatic 65, 3) := by decide +kernel
theorem dX4_reads_60 : decode cX4_reads 60 = .ok (.ifCond .eq 16, 3) := by decide +kernel
theorem dX4_reads_63 : decode cX4_reads 63 = .ok (.aload_n 0, 1) := by decide +kernel
theorem dX4_reads_64 : decode cX4_reads 64 = .ok (.aload_n 0, 1) := by decide +kernel
theorem dX4_reads_65 : decode cX4_reads 65 = .ok (.invokevirtual 151, 3) := by decide +kernel
theorem dX4_reads_68 : decode cX4_reads 68 = .ok (.invokevirtual 155, 3) := by decide +kernel
theorem dX4_reads_71 : decode cX4_reads 71 = .ok (.iconst 0, 1) := by decide +kernel
theorem dX4_reads_72 : decode cX4_reads 72 = .ok (.istore_n 2, 1) := by decide +kernel
theorem dX4_reads_73 : decode cX4_reads 73 = .ok (.goto 412, 3) := by decide +kernel
theorem dX4_reads_76 : decode cX4_reads 76 = .ok (.iload 4, 2) := by decide +kernel
theorem dX4_reads_78 : decode cX4_reads 78 = .ok (.invokestatic 159, 3) := by decide +kernel
theorem dX4_reads_81 : decode cX4_reads 81 = .ok (.iconst (-1), 1) := by decide +kernel
theorem dX4_reads_82 : decode cX4_reads 82 = .ok (.if_icmp .eq 32, 3) := by decide +kernel
theorem dX4_reads_85 : decode cX4_reads 85 = .ok (.aload_n 0, 1) := by decide +kernel
theorem dX4_reads_86 : decode cX4_reads 86 = .ok (.dup, 1) := by decide +kernel
theorem dX4_reads_87 : decode cX4_reads 87 = .ok (.getfield 122, 3) := by decide +kernel
theorem dX4_reads_90 : decode cX4_reads 90 = .ok (.iconst 1, 1) := by decide +kernel
theorem dX4_reads_91 : decode cX4_reads 91 = .ok (.iadd, 1) := by decide +kernel
theorem dX4_reads_92 : decode cX4_reads 92 = .ok (.putfield 122, 3) := by decide +kernel
theorem dX4_reads_95 : decode cX4_reads 95 = .ok (.aload_n 0, 1) := by decide +kernel
theorem dX4_reads_96 : decode cX4_reads 96 = .ok (.aload_n 0, 1) := by decide +kernel
theorem dX4_reads_97 : decode cX4_reads 97 = .ok (.getfield 46, 3) := by decide +kernel
theorem dX4_reads_100 : decode cX4_reads 100 = .ok (.iload 4, 2) := by decide +kernel
theorem dX4_reads_102 : decode cX4_reads 102 = .ok (.invokestatic 159, 3) := by decide +kernel
theorem dX4_reads_105 : decode cX4_reads 105 = .ok (.laload, 1) := by decide +kernel
theorem dX4_reads_106 : decode cX4_reads 106 = .ok (.invokevirtual 155, 3) := by decide +kernel
theorem dX4_reads_109 : decode cX4_reads 109 = .ok (.iconst 0, 1) := by decide +kernel
theorem dX4_reads_110 : decode cX4_reads 110 = .ok (.istore_n 2, 1) := by decide +kernel
theorem dX4_reads_111 : decode cX4_reads 111 = .ok (.goto 374, 3) := by decide +kernel
theorem dX4_reads_114 : decode cX4_reads 114 = .ok (.iload 4, 2) := by decide +kernel
theorem dX4_reads_116 : decode cX4_reads 116 = .ok (.bipush 33, 2) := by decide +kernel
theorem dX4_reads_118 : decode cX4_reads 118 = .ok (.if_icmp .eq 10, 3) := by decide +kernel
theorem dX4_reads_121 : decode cX4_reads 121 = .ok (.iload 4, 2) := by decide +kernel
theorem dX4_reads_123 : decode cX4_reads 123 = .ok (.bipush 45, 2) := by decide +kernel
theorem dX4_reads_125 : decode cX4_reads 125 = .ok (.if_icmp .ne 51, 3) := by decide +kernel
theorem dX4_reads_128 : decode cX4_reads 128 = .ok (.aload_n 0, 1) := by decide +kernel
theorem dX4_reads_129 : decode cX4_reads 129 = .ok (.dup, 1) := by decide +kernel
theorem dX4_reads_130 : decode cX4_reads 130 = .ok (.getfield 122, 3) := by decide +kernel
theorem dX4_reads_133 : decode cX4_reads 133 = .ok (.iconst 1, 1) := by decide +kernel
theorem dX4_reads_134 : decode cX4_reads 134 = .ok (.iadd, 1) := by decide +kernel
theorem dX4_reads_135 : decode cX4_reads 135 = .ok (.putfield 122, 3) := by decide +kernel
theorem dX4_reads_138 : decode cX4_reads 138 = .ok (.aload_n 0, 1) := by decide +kernel
theorem dX4_reads_139 : decode cX4_reads 139 = .ok (.getfield 43, 3) := by decide +kernel
theorem dX4_reads_142 : decode cX4_reads 142 = .ok (.aload_n 0, 1) := by decide +kernel
theorem dX4_reads_143 : decode cX4_reads 143 = .ok (.getfield 125, 3) := by decide +kernel
theorem dX4_reads_146 : decode cX4_reads 146 = .ok (.iload 4, 2) := by decide +kernel
theorem dX4_reads_148 : decode cX4_reads 148 = .ok (.bipush 33, 2) := by decide +kernel
theorem dX4_reads_150 : decode cX4_reads 150 = .ok (.if_icmp .ne 9, 3) := by decide +kernel
theorem dX4_reads_153 : decode cX4_reads 153 = .ok (.sipush 1001, 3) := by decide +kernel
theorem dX4_reads_156 : decode cX4_reads 156 = .ok (.goto 6, 3) := by decide +kernel
theorem dX4_reads_159 : decode cX4_reads 159 = .ok (.sipush 1002, 3) := by decide +kernel
theorem dX4_reads_162 : decode cX4_reads 162 = .ok (.iastore, 1) := by decide +kernel
theorem dX4_reads_163 : decode cX4_reads 163 = .ok (.aload_n 0, 1) := by decide +kernel
theorem dX4_reads_164 : decode cX4_reads 164 = .ok (.dup, 1) := by decide +kernel
theorem dX4_reads_165 : decode cX4_reads 165 = .ok (.getfield 125, 3) := by decide +kernel
theorem dX4_reads_168 : decode cX4_reads 168 = .ok (.iconst 1, 1) := by decide +kernel
theorem dX4_reads_169 : decode cX4_reads 169 = .ok (.iadd, 1) := by decide +kernel
theorem dX4_reads_170 : decode cX4_reads 170 = .ok (.putfield 125, 3) := by decide +kernel
theorem dX4_reads_173 : decode cX4_reads 173 = .ok (.goto 312, 3) := by decide +kernel
theorem dX4_reads_176 : decode cX4_reads 176 = .ok (.iload 4, 2) := by decide +kernel
theorem dX4_reads_178 : decode cX4_reads 178 = .ok (.bipush 40, 2) := by decide +kernel
theorem dX4_reads_180 : decode cX4_reads 180 = .ok (.if_icmp .ne 47, 3) := by decide +kernel
theorem dX4_reads_183 : decode cX4_reads 183 = .ok (.iload_n 1, 1) := by decide +kernel
theorem dX4_reads_184 : decode cX4_reads 184 = .ok (.bipush 8, 2) := by decide +kernel
theorem dX4_reads_186 : decode cX4_reads 186 = .ok (.if_icmp .ge 41, 3) := by decide +kernel
theorem dX4_reads_189 : decode cX4_reads 189 = .ok (.aload_n 0, 1) := by decide +kernel
theorem dX4_reads_190 : decode cX4_reads 190 = .ok (.dup, 1) := by decide +kernel
theorem dX4_reads_191 : decode cX4_reads 191 = .ok (.getfield 122, 3) := by decide +kernel
theorem dX4_reads_194 : decode cX4_reads 194 = .ok (.iconst 1, 1) := by decide +kernel
theorem dX4_reads_195 : decode cX4_reads 195 = .ok (.iadd, 1) := by decide +kernel
theorem dX4_reads_196 : decode cX4_reads 196 = .ok (.putfield 122, 3) := by decide +kernel
theorem dX4_reads_199 : decode cX4_reads 199 = .ok (.iinc 1 1, 3) := by decide +kernel
theorem dX4_reads_202 : decode cX4_reads 202 = .ok (.aload_n 0, 1) := by decide +kernel
theorem dX4_reads_203 : decode cX4_reads 203 = .ok (.getfield 43, 3) := by decide +kernel
theorem dX4_reads_206 : decode cX4_reads 206 = .ok (.aload_n 0, 1) := by decide +kernel
theorem dX4_reads_207 : decode cX4_reads 207 = .ok (.getfield 125, 3) := by decide +kernel
theorem dX4_reads_210 : decode cX4_reads 210 = .ok (.sipush 1000, 3) := by decide +kernel
theorem dX4_reads_213 : decode cX4_reads 213 = .ok (.iastore, 1) := by decide +kernel
theorem dX4_reads_214 : decode cX4_reads 214 = .ok (.aload_n 0, 1) := by decide +kernel
theorem dX4_reads_215 : decode cX4_reads 215 = .ok (.dup, 1) := by decide +kernel
theorem dX4_reads_216 : decode cX4_reads 216 = .ok (.getfield 125, 3) := by decide +kernel
theorem dX4_reads_219 : decode cX4_reads 219 = .ok (.iconst 1, 1) := by decide +kernel
theorem dX4_reads_220 : decode cX4_reads 220 = .ok (.iadd, 1) := by decide +kernel
theorem dX4_reads_221 : decode cX4_reads 221 = .ok (.putfield 125, 3) := by decide +kernel
theorem dX4_reads_224 : decode cX4_reads 224 = .ok (.goto 261, 3) := by decide +kernel
theorem dX4_reads_227 : decode cX4_reads 227 = .ok (.aload_n 0, 1) := by decide +kernel
theorem dX4_reads_228 : decode cX4_reads 228 = .ok (.bipush 10, 2) := by decide +kernel
theorem dX4_reads_230 : decode cX4_reads 230 = .ok (.aload_n 0, 1) := by decide +kernel
theorem dX4_reads_231 : decode cX4_reads 231 = .ok (.getfield 122, 3) := by decide +kernel
theorem dX4_reads_234 : decode cX4_reads 234 = .ok (.imul, 1) := by decide +kernel
theorem dX4_reads_235 : decode cX4_reads 235 = .ok (.iload 4, 2) := by decide +kernel
theorem dX4_reads_237 : decode cX4_reads 237 = .ok (.bipush 40, 2) := by decide +kernel
theorem dX4_reads_239 : decode cX4_reads 239 = .ok (.if_icmp .ne 7, 3) := by decide +kernel
theorem dX4_reads_242 : decode cX4_reads 242 = .ok (.iconst 3, 1) := by decide +kernel
theorem dX4_reads_243 : decode cX4_reads 243 = .ok (.goto 4, 3) := by decide +kernel
theorem dX4_reads_246 : decode cX4_reads 246 = .ok (.iconst 1, 1) := by decide +kernel
theorem dX4_reads_247 : decode cX4_reads 247 = .ok (.iadd, 1) := by decide +kernel
theorem dX4_reads_248 : decode cX4_reads 248 = .ok (.putfield 142, 3) := by decide +kernel
theorem dX4_reads_251 : decode cX4_reads 251 = .ok (.goto 234, 3) := by decide +kernel
theorem dX4_reads_254 : decode cX4_reads 254 = .ok (.iload 4, 2) := by decide +kernel
theorem dX4_reads_256 : decode cX4_reads 256 = .ok (.bipush 41, 2) := by decide +kernel
theorem dX4_reads_258 : decode cX4_reads 258 = .ok (.if_icmp .ne 61, 3) := by decide +kernel
theorem dX4_reads_261 : decode cX4_reads 261 = .ok (.iload_n 1, 1) := by decide +kernel
theorem dX4_reads_262 : decode cX4_reads 262 = .ok (.ifCond .le 57, 3) := by decide +kernel
theorem dX4_reads_265 : decode cX4_reads 265 = .ok (.aload_n 0, 1) := by decide +kernel
theorem dX4_reads_266 : decode cX4_reads 266 = .ok (.dup, 1) := by decide +kernel
theorem dX4_reads_267 : decode cX4_reads 267 = .ok (.getfield 122, 3) := by decide +kernel
theorem dX4_reads_270 : decode cX4_reads 270 = .ok (.iconst 1, 1) := by decide +kernel
theorem dX4_reads_271 : decode cX4_reads 271 = .ok (.iadd, 1) := by decide +kernel
theorem dX4_reads_272 : decode cX4_reads 272 = .ok (.putfield 122, 3) := by decide +kernel
theorem dX4_reads_275 : decode cX4_reads 275 = .ok (.iinc 1 (-1), 3) := by decide +kernel
theorem dX4_reads_278 : decode cX4_reads 278 = .ok (.aload_n 0, 1) := by decide +kernel
theorem dX4_reads_279 : decode cX4_reads 279 = .ok (.iconst 1, 1) := by decide +kernel
theorem dX4_reads_280 : decode cX4_reads 280 = .ok (.invokevirtual 162, 3) := by decide +kernel
theorem dX4_reads_283 : decode cX4_reads 283 = .ok (.aload_n 0, 1) := by decide +kernel
theorem dX4_reads_284 : decode cX4_reads 284 = .ok (.dup, 1) := by decide +kernel
theorem dX4_reads_285 : decode cX4_reads 285 = .ok (.getfield 125, 3) := by decide +kernel
theorem dX4_reads_288 : decode cX4_reads 288 = .ok (.iconst 1, 1) := by decide +kernel
theorem dX4_reads_289 : decode cX4_reads 289 = .ok (.isub, 1) := by decide +kernel
theorem dX4_reads_290 : decode cX4_reads 290 = .ok (.putfield 125, 3) := by decide +kernel
theorem dX4_reads_293 : decode cX4_reads 293 = .ok (.aload_n 0, 1) := by decide +kernel
theorem dX4_reads_294 : decode cX4_reads 294 = .ok (.dup, 1) := by decide +kernel
theorem dX4_reads_295 : decode cX4_reads 295 = .ok (.getfield 128, 3) := by decide +kernel
theorem dX4_reads_298 : decode cX4_reads 298 = .ok (.iconst 1, 1) := by decide +kernel
theorem dX4_reads_299 : decode cX4_reads 299 = .ok (.isub, 1) := by decide +kernel
theorem dX4_reads_300 : decode cX4_reads 300 = .ok (.putfield 128, 3) := by decide +kernel
theorem dX4_reads_303 : decode cX4_reads 303 = .ok (.aload_n 0, 1) := by decide +kernel
theorem dX4_reads_304 : decode cX4_reads 304 = .ok (.aload_n 0, 1) := by decide +kernel
theorem dX4_reads_305 : decode cX4_reads 305 = .ok (.getfield 39, 3) := by decide +kernel
theorem dX4_reads_308 : decode cX4_reads 308 = .ok (.aload_n 0, 1) := by decide +kernel
theorem dX4_reads_309 : decode cX4_reads 309 = .ok (.getfield 128, 3) := by decide +kernel
theorem dX4_reads_312 : decode cX4_reads 312 = .ok (.laload, 1) := by decide +kernel
theorem dX4_reads_313 : decode cX4_reads 313 = .ok (.invokevirtual 155, 3) := by decide +kernel
theorem dX4_reads_316 : decode cX4_reads 316 = .ok (.goto 169, 3) := by decide +kernel
theorem dX4_reads_319 : decode cX4_reads 319 = .ok (.iload 4, 2) := by decide +kernel
theorem dX4_reads_321 : decode cX4_reads 321 = .ok (.invokestatic 131, 3) := by decide +kernel
theorem dX4_reads_324 : decode cX4_reads 324 = .ok (.ifCond .le 128, 3) := by decide +kernel
theorem dX4_reads_327 : decode cX4_reads 327 = .ok (.aload_n 0, 1) := by decide +kernel
theorem dX4_reads_328 : decode cX4_reads 328 = .ok (.iload 4, 2) := by decide +kernel
theorem dX4_reads_330 : decode cX4_reads 330 = .ok (.invokestatic 131, 3) := by decide +kernel
theorem dX4_reads_333 : decode cX4_reads 333 = .ok (.iconst 3, 1) := by decide +kernel
theorem dX4_reads_334 : decode cX4_reads 334 = .ok (.if_icmp .ne 7, 3) := by decide +kernel
theorem dX4_reads_337 : decode cX4_reads 337 = .ok (.iconst 4, 1) := by decide +kernel
theorem dX4_reads_338 : decode cX4_reads 338 = .ok (.goto 8, 3) := by decide +kernel
theorem dX4_reads_341 : decode cX4_reads 341 = .ok (.iload 4, 2) := by decide +kernel
theorem dX4_reads_343 : decode cX4_reads 343 = .ok (.invokestatic 131, 3) := by decide +kernel
theorem dX4_reads_346 : decode cX4_reads 346 = .ok (.invokevirtual 162, 3) := by decide +kernel
theorem dX4_reads_349 : decode cX4_reads 349 = .ok (.iload 4, 2) := by decide +kernel
theorem dX4_reads_351 : decode cX4_reads 351 = .ok (.invokestatic 131, 3) := by decide +kernel
theorem dX4_reads_354 : decode cX4_reads 354 = .ok (.iconst 3, 1) := by decide +kernel
theorem dX4_reads_355 : decode cX4_reads 355 = .ok (.if_icmp .ne 61, 3) := by decide +kernel
theorem dX4_reads_358 : decode cX4_reads 358 = .ok (.aload_n 0, 1) := by decide +kernel
theorem dX4_reads_359 : decode cX4_reads 359 = .ok (.getfield 125, 3) := by decide +kernel
theorem dX4_reads_362 : decode cX4_reads 362 = .ok (.ifCond .le 54, 3) := by decide +kernel
theorem dX4_reads_365 : decode cX4_reads 365 = .ok (.aload_n 0, 1) := by decide +kernel
theorem dX4_reads_366 : decode cX4_reads 366 = .ok (.getfield 43, 3) := by decide +kernel
theorem dX4_reads_369 : decode cX4_reads 369 = .ok (.aload_n 0, 1) := by decide +kernel
theorem dX4_reads_370 : decode cX4_reads 370 = .ok (.getfield 125, 3) := by decide +kernel
theorem dX4_reads_373 : decode cX4_reads 373 = .ok (.iconst 1, 1) := by decide +kernel
theorem dX4_reads_374 : decode cX4_reads 374 = .ok (.isub, 1) := by decide +kernel
theorem dX4_reads_375 : decode cX4_reads 375 = .ok (.iaload, 1) := by decide +kernel
theorem dX4_reads_376 : decode cX4_reads 376 = .ok (.sipush 1000, 3) := by decide +kernel
theorem dX4_reads_379 : decode cX4_reads 379 = .ok (.if_icmp .ge 37, 3) := by decide +kernel
theorem dX4_reads_382 : decode cX4_reads 382 = .ok (.aload_n 0, 1) := by decide +kernel
theorem dX4_reads_383 : decode cX4_reads 383 = .ok (.getfield 43, 3) := by decide +kernel
theorem dX4_reads_386 : decode cX4_reads 386 = .ok (.aload_n 0, 1) := by decide +kernel
theorem dX4_reads_387 : decode cX4_reads 387 = .ok (.getfield 125, 3) := by decide +kernel
theorem dX4_reads_390 : decode cX4_reads 390 = .ok (.iconst 1, 1) := by decide +kernel
theorem dX4_reads_391 : decode cX4_reads 391 = .ok (.isub, 1) := by decide +kernel
theorem dX4_reads_392 : decode cX4_reads 392 = .ok (.iaload, 1) := by decide +kernel
theorem dX4_reads_393 : decode cX4_reads 393 = .ok (.invokestatic 131, 3) := by decide +kernel
theorem dX4_reads_396 : decode cX4_reads 396 = .ok (.iconst 3, 1) := by decide +kernel
theorem dX4_reads_397 : decode cX4_reads 397 = .ok (.if_icmp .ne 19, 3) := by decide +kernel
theorem dX4_reads_400 : decode cX4_reads 400 = .ok (.aload_n 0, 1) := by decide +kernel
theorem dX4_reads_401 : decode cX4_reads 401 = .ok (.bipush 10, 2) := by decide +kernel
theorem dX4_reads_403 : decode cX4_reads 403 = .ok (.aload_n 0, 1) := by decide +kernel
theorem dX4_reads_404 : decode cX4_reads 404 = .ok (.getfield 122, 3) := by decide +kernel
theorem dX4_reads_407 : decode cX4_reads 407 = .ok (.imul, 1) := by decide +kernel
theorem dX4_reads_408 : decode cX4_reads 408 = .ok (.iconst 1, 1) := by decide +kernel
theorem dX4_reads_409 : decode cX4_reads 409 = .ok (.iadd, 1) := by decide +kernel
theorem dX4_reads_410 : decode cX4_reads 410 = .ok (.putfield 142, 3) := by decide +kernel
theorem dX4_reads_413 : decode cX4_reads 413 = .ok (.goto 72, 3) := by decide +kernel
theorem dX4_reads_416 : decode cX4_reads 416 = .ok (.aload_n 0, 1) := by decide +kernel
theorem dX4_reads_417 : decode cX4_reads 417 = .ok (.dup, 1) := by decide +kernel
theorem dX4_reads_418 : decode cX4_reads 418 = .ok (.getfield 122, 3) := by decide +kernel
theorem dX4_reads_421 : decode cX4_reads 421 = .ok (.iconst 1, 1) := by decide +kernel
theorem dX4_reads_422 : decode cX4_reads 422 = .ok (.iadd, 1) := by decide +kernel
theorem dX4_reads_423 : decode cX4_reads 423 = .ok (.putfield 122, 3) := by decide +kernel
theorem dX4_reads_426 : decode cX4_reads 426 = .ok (.aload_n 0, 1) := by decide +kernel
theorem dX4_reads_427 : decode cX4_reads 427 = .ok (.getfield 43, 3) := by decide +kernel
theorem dX4_reads_430 : decode cX4_reads 430 = .ok (.aload_n 0, 1) := by decide +kernel
theorem dX4_reads_431 : decode cX4_reads 431 = .ok (.getfield 125, 3) := by decide +kernel
theorem dX4_reads_434 : decode cX4_reads 434 = .ok (.iload 4, 2) := by decide +kernel
theorem dX4_reads_436 : decode cX4_reads 436 = .ok (.iastore, 1) := by decide +kernel
theorem dX4_reads_437 : decode cX4_reads 437 = .ok (.aload_n 0, 1) := by decide +kernel
theorem dX4_reads_438 : decode cX4_reads 438 = .ok (.dup, 1) := by decide +kernel
theorem dX4_reads_439 : decode cX4_reads 439 = .ok (.getfield 125, 3) := by decide +kernel
theorem dX4_reads_442 : decode cX4_reads 442 = .ok (.iconst 1, 1) := by decide +kernel
theorem dX4_reads_443 : decode cX4_reads 443 = .ok (.iadd, 1) := by decide +kernel
theorem dX4_reads_444 : decode cX4_reads 444 = .ok (.putfield 125, 3) := by decide +kernel
theorem dX4_reads_447 : decode cX4_reads 447 = .ok (.iconst 1, 1) := by decide +kernel
theorem dX4_reads_448 : decode cX4_reads 448 = .ok (.istore_n 2, 1) := by decide +kernel
theorem dX4_reads_449 : decode cX4_reads 449 = .ok (.goto 36, 3) := by decide +kernel
theorem dX4_reads_452 : decode cX4_reads 452 = .ok (.iload 4, 2) := by decide +kernel
theorem dX4_reads_454 : decode cX4_reads 454 = .ok (.iconst (-1), 1) := by decide +kernel
theorem dX4_reads_455 : decode cX4_reads 455 = .ok (.if_icmp .ne 17, 3) := by decide +kernel
theorem dX4_reads_458 : decode cX4_reads 458 = .ok (.iload_n 1, 1) := by decide +kernel
theorem dX4_reads_459 : decode cX4_reads 459 = .ok (.ifCond .ne 13, 3) := by decide +kernel
theorem dX4_reads_462 : decode cX4_reads 462 = .ok (.aload_n 0, 1) := by decide +kernel
theorem dX4_reads_463 : decode cX4_reads 463 = .ok (.iconst 1, 1) := by decide +kernel
theorem dX4_reads_464 : decode cX4_reads 464 = .ok (.invokevirtual 162, 3) := by decide +kernel
theorem dX4_reads_467 : decode cX4_reads 467 = .ok (.iconst 0, 1) := by decide +kernel
theorem dX4_reads_468 : decode cX4_reads 468 = .ok (.istore_n 3, 1) := by decide +kernel
theorem dX4_reads_469 : decode cX4_reads 469 = .ok (.goto 16, 3) := by decide +kernel
theorem dX4_reads_472 : decode cX4_reads 472 = .ok (.aload_n 0, 1) := by decide +kernel
theorem dX4_reads_473 : decode cX4_reads 473 = .ok (.bipush 10, 2) := by decide +kernel
theorem dX4_reads_475 : decode cX4_reads 475 = .ok (.aload_n 0, 1) := by decide +kernel
theorem dX4_reads_476 : decode cX4_reads 476 = .ok (.getfield 122, 3) := by decide +kernel
theorem dX4_reads_479 : decode cX4_reads 479 = .ok (.imul, 1) := by decide +kernel
theorem dX4_reads_480 : decode cX4_reads 480 = .ok (.iconst 1, 1) := by decide +kernel
theorem dX4_reads_481 : decode cX4_reads 481 = .ok (.iadd, 1) := by decide +kernel
theorem dX4_reads_482 : decode cX4_reads 482 = .ok (.putfield 142, 3) := by decide +kernel
theorem dX4_reads_485 : decode cX4_reads 485 = .ok (.goto (-459), 3) := by decide +kernel
theorem dX4_reads_488 : decode cX4_reads 488 = .ok (.aload_n 0, 1) := by decide +kernel
theorem dX4_reads_489 : decode cX4_reads 489 = .ok (.aload_n 0, 1) := by decide +kernel
theorem dX4_reads_490 : decode cX4_reads 490 = .ok (.getfield 142, 3) := by decide +kernel
theorem dX4_reads_493 : decode cX4_reads 493 = .ok (.iconst (-1), 1) := by decide +kernel
theorem dX4_reads_494 : decode cX4_reads 494 = .ok (.if_icmp .ne 12, 3) := by decide +kernel
theorem dX4_reads_497 : decode cX4_reads 497 = .ok (.aload_n 0, 1) := by decide +kernel
theorem dX4_reads_498 : decode cX4_reads 498 = .ok (.getfield 39, 3) := by decide +kernel
theorem dX4_reads_501 : decode cX4_reads 501 = .ok (.iconst 0, 1) := by decide +kernel
theorem dX4_reads_502 : decode cX4_reads 502 = .ok (.laload, 1) := by decide +kernel
theorem dX4_reads_503 : decode cX4_reads 503 = .ok (.goto 4, 3) := by decide +kernel
theorem dX4_reads_506 : decode cX4_reads 506 = .ok (.lconst 0, 1) := by decide +kernel
theorem dX4_reads_507 : decode cX4_reads 507 = .ok (.putfield 166, 3) := by decide +kernel
theorem dX4_reads_510 : decode cX4_reads 510 = .ok (.aload_n 0, 1) := by decide +kernel
theorem dX4_reads_511 : decode cX4_reads 511 = .ok (.getfield 142, 3) := by decide +kernel
theorem dX4_reads_514 : decode cX4_reads 514 = .ok (.iconst (-1), 1) := by decide +kernel
theorem dX4_reads_515 : decode cX4_reads 515 = .ok (.if_icmp .ne 7, 3) := by decide +kernel
theorem dX4_reads_518 : decode cX4_reads 518 = .ok (.iconst 1, 1) := by decide +kernel
theorem dX4_reads_519 : decode cX4_reads 519 = .ok (.goto 4, 3) := by decide +kernel
theorem dX4_reads_522 : decode cX4_reads 522 = .ok (.iconst 0, 1) := by decide +kernel
theorem dX4_reads_523 : decode cX4_reads 523 = .ok (.ireturn, 1) := by decide +kernel
theorem dX4_fault_0 : decode cX4_fault 0 = .ok (.aload_n 0, 1) := by decide +kernel
theorem dX4_fault_1 : decode cX4_fault 1 = .ok (.invokevirtual 169, 3) := by decide +kernel
theorem dX4_fault_4 : decode cX4_fault 4 = .ok (.istore_n 1, 1) := by decide +kernel
theorem dX4_fault_5 : decode cX4_fault 5 = .ok (.aload_n 0, 1) := by decide +kernel
theorem dX4_fault_6 : decode cX4_fault 6 = .ok (.getfield 142, 3) := by decide +kernel
theorem dX4_fault_9 : decode cX4_fault 9 = .ok (.ireturn, 1) := by decide +kernel
theorem dX4_layOut_0 : decode cX4_layOut 0 = .ok (.iconst 0, 1) := by decide +kernel
theorem dX4_layOut_1 : decode cX4_layOut 1 = .ok (.istore_n 3, 1) := by decide +kernel
theorem dX4_layOut_2 : decode cX4_layOut 2 = .ok (.iload_n 3, 1) := by decide +kernel
theorem dX4_layOut_3 : decode cX4_layOut 3 = .ok (.aload_n 0, 1) := by decide +kernel
theorem dX4_layOut_4 : decode cX4_layOut 4 = .ok (.getfield 7, 3) := by decide +kernel
theorem dX4_layOut_7 : decode cX4_layOut 7 = .ok (.if_icmp .gt 92, 3) := by decide +kernel
theorem dX4_layOut_10 : decode cX4_layOut 10 = .ok (.aload_n 0, 1) := by decide +kernel
theorem dX4_layOut_11 : decode cX4_layOut 11 = .ok (.getfield 49, 3) := by decide +kernel
theorem dX4_layOut_14 : decode cX4_layOut 14 = .ok (.iload_n 3, 1) := by decide +kernel
theorem dX4_layOut_15 : decode cX4_layOut 15 = .ok (.aload_n 0, 1) := by decide +kernel
theorem dX4_layOut_16 : decode cX4_layOut 16 = .ok (.iconst 0, 1) := by decide +kernel
theorem dX4_layOut_17 : decode cX4_layOut 17 = .ok (.iload_n 1, 1) := by decide +kernel
theorem dX4_layOut_18 : decode cX4_layOut 18 = .ok (.iload_n 3, 1) := by decide +kernel
theorem dX4_layOut_19 : decode cX4_layOut 19 = .ok (.invokevirtual 101, 3) := by decide +kernel
theorem dX4_layOut_22 : decode cX4_layOut 22 = .ok (.ifCond .eq 22, 3) := by decide +kernel
theorem dX4_layOut_25 : decode cX4_layOut 25 = .ok (.aload_n 0, 1) := by decide +kernel
theorem dX4_layOut_26 : decode cX4_layOut 26 = .ok (.iconst 1, 1) := by decide +kernel
theorem dX4_layOut_27 : decode cX4_layOut 27 = .ok (.iload_n 2, 1) := by decide +kernel
theorem dX4_layOut_28 : decode cX4_layOut 28 = .ok (.aload_n 0, 1) := by decide +kernel
theorem dX4_layOut_29 : decode cX4_layOut 29 = .ok (.getfield 7, 3) := by decide +kernel
theorem dX4_layOut_32 : decode cX4_layOut 32 = .ok (.iload_n 3, 1) := by decide +kernel
theorem dX4_layOut_33 : decode cX4_layOut 33 = .ok (.isub, 1) := by decide +kernel
theorem dX4_layOut_34 : decode cX4_layOut 34 = .ok (.invokevirtual 101, 3) := by decide +kernel
theorem dX4_layOut_37 : decode cX4_layOut 37 = .ok (.ifCond .eq 7, 3) := by decide +kernel
theorem dX4_layOut_40 : decode cX4_layOut 40 = .ok (.iconst 1, 1) := by decide +kernel
theorem dX4_layOut_41 : decode cX4_layOut 41 = .ok (.goto 4, 3) := by decide +kernel
theorem dX4_layOut_44 : decode cX4_layOut 44 = .ok (.iconst 0, 1) := by decide +kernel
theorem dX4_layOut_45 : decode cX4_layOut 45 = .ok (.bastore, 1) := by decide +kernel
theorem dX4_layOut_46 : decode cX4_layOut 46 = .ok (.aload_n 0, 1) := by decide +kernel
theorem dX4_layOut_47 : decode cX4_layOut 47 = .ok (.getfield 53, 3) := by decide +kernel
theorem dX4_layOut_50 : decode cX4_layOut 50 = .ok (.iload_n 3, 1) := by decide +kernel
theorem dX4_layOut_51 : decode cX4_layOut 51 = .ok (.aload_n 0, 1) := by decide +kernel
theorem dX4_layOut_52 : decode cX4_layOut 52 = .ok (.iconst 0, 1) := by decide +kernel
theorem dX4_layOut_53 : decode cX4_layOut 53 = .ok (.iload_n 1, 1) := by decide +kernel
theorem dX4_layOut_54 : decode cX4_layOut 54 = .ok (.iload_n 3, 1) := by decide +kernel
theorem dX4_layOut_55 : decode cX4_layOut 55 = .ok (.invokevirtual 97, 3) := by decide +kernel
theorem dX4_layOut_58 : decode cX4_layOut 58 = .ok (.aload_n 0, 1) := by decide +kernel
theorem dX4_layOut_59 : decode cX4_layOut 59 = .ok (.iconst 0, 1) := by decide +kernel
theorem dX4_layOut_60 : decode cX4_layOut 60 = .ok (.iload_n 1, 1) := by decide +kernel
theorem dX4_layOut_61 : decode cX4_layOut 61 = .ok (.iconst 4, 1) := by decide +kernel
theorem dX4_layOut_62 : decode cX4_layOut 62 = .ok (.invokevirtual 75, 3) := by decide +kernel
theorem dX4_layOut_65 : decode cX4_layOut 65 = .ok (.isub, 1) := by decide +kernel
theorem dX4_layOut_66 : decode cX4_layOut 66 = .ok (.iastore, 1) := by decide +kernel
theorem dX4_layOut_67 : decode cX4_layOut 67 = .ok (.aload_n 0, 1) := by decide +kernel
theorem dX4_layOut_68 : decode cX4_layOut 68 = .ok (.getfield 56, 3) := by decide +kernel
theorem dX4_layOut_71 : decode cX4_layOut 71 = .ok (.iload_n 3, 1) := by decide +kernel
theorem dX4_layOut_72 : decode cX4_layOut 72 = .ok (.aload_n 0, 1) := by decide +kernel
theorem dX4_layOut_73 : decode cX4_layOut 73 = .ok (.iconst 1, 1) := by decide +kernel
theorem dX4_layOut_74 : decode cX4_layOut 74 = .ok (.iload_n 2, 1) := by decide +kernel
theorem dX4_layOut_75 : decode cX4_layOut 75 = .ok (.aload_n 0, 1) := by decide +kernel
theorem dX4_layOut_76 : decode cX4_layOut 76 = .ok (.getfield 7, 3) := by decide +kernel
theorem dX4_layOut_79 : decode cX4_layOut 79 = .ok (.iload_n 3, 1) := by decide +kernel
theorem dX4_layOut_80 : decode cX4_layOut 80 = .ok (.isub, 1) := by decide +kernel
theorem dX4_layOut_81 : decode cX4_layOut 81 = .ok (.invokevirtual 97, 3) := by decide +kernel
theorem dX4_layOut_84 : decode cX4_layOut 84 = .ok (.aload_n 0, 1) := by decide +kernel
theorem dX4_layOut_85 : decode cX4_layOut 85 = .ok (.iconst 1, 1) := by decide +kernel
theorem dX4_layOut_86 : decode cX4_layOut 86 = .ok (.iload_n 2, 1) := by decide +kernel
theorem dX4_layOut_87 : decode cX4_layOut 87 = .ok (.iconst 4, 1) := by decide +kernel
theorem dX4_layOut_88 : decode cX4_layOut 88 = .ok (.invokevirtual 75, 3) := by decide +kernel
theorem dX4_layOut_91 : decode cX4_layOut 91 = .ok (.isub, 1) := by decide +kernel
theorem dX4_layOut_92 : decode cX4_layOut 92 = .ok (.iastore, 1) := by decide +kernel
theorem dX4_layOut_93 : decode cX4_layOut 93 = .ok (.iinc 3 1, 3) := by decide +kernel
theorem dX4_layOut_96 : decode cX4_layOut 96 = .ok (.goto (-94), 3) := by decide +kernel
theorem dX4_layOut_99 : decode cX4_layOut 99 = .ok (.return_, 1) := by decide +kernel
theorem dX4_settleTwo_0 : decode cX4_settleTwo 0 = .ok (.aload_n 0, 1) := by decide +kernel
theorem dX4_settleTwo_1 : decode cX4_settleTwo 1 = .ok (.iload_n 1, 1) := by decide +kernel
theorem dX4_settleTwo_2 : decode cX4_settleTwo 2 = .ok (.iload_n 2, 1) := by decide +kernel
theorem dX4_settleTwo_3 : decode cX4_settleTwo 3 = .ok (.invokevirtual 173, 3) := by decide +kernel
theorem dX4_settleTwo_6 : decode cX4_settleTwo 6 = .ok (.aload_n 0, 1) := by decide +kernel
theorem dX4_settleTwo_7 : decode cX4_settleTwo 7 = .ok (.aload_n 0, 1) := by decide +kernel
theorem dX4_settleTwo_8 : decode cX4_settleTwo 8 = .ok (.iconst 0, 1) := by decide +kernel
theorem dX4_settleTwo_9 : decode cX4_settleTwo 9 = .ok (.iload_n 1, 1) := by decide +kernel
theorem dX4_settleTwo_10 : decode cX4_settleTwo 10 = .ok (.iconst 4, 1) := by decide +kernel
theorem dX4_settleTwo_11 : decode cX4_settleTwo 11 = .ok (.invokevirtual 75, 3) := by decide +kernel
theorem dX4_settleTwo_14 : decode cX4_settleTwo 14 = .ok (.aload_n 0, 1) := by decide +kernel
theorem dX4_settleTwo_15 : decode cX4_settleTwo 15 = .ok (.iconst 1, 1) := by decide +kernel
theorem dX4_settleTwo_16 : decode cX4_settleTwo 16 = .ok (.iload_n 2, 1) := by decide +kernel
theorem dX4_settleTwo_17 : decode cX4_settleTwo 17 = .ok (.iconst 4, 1) := by decide +kernel
theorem dX4_settleTwo_18 : decode cX4_settleTwo 18 = .ok (.invokevirtual 75, 3) := by decide +kernel
theorem dX4_settleTwo_21 : decode cX4_settleTwo 21 = .ok (.invokevirtual 177, 3) := by decide +kernel
theorem dX4_settleTwo_24 : decode cX4_settleTwo 24 = .ok (.return_, 1) := by decide +kernel
theorem dX4_settleBy_0 : decode cX4_settleBy 0 = .ok (.aload_n 0, 1) := by decide +kernel
theorem dX4_settleBy_1 : decode cX4_settleBy 1 = .ok (.bipush (-5), 2) := by decide +kernel
theorem dX4_settleBy_3 : decode cX4_settleBy 3 = .ok (.putfield 180, 3) := by decide +kernel
theorem dX4_settleBy_6 : decode cX4_settleBy 6 = .ok (.aload_n 0, 1) := by decide +kernel
theorem dX4_settleBy_7 : decode cX4_settleBy 7 = .ok (.bipush (-5), 2) := by decide +kernel
theorem dX4_settleBy_9 : decode cX4_settleBy 9 = .ok (.putfield 183, 3) := by decide +kernel
theorem dX4_settleBy_12 : decode cX4_settleBy 12 = .ok (.aload_n 0, 1) := by decide +kernel
theorem dX4_settleBy_13 : decode cX4_settleBy 13 = .ok (.iconst (-1), 1) := by decide +kernel
theorem dX4_settleBy_14 : decode cX4_settleBy 14 = .ok (.putfield 186, 3) := by decide +kernel
theorem dX4_settleBy_17 : decode cX4_settleBy 17 = .ok (.aload_n 0, 1) := by decide +kernel
theorem dX4_settleBy_18 : decode cX4_settleBy 18 = .ok (.getfield 111, 3) := by decide +kernel
theorem dX4_settleBy_21 : decode cX4_settleBy 21 = .ok (.ifCond .ne 10, 3) := by decide +kernel
theorem dX4_settleBy_24 : decode cX4_settleBy 24 = .ok (.aload_n 0, 1) := by decide +kernel
theorem dX4_settleBy_25 : decode cX4_settleBy 25 = .ok (.invokevirtual 189, 3) := by decide +kernel
theorem dX4_settleBy_28 : decode cX4_settleBy 28 = .ok (.goto 57, 3) := by decide +kernel
theorem dX4_settleBy_31 : decode cX4_settleBy 31 = .ok (.aload_n 0, 1) := by decide +kernel
theorem dX4_settleBy_32 : decode cX4_settleBy 32 = .ok (.getfield 111, 3) := by decide +kernel
theorem dX4_settleBy_35 : decode cX4_settleBy 35 = .ok (.iconst 1, 1) := by decide +kernel
theorem dX4_settleBy_36 : decode cX4_settleBy 36 = .ok (.if_icmp .ne 10, 3) := by decide +kernel
theorem dX4_settleBy_39 : decode cX4_settleBy 39 = .ok (.aload_n 0, 1) := by decide +kernel
theorem dX4_settleBy_40 : decode cX4_settleBy 40 = .ok (.invokevirtual 192, 3) := by decide +kernel
theorem dX4_settleBy_43 : decode cX4_settleBy 43 = .ok (.goto 42, 3) := by decide +kernel
theorem dX4_settleBy_46 : decode cX4_settleBy 46 = .ok (.aload_n 0, 1) := by decide +kernel
theorem dX4_settleBy_47 : decode cX4_settleBy 47 = .ok (.getfield 111, 3) := by decide +kernel
theorem dX4_settleBy_50 : decode cX4_settleBy 50 = .ok (.iconst 2, 1) := by decide +kernel
theorem dX4_settleBy_51 : decode cX4_settleBy 51 = .ok (.if_icmp .ne 28, 3) := by decide +kernel
theorem dX4_settleBy_54 : decode cX4_settleBy 54 = .ok (.aload_n 0, 1) := by decide +kernel
theorem dX4_settleBy_55 : decode cX4_settleBy 55 = .ok (.aload_n 0, 1) := by decide +kernel
theorem dX4_settleBy_56 : decode cX4_settleBy 56 = .ok (.iconst 0, 1) := by decide +kernel
theorem dX4_settleBy_57 : decode cX4_settleBy 57 = .ok (.ldc 195, 2) := by decide +kernel
theorem dX4_settleBy_59 : decode cX4_settleBy 59 = .ok (.invokevirtual 196, 3) := by decide +kernel
theorem dX4_settleBy_62 : decode cX4_settleBy 62 = .ok (.putfield 180, 3) := by decide +kernel
theorem dX4_settleBy_65 : decode cX4_settleBy 65 = .ok (.aload_n 0, 1) := by decide +kernel
theorem dX4_settleBy_66 : decode cX4_settleBy 66 = .ok (.aload_n 0, 1) := by decide +kernel
theorem dX4_settleBy_67 : decode cX4_settleBy 67 = .ok (.iconst 1, 1) := by decide +kernel
theorem dX4_settleBy_68 : decode cX4_settleBy 68 = .ok (.ldc 195, 2) := by decide +kernel
theorem dX4_settleBy_70 : decode cX4_settleBy 70 = .ok (.invokevirtual 196, 3) := by decide +kernel
theorem dX4_settleBy_73 : decode cX4_settleBy 73 = .ok (.putfield 183, 3) := by decide +kernel
theorem dX4_settleBy_76 : decode cX4_settleBy 76 = .ok (.goto 9, 3) := by decide +kernel
theorem dX4_settleBy_79 : decode cX4_settleBy 79 = .ok (.aload_n 0, 1) := by decide +kernel
theorem dX4_settleBy_80 : decode cX4_settleBy 80 = .ok (.iload_n 1, 1) := by decide +kernel
theorem dX4_settleBy_81 : decode cX4_settleBy 81 = .ok (.iload_n 2, 1) := by decide +kernel
theorem dX4_settleBy_82 : decode cX4_settleBy 82 = .ok (.invokevirtual 200, 3) := by decide +kernel
theorem dX4_settleBy_85 : decode cX4_settleBy 85 = .ok (.return_, 1) := by decide +kernel
theorem dX4_byProducts_0 : decode cX4_byProducts 0 = .ok (.lconst 0, 1) := by decide +kernel
theorem dX4_byProducts_1 : decode cX4_byProducts 1 = .ok (.lstore_n 1, 1) := by decide +kernel
theorem dX4_byProducts_2 : decode cX4_byProducts 2 = .ok (.iconst 0, 1) := by decide +kernel
theorem dX4_byProducts_3 : decode cX4_byProducts 3 = .ok (.istore_n 3, 1) := by decide +kernel
theorem dX4_byProducts_4 : decode cX4_byProducts 4 = .ok (.iload_n 3, 1) := by decide +kernel
theorem dX4_byProducts_5 : decode cX4_byProducts 5 = .ok (.aload_n 0, 1) := by decide +kernel
theorem dX4_byProducts_6 : decode cX4_byProducts 6 = .ok (.getfield 7, 3) := by decide +kernel
theorem dX4_byProducts_9 : decode cX4_byProducts 9 = .ok (.if_icmp .gt 59, 3) := by decide +kernel
theorem dX4_byProducts_12 : decode cX4_byProducts 12 = .ok (.aload_n 0, 1) := by decide +kernel
theorem dX4_byProducts_13 : decode cX4_byProducts 13 = .ok (.getfield 53, 3) := by decide +kernel
theorem dX4_byProducts_16 : decode cX4_byProducts 16 = .ok (.iload_n 3, 1) := by decide +kernel
theorem dX4_byProducts_17 : decode cX4_byProducts 17 = .ok (.iaload, 1) := by decide +kernel
theorem dX4_byProducts_18 : decode cX4_byProducts 18 = .ok (.i2l, 1) := by decide +kernel
theorem dX4_byProducts_19 : decode cX4_byProducts 19 = .ok (.aload_n 0, 1) := by decide +kernel
theorem dX4_byProducts_20 : decode cX4_byProducts 20 = .ok (.getfield 56, 3) := by decide +kernel
theorem dX4_byProducts_23 : decode cX4_byProducts 23 = .ok (.iload_n 3, 1) := by decide +kernel
theorem dX4_byProducts_24 : decode cX4_byProducts 24 = .ok (.iaload, 1) := by decide +kernel
theorem dX4_byProducts_25 : decode cX4_byProducts 25 = .ok (.i2l, 1) := by decide +kernel
theorem dX4_byProducts_26 : decode cX4_byProducts 26 = .ok (.lmul, 1) := by decide +kernel
theorem dX4_byProducts_27 : decode cX4_byProducts 27 = .ok (.lstore 4, 2) := by decide +kernel
theorem dX4_byProducts_29 : decode cX4_byProducts 29 = .ok (.aload_n 0, 1) := by decide +kernel
theorem dX4_byProducts_30 : decode cX4_byProducts 30 = .ok (.getfield 49, 3) := by decide +kernel
theorem dX4_byProducts_33 : decode cX4_byProducts 33 = .ok (.iload_n 3, 1) := by decide +kernel
theorem dX4_byProducts_34 : decode cX4_byProducts 34 = .ok (.baload, 1) := by decide +kernel
theorem dX4_byProducts_35 : decode cX4_byProducts 35 = .ok (.ifCond .eq 27, 3) := by decide +kernel
theorem dX4_byProducts_38 : decode cX4_byProducts 38 = .ok (.aload_n 0, 1) := by decide +kernel
theorem dX4_byProducts_39 : decode cX4_byProducts 39 = .ok (.getfield 180, 3) := by decide +kernel
theorem dX4_byProducts_42 : decode cX4_byProducts 42 = .ok (.bipush (-5), 2) := by decide +kernel
theorem dX4_byProducts_44 : decode cX4_byProducts 44 = .ok (.if_icmp .eq 10, 3) := by decide +kernel
theorem dX4_byProducts_47 : decode cX4_byProducts 47 = .ok (.lload 4, 2) := by decide +kernel
theorem dX4_byProducts_49 : decode cX4_byProducts 49 = .ok (.lload_n 1, 1) := by decide +kernel
theorem dX4_byProducts_50 : decode cX4_byProducts 50 = .ok (.lcmp, 1) := by decide +kernel
theorem dX4_byProducts_51 : decode cX4_byProducts 51 = .ok (.ifCond .le 11, 3) := by decide +kernel
theorem dX4_byProducts_54 : decode cX4_byProducts 54 = .ok (.aload_n 0, 1) := by decide +kernel
theorem dX4_byProducts_55 : decode cX4_byProducts 55 = .ok (.iload_n 3, 1) := by decide +kernel
theorem dX4_byProducts_56 : decode cX4_byProducts 56 = .ok (.putfield 180, 3) := by decide +kernel
theorem dX4_byProducts_59 : decode cX4_byProducts 59 = .ok (.lload 4, 2) := by decide +kernel
theorem dX4_byProducts_61 : decode cX4_byProducts 61 = .ok (.lstore_n 1, 1) := by decide +kernel
theorem dX4_byProducts_62 : decode cX4_byProducts 62 = .ok (.iinc 3 1, 3) := by decide +kernel
theorem dX4_byProducts_65 : decode cX4_byProducts 65 = .ok (.goto (-61), 3) := by decide +kernel
theorem dX4_byProducts_68 : decode cX4_byProducts 68 = .ok (.return_, 1) := by decide +kernel
theorem dX4_gainOf_0 : decode cX4_gainOf 0 = .ok (.iload_n 1, 1) := by decide +kernel
theorem dX4_gainOf_1 : decode cX4_gainOf 1 = .ok (.ifCond .ne 12, 3) := by decide +kernel
theorem dX4_gainOf_4 : decode cX4_gainOf 4 = .ok (.aload_n 0, 1) := by decide +kernel
theorem dX4_gainOf_5 : decode cX4_gainOf 5 = .ok (.getfield 53, 3) := by decide +kernel
theorem dX4_gainOf_8 : decode cX4_gainOf 8 = .ok (.iload_n 2, 1) := by decide +kernel
theorem dX4_gainOf_9 : decode cX4_gainOf 9 = .ok (.iaload, 1) := by decide +kernel
theorem dX4_gainOf_10 : decode cX4_gainOf 10 = .ok (.goto 9, 3) := by decide +kernel
theorem dX4_gainOf_13 : decode cX4_gainOf 13 = .ok (.aload_n 0, 1) := by decide +kernel
theorem dX4_gainOf_14 : decode cX4_gainOf 14 = .ok (.getfield 56, 3) := by decide +kernel
theorem dX4_gainOf_17 : decode cX4_gainOf 17 = .ok (.iload_n 2, 1) := by decide +kernel
theorem dX4_gainOf_18 : decode cX4_gainOf 18 = .ok (.iaload, 1) := by decide +kernel
theorem dX4_gainOf_19 : decode cX4_gainOf 19 = .ok (.ireturn, 1) := by decide +kernel
theorem dX4_bestFor_0 : decode cX4_bestFor 0 = .ok (.bipush (-5), 2) := by decide +kernel
theorem dX4_bestFor_2 : decode cX4_bestFor 2 = .ok (.istore_n 3, 1) := by decide +kernel
theorem dX4_bestFor_3 : decode cX4_bestFor 3 = .ok (.iconst 0, 1) := by decide +kernel
theorem dX4_bestFor_4 : decode cX4_bestFor 4 = .ok (.istore 4, 2) := by decide +kernel
theorem dX4_bestFor_6 : decode cX4_bestFor 6 = .ok (.iload 4, 2) := by decide +kernel
theorem dX4_bestFor_8 : decode cX4_bestFor 8 = .ok (.aload_n 0, 1) := by decide +kernel
theorem dX4_bestFor_9 : decode cX4_bestFor 9 = .ok (.getfield 7, 3) := by decide +kernel
theorem dX4_bestFor_12 : decode cX4_bestFor 12 = .ok (.if_icmp .gt 57, 3) := by decide +kernel
theorem dX4_bestFor_15 : decode cX4_bestFor 15 = .ok (.aload_n 0, 1) := by decide +kernel
theorem dX4_bestFor_16 : decode cX4_bestFor 16 = .ok (.getfield 49, 3) := by decide +kernel
theorem dX4_bestFor_19 : decode cX4_bestFor 19 = .ok (.iload 4, 2) := by decide +kernel
theorem dX4_bestFor_21 : decode cX4_bestFor 21 = .ok (.baload, 1) := by decide +kernel
theorem dX4_bestFor_22 : decode cX4_bestFor 22 = .ok (.ifCond .eq 41, 3) := by decide +kernel
theorem dX4_bestFor_25 : decode cX4_bestFor 25 = .ok (.aload_n 0, 1) := by decide +kernel
theorem dX4_bestFor_26 : decode cX4_bestFor 26 = .ok (.iconst 1, 1) := by decide +kernel
theorem dX4_bestFor_27 : decode cX4_bestFor 27 = .ok (.iload_n 1, 1) := by decide +kernel
theorem dX4_bestFor_28 : decode cX4_bestFor 28 = .ok (.isub, 1) := by decide +kernel
theorem dX4_bestFor_29 : decode cX4_bestFor 29 = .ok (.iload 4, 2) := by decide +kernel
theorem dX4_bestFor_31 : decode cX4_bestFor 31 = .ok (.invokevirtual 203, 3) := by decide +kernel
theorem dX4_bestFor_34 : decode cX4_bestFor 34 = .ok (.iload_n 2, 1) := by decide +kernel
theorem dX4_bestFor_35 : decode cX4_bestFor 35 = .ok (.if_icmp .lt 28, 3) := by decide +kernel
theorem dX4_bestFor_38 : decode cX4_bestFor 38 = .ok (.iload_n 3, 1) := by decide +kernel
theorem dX4_bestFor_39 : decode cX4_bestFor 39 = .ok (.bipush (-5), 2) := by decide +kernel
theorem dX4_bestFor_41 : decode cX4_bestFor 41 = .ok (.if_icmp .eq 19, 3) := by decide +kernel
theorem dX4_bestFor_44 : decode cX4_bestFor 44 = .ok (.aload_n 0, 1) := by decide +kernel
theorem dX4_bestFor_45 : decode cX4_bestFor 45 = .ok (.iload_n 1, 1) := by decide +kernel
theorem dX4_bestFor_46 : decode cX4_bestFor 46 = .ok (.iload 4, 2) := by decide +kernel
theorem dX4_bestFor_48 : decode cX4_bestFor 48 = .ok (.invokevirtual 203, 3) := by decide +kernel
theorem dX4_bestFor_51 : decode cX4_bestFor 51 = .ok (.aload_n 0, 1) := by decide +kernel
theorem dX4_bestFor_52 : decode cX4_bestFor 52 = .ok (.iload_n 1, 1) := by decide +kernel
theorem dX4_bestFor_53 : decode cX4_bestFor 53 = .ok (.iload_n 3, 1) := by decide +kernel
theorem dX4_bestFor_54 : decode cX4_bestFor 54 = .ok (.invokevirtual 203, 3) := by decide +kernel
theorem dX4_bestFor_57 : decode cX4_bestFor 57 = .ok (.if_icmp .le 6, 3) := by decide +kernel
theorem dX4_bestFor_60 : decode cX4_bestFor 60 = .ok (.iload 4, 2) := by decide +kernel
theorem dX4_bestFor_62 : decode cX4_bestFor 62 = .ok (.istore_n 3, 1) := by decide +kernel
theorem dX4_bestFor_63 : decode cX4_bestFor 63 = .ok (.iinc 4 1, 3) := by decide +kernel
theorem dX4_bestFor_66 : decode cX4_bestFor 66 = .ok (.goto (-60), 3) := by decide +kernel
theorem dX4_bestFor_69 : decode cX4_bestFor 69 = .ok (.iload_n 3, 1) := by decide +kernel
theorem dX4_bestFor_70 : decode cX4_bestFor 70 = .ok (.ireturn, 1) := by decide +kernel
theorem dX4_byOffers_0 : decode cX4_byOffers 0 = .ok (.iconst 0, 1) := by decide +kernel
theorem dX4_byOffers_1 : decode cX4_byOffers 1 = .ok (.istore_n 1, 1) := by decide +kernel
theorem dX4_byOffers_2 : decode cX4_byOffers 2 = .ok (.iconst 0, 1) := by decide +kernel
theorem dX4_byOffers_3 : decode cX4_byOffers 3 = .ok (.istore_n 2, 1) := by decide +kernel
theorem dX4_byOffers_4 : decode cX4_byOffers 4 = .ok (.aload_n 0, 1) := by decide +kernel
theorem dX4_byOffers_5 : decode cX4_byOffers 5 = .ok (.getfield 23, 3) := by decide +kernel
theorem dX4_byOffers_8 : decode cX4_byOffers 8 = .ok (.iconst 1, 1) := by decide +kernel
theorem dX4_byOffers_9 : decode cX4_byOffers 9 = .ok (.isub, 1) := by decide +kernel
theorem dX4_byOffers_10 : decode cX4_byOffers 10 = .ok (.istore_n 3, 1) := by decide +kernel
theorem dX4_byOffers_11 : decode cX4_byOffers 11 = .ok (.iload_n 3, 1) := by decide +kernel
theorem dX4_byOffers_12 : decode cX4_byOffers 12 = .ok (.ifCond .lt 127, 3) := by decide +kernel
theorem dX4_byOffers_15 : decode cX4_byOffers 15 = .ok (.iload_n 3, 1) := by decide +kernel
theorem dX4_byOffers_16 : decode cX4_byOffers 16 = .ok (.iconst 2, 1) := by decide +kernel
theorem dX4_byOffers_17 : decode cX4_byOffers 17 = .ok (.irem, 1) := by decide +kernel
theorem dX4_byOffers_18 : decode cX4_byOffers 18 = .ok (.istore 4, 2) := by decide +kernel
theorem dX4_byOffers_20 : decode cX4_byOffers 20 = .ok (.aload_n 0, 1) := by decide +kernel
theorem dX4_byOffers_21 : decode cX4_byOffers 21 = .ok (.iload 4, 2) := by decide +kernel
theorem dX4_byOffers_23 : decode cX4_byOffers 23 = .ok (.iload 4, 2) := by decide +kernel
theorem dX4_byOffers_25 : decode cX4_byOffers 25 = .ok (.ifCond .ne 7, 3) := by decide +kernel
theorem dX4_byOffers_28 : decode cX4_byOffers 28 = .ok (.iload_n 2, 1) := by decide +kernel
theorem dX4_byOffers_29 : decode cX4_byOffers 29 = .ok (.goto 4, 3) := by decide +kernel
theorem dX4_byOffers_32 : decode cX4_byOffers 32 = .ok (.iload_n 1, 1) := by decide +kernel
theorem dX4_byOffers_33 : decode cX4_byOffers 33 = .ok (.invokevirtual 196, 3) := by decide +kernel
theorem dX4_byOffers_36 : decode cX4_byOffers 36 = .ok (.istore 5, 2) := by decide +kernel
theorem dX4_byOffers_38 : decode cX4_byOffers 38 = .ok (.iload 5, 2) := by decide +kernel
theorem dX4_byOffers_40 : decode cX4_byOffers 40 = .ok (.bipush (-5), 2) := by decide +kernel
theorem dX4_byOffers_42 : decode cX4_byOffers 42 = .ok (.if_icmp .eq 51, 3) := by decide +kernel
theorem dX4_byOffers_45 : decode cX4_byOffers 45 = .ok (.aload_n 0, 1) := by decide +kernel
theorem dX4_byOffers_46 : decode cX4_byOffers 46 = .ok (.iload 4, 2) := by decide +kernel
theorem dX4_byOffers_48 : decode cX4_byOffers 48 = .ok (.iload 5, 2) := by decide +kernel
theorem dX4_byOffers_50 : decode cX4_byOffers 50 = .ok (.invokevirtual 203, 3) := by decide +kernel
theorem dX4_byOffers_53 : decode cX4_byOffers 53 = .ok (.iload 4, 2) := by decide +kernel
theorem dX4_byOffers_55 : decode cX4_byOffers 55 = .ok (.ifCond .ne 7, 3) := by decide +kernel
theorem dX4_byOffers_58 : decode cX4_byOffers 58 = .ok (.iload_n 1, 1) := by decide +kernel
theorem dX4_byOffers_59 : decode cX4_byOffers 59 = .ok (.goto 4, 3) := by decide +kernel
theorem dX4_byOffers_62 : decode cX4_byOffers 62 = .ok (.iload_n 2, 1) := by decide +kernel
theorem dX4_byOffers_63 : decode cX4_byOffers 63 = .ok (.if_icmp .lt 30, 3) := by decide +kernel
theorem dX4_byOffers_66 : decode cX4_byOffers 66 = .ok (.aload_n 0, 1) := by decide +kernel
theorem dX4_byOffers_67 : decode cX4_byOffers 67 = .ok (.iload 5, 2) := by decide +kernel
theorem dX4_byOffers_69 : decode cX4_byOffers 69 = .ok (.putfield 180, 3) := by decide +kernel
theorem dX4_byOffers_72 : decode cX4_byOffers 72 = .ok (.aload_n 0, 1) := by decide +kernel
theorem dX4_byOffers_73 : decode cX4_byOffers 73 = .ok (.iload_n 3, 1) := by decide +kernel
theorem dX4_byOffers_74 : decode cX4_byOffers 74 = .ok (.putfield 186, 3) := by decide +kernel
theorem dX4_byOffers_77 : decode cX4_byOffers 77 = .ok (.aload_n 0, 1) := by decide +kernel
theorem dX4_byOffers_78 : decode cX4_byOffers 78 = .ok (.getfield 53, 3) := by decide +kernel
theorem dX4_byOffers_81 : decode cX4_byOffers 81 = .ok (.iload 5, 2) := by decide +kernel
theorem dX4_byOffers_83 : decode cX4_byOffers 83 = .ok (.iaload, 1) := by decide +kernel
theorem dX4_byOffers_84 : decode cX4_byOffers 84 = .ok (.istore_n 1, 1) := by decide +kernel
theorem dX4_byOffers_85 : decode cX4_byOffers 85 = .ok (.aload_n 0, 1) := by decide +kernel
theorem dX4_byOffers_86 : decode cX4_byOffers 86 = .ok (.getfield 56, 3) := by decide +kernel
theorem dX4_byOffers_89 : decode cX4_byOffers 89 = .ok (.iload 5, 2) := by decide +kernel
theorem dX4_byOffers_91 : decode cX4_byOffers 91 = .ok (.iaload, 1) := by decide +kernel
theorem dX4_byOffers_92 : decode cX4_byOffers 92 = .ok (.istore_n 2, 1) := by decide +kernel
theorem dX4_byOffers_93 : decode cX4_byOffers 93 = .ok (.aload_n 0, 1) := by decide +kernel
theorem dX4_byOffers_94 : decode cX4_byOffers 94 = .ok (.getfield 180, 3) := by decide +kernel
theorem dX4_byOffers_97 : decode cX4_byOffers 97 = .ok (.bipush (-5), 2) := by decide +kernel
theorem dX4_byOffers_99 : decode cX4_byOffers 99 = .ok (.if_icmp .ne 7, 3) := by decide +kernel
theorem dX4_byOffers_102 : decode cX4_byOffers 102 = .ok (.iconst 0, 1) := by decide +kernel
theorem dX4_byOffers_103 : decode cX4_byOffers 103 = .ok (.goto 9, 3) := by decide +kernel
theorem dX4_byOffers_106 : decode cX4_byOffers 106 = .ok (.iload_n 1, 1) := by decide +kernel
theorem dX4_byOffers_107 : decode cX4_byOffers 107 = .ok (.aload_n 0, 1) := by decide +kernel
theorem dX4_byOffers_108 : decode cX4_byOffers 108 = .ok (.getfield 114, 3) := by decide +kernel
theorem dX4_byOffers_111 : decode cX4_byOffers 111 = .ok (.isub, 1) := by decide +kernel
theorem dX4_byOffers_112 : decode cX4_byOffers 112 = .ok (.istore_n 1, 1) := by decide +kernel
theorem dX4_byOffers_113 : decode cX4_byOffers 113 = .ok (.aload_n 0, 1) := by decide +kernel
theorem dX4_byOffers_114 : decode cX4_byOffers 114 = .ok (.getfield 180, 3) := by decide +kernel
theorem dX4_byOffers_117 : decode cX4_byOffers 117 = .ok (.bipush (-5), 2) := by decide +kernel
theorem dX4_byOffers_119 : decode cX4_byOffers 119 = .ok (.if_icmp .ne 7, 3) := by decide +kernel
theorem dX4_byOffers_122 : decode cX4_byOffers 122 = .ok (.iconst 0, 1) := by decide +kernel
theorem dX4_byOffers_123 : decode cX4_byOffers 123 = .ok (.goto 9, 3) := by decide +kernel
theorem dX4_byOffers_126 : decode cX4_byOffers 126 = .ok (.iload_n 2, 1) := by decide +kernel
theorem dX4_byOffers_127 : decode cX4_byOffers 127 = .ok (.aload_n 0, 1) := by decide +kernel
theorem dX4_byOffers_128 : decode cX4_byOffers 128 = .ok (.getfield 114, 3) := by decide +kernel
theorem dX4_byOffers_131 : decode cX4_byOffers 131 = .ok (.isub, 1) := by decide +kernel
theorem dX4_byOffers_132 : decode cX4_byOffers 132 = .ok (.istore_n 2, 1) := by decide +kernel
theorem dX4_byOffers_133 : decode cX4_byOffers 133 = .ok (.iinc 3 (-1), 3) := by decide +kernel
theorem dX4_byOffers_136 : decode cX4_byOffers 136 = .ok (.goto (-125), 3) := by decide +kernel
theorem dX4_byOffers_139 : decode cX4_byOffers 139 = .ok (.return_, 1) := by decide +kernel
theorem dX4_byRule_0 : decode cX4_byRule 0 = .ok (.iconst (-1), 1) := by decide +kernel
theorem dX4_byRule_1 : decode cX4_byRule 1 = .ok (.istore_n 3, 1) := by decide +kernel
theorem dX4_byRule_2 : decode cX4_byRule 2 = .ok (.iconst (-1), 1) := by decide +kernel
theorem dX4_byRule_3 : decode cX4_byRule 3 = .ok (.istore 4, 2) := by decide +kernel
theorem dX4_byRule_5 : decode cX4_byRule 5 = .ok (.iconst 0, 1) := by decide +kernel
theorem dX4_byRule_6 : decode cX4_byRule 6 = .ok (.istore 5, 2) := by decide +kernel
theorem dX4_byRule_8 : decode cX4_byRule 8 = .ok (.iload 5, 2) := by decide +kernel
theorem dX4_byRule_10 : decode cX4_byRule 10 = .ok (.aload_n 0, 1) := by decide +kernel
theorem dX4_byRule_11 : decode cX4_byRule 11 = .ok (.getfield 7, 3) := by decide +kernel
theorem dX4_byRule_14 : decode cX4_byRule 14 = .ok (.if_icmp .gt 50, 3) := by decide +kernel
theorem dX4_byRule_17 : decode cX4_byRule 17 = .ok (.aload_n 0, 1) := by decide +kernel
theorem dX4_byRule_18 : decode cX4_byRule 18 = .ok (.getfield 49, 3) := by decide +kernel
theorem dX4_byRule_21 : decode cX4_byRule 21 = .ok (.iload 5, 2) := by decide +kernel
theorem dX4_byRule_23 : decode cX4_byRule 23 = .ok (.baload, 1) := by decide +kernel
theorem dX4_byRule_24 : decode cX4_byRule 24 = .ok (.ifCond .eq 13, 3) := by decide +kernel
theorem dX4_byRule_27 : decode cX4_byRule 27 = .ok (.iload_n 3, 1) := by decide +kernel
theorem dX4_byRule_28 : decode cX4_byRule 28 = .ok (.iconst (-1), 1) := by decide +kernel
theorem dX4_byRule_29 : decode cX4_byRule 29 = .ok (.if_icmp .ne 8, 3) := by decide +kernel
theorem dX4_byRule_32 : decode cX4_byRule 32 = .ok (.iload 5, 2) := by decide +kernel
theorem dX4_byRule_34 : decode cX4_byRule 34 = .ok (.goto 4, 3) := by decide +kernel
theorem dX4_byRule_37 : decode cX4_byRule 37 = .ok (.iload_n 3, 1) := by decide +kernel
theorem dX4_byRule_38 : decode cX4_byRule 38 = .ok (.istore_n 3, 1) := by decide +kernel
theorem dX4_byRule_39 : decode cX4_byRule 39 = .ok (.aload_n 0, 1) := by decide +kernel
theorem dX4_byRule_40 : decode cX4_byRule 40 = .ok (.getfield 49, 3) := by decide +kernel
theorem dX4_byRule_43 : decode cX4_byRule 43 = .ok (.iload 5, 2) := by decide +kernel
theorem dX4_byRule_45 : decode cX4_byRule 45 = .ok (.baload, 1) := by decide +kernel
theorem dX4_byRule_46 : decode cX4_byRule 46 = .ok (.ifCond .eq 8, 3) := by decide +kernel
theorem dX4_byRule_49 : decode cX4_byRule 49 = .ok (.iload 5, 2) := by decide +kernel
theorem dX4_byRule_51 : decode cX4_byRule 51 = .ok (.goto 5, 3) := by decide +kernel
theorem dX4_byRule_54 : decode cX4_byRule 54 = .ok (.iload 4, 2) := by decide +kernel
theorem dX4_byRule_56 : decode cX4_byRule 56 = .ok (.istore 4, 2) := by decide +kernel
theorem dX4_byRule_58 : decode cX4_byRule 58 = .ok (.iinc 5 1, 3) := by decide +kernel
theorem dX4_byRule_61 : decode cX4_byRule 61 = .ok (.goto (-53), 3) := by decide +kernel
theorem dX4_byRule_64 : decode cX4_byRule 64 = .ok (.iload_n 3, 1) := by decide +kernel
theorem dX4_byRule_65 : decode cX4_byRule 65 = .ok (.iconst (-1), 1) := by decide +kernel
theorem dX4_byRule_66 : decode cX4_byRule 66 = .ok (.if_icmp .ne 4, 3) := by decide +kernel
theorem dX4_byRule_69 : decode cX4_byRule 69 = .ok (.return_, 1) := by decide +kernel
theorem dX4_byRule_70 : decode cX4_byRule 70 = .ok (.aload_n 0, 1) := by decide +kernel
theorem dX4_byRule_71 : decode cX4_byRule 71 = .ok (.getfield 46, 3) := by decide +kernel
theorem dX4_byRule_74 : decode cX4_byRule 74 = .ok (.iconst 0, 1) := by decide +kernel
theorem dX4_byRule_75 : decode cX4_byRule 75 = .ok (.iload_n 3, 1) := by decide +kernel
theorem dX4_byRule_76 : decode cX4_byRule 76 = .ok (.i2l, 1) := by decide +kernel
theorem dX4_byRule_77 : decode cX4_byRule 77 = .ok (.lastore, 1) := by decide +kernel
theorem dX4_byRule_78 : decode cX4_byRule 78 = .ok (.aload_n 0, 1) := by decide +kernel
theorem dX4_byRule_79 : decode cX4_byRule 79 = .ok (.getfield 46, 3) := by decide +kernel
theorem dX4_byRule_82 : decode cX4_byRule 82 = .ok (.iconst 1, 1) := by decide +kernel
theorem dX4_byRule_83 : decode cX4_byRule 83 = .ok (.iload 4, 2) := by decide +kernel
theorem dX4_byRule_85 : decode cX4_byRule 85 = .ok (.i2l, 1) := by decide +kernel
theorem dX4_byRule_86 : decode cX4_byRule 86 = .ok (.lastore, 1) := by decide +kernel
theorem dX4_byRule_87 : decode cX4_byRule 87 = .ok (.aload_n 0, 1) := by decide +kernel
theorem dX4_byRule_88 : decode cX4_byRule 88 = .ok (.getfield 46, 3) := by decide +kernel
theorem dX4_byRule_91 : decode cX4_byRule 91 = .ok (.iconst 2, 1) := by decide +kernel
theorem dX4_byRule_92 : decode cX4_byRule 92 = .ok (.aload_n 0, 1) := by decide +kernel
theorem dX4_byRule_93 : decode cX4_byRule 93 = .ok (.getfield 7, 3) := by decide +kernel
theorem dX4_byRule_96 : decode cX4_byRule 96 = .ok (.i2l, 1) := by decide +kernel
theorem dX4_byRule_97 : decode cX4_byRule 97 = .ok (.lastore, 1) := by decide +kernel
theorem dX4_byRule_98 : decode cX4_byRule 98 = .ok (.aload_n 0, 1) := by decide +kernel
theorem dX4_byRule_99 : decode cX4_byRule 99 = .ok (.getfield 46, 3) := by decide +kernel
theorem dX4_byRule_102 : decode cX4_byRule 102 = .ok (.iconst 3, 1) := by decide +kernel
theorem dX4_byRule_103 : decode cX4_byRule 103 = .ok (.iload_n 1, 1) := by decide +kernel
theorem dX4_byRule_104 : decode cX4_byRule 104 = .ok (.i2l, 1) := by decide +kernel
theorem dX4_byRule_105 : decode cX4_byRule 105 = .ok (.lastore, 1) := by decide +kernel
theorem dX4_byRule_106 : decode cX4_byRule 106 = .ok (.aload_n 0, 1) := by decide +kernel
theorem dX4_byRule_107 : decode cX4_byRule 107 = .ok (.getfield 46, 3) := by decide +kernel
theorem dX4_byRule_110 : decode cX4_byRule 110 = .ok (.iconst 4, 1) := by decide +kernel
theorem dX4_byRule_111 : decode cX4_byRule 111 = .ok (.iload_n 2, 1) := by decide +kernel
theorem dX4_byRule_112 : decode cX4_byRule 112 = .ok (.i2l, 1) := by decide +kernel
theorem dX4_byRule_113 : decode cX4_byRule 113 = .ok (.lastore, 1) := by decide +kernel
theorem dX4_byRule_114 : decode cX4_byRule 114 = .ok (.aload_n 0, 1) := by decide +kernel
theorem dX4_byRule_115 : decode cX4_byRule 115 = .ok (.invokevirtual 169, 3) := by decide +kernel
theorem dX4_byRule_118 : decode cX4_byRule 118 = .ok (.ifCond .eq 10, 3) := by decide +kernel
theorem dX4_byRule_121 : decode cX4_byRule 121 = .ok (.aload_n 0, 1) := by decide +kernel
theorem dX4_byRule_122 : decode cX4_byRule 122 = .ok (.getfield 166, 3) := by decide +kernel
theorem dX4_byRule_125 : decode cX4_byRule 125 = .ok (.goto 5, 3) := by decide +kernel
theorem dX4_byRule_128 : decode cX4_byRule 128 = .ok (.iload_n 3, 1) := by decide +kernel
theorem dX4_byRule_129 : decode cX4_byRule 129 = .ok (.i2l, 1) := by decide +kernel
theorem dX4_byRule_130 : decode cX4_byRule 130 = .ok (.lstore 5, 2) := by decide +kernel
theorem dX4_byRule_132 : decode cX4_byRule 132 = .ok (.lload 5, 2) := by decide +kernel
theorem dX4_byRule_134 : decode cX4_byRule 134 = .ok (.ldc2_w 206, 3) := by decide +kernel
theorem dX4_byRule_137 : decode cX4_byRule 137 = .ok (.lcmp, 1) := by decide +kernel
theorem dX4_byRule_138 : decode cX4_byRule 138 = .ok (.ifCond .ge 9, 3) := by decide +kernel
theorem dX4_byRule_141 : decode cX4_byRule 141 = .ok (.ldc2_w 206, 3) := by decide +kernel
theorem dX4_byRule_144 : decode cX4_byRule 144 = .ok (.goto 28, 3) := by decide +kernel
theorem dX4_byRule_147 : decode cX4_byRule 147 = .ok (.lload 5, 2) := by decide +kernel
theorem dX4_byRule_149 : decode cX4_byRule 149 = .ok (.aload_n 0, 1) := by decide +kernel
theorem dX4_byRule_150 : decode cX4_byRule 150 = .ok (.getfield 7, 3) := by decide +kernel
theorem dX4_byRule_153 : decode cX4_byRule 153 = .ok (.i2l, 1) := by decide +kernel
theorem dX4_byRule_154 : decode cX4_byRule 154 = .ok (.lconst 1, 1) := by decide +kernel
theorem dX4_byRule_155 : decode cX4_byRule 155 = .ok (.ladd, 1) := by decide +kernel
theorem dX4_byRule_156 : decode cX4_byRule 156 = .ok (.lcmp, 1) := by decide +kernel
theorem dX4_byRule_157 : decode cX4_byRule 157 = .ok (.ifCond .le 13, 3) := by decide +kernel
theorem dX4_byRule_160 : decode cX4_byRule 160 = .ok (.aload_n 0, 1) := by decide +kernel
theorem dX4_byRule_161 : decode cX4_byRule 161 = .ok (.getfield 7, 3) := by decide +kernel
theorem dX4_byRule_164 : decode cX4_byRule 164 = .ok (.i2l, 1) := by decide +kernel
theorem dX4_byRule_165 : decode cX4_byRule 165 = .ok (.lconst 1, 1) := by decide +kernel
theorem dX4_byRule_166 : decode cX4_byRule 166 = .ok (.ladd, 1) := by decide +kernel
theorem dX4_byRule_167 : decode cX4_byRule 167 = .ok (.goto 5, 3) := by decide +kernel
theorem dX4_byRule_170 : decode cX4_byRule 170 = .ok (.lload 5, 2) := by decide +kernel
theorem dX4_byRule_172 : decode cX4_byRule 172 = .ok (.l2i, 1) := by decide +kernel
theorem dX4_byRule_173 : decode cX4_byRule 173 = .ok (.istore 7, 2) := by decide +kernel
theorem dX4_byRule_175 : decode cX4_byRule 175 = .ok (.aload_n 0, 1) := by decide +kernel
theorem dX4_byRule_176 : decode cX4_byRule 176 = .ok (.iload_n 3, 1) := by decide +kernel
theorem dX4_byRule_177 : decode cX4_byRule 177 = .ok (.putfield 180, 3) := by decide +kernel
theorem dX4_byRule_180 : decode cX4_byRule 180 = .ok (.iload_n 3, 1) := by decide +kernel
theorem dX4_byRule_181 : decode cX4_byRule 181 = .ok (.istore 8, 2) := by decide +kernel
theorem dX4_byRule_183 : decode cX4_byRule 183 = .ok (.iload 8, 2) := by decide +kernel
theorem dX4_byRule_185 : decode cX4_byRule 185 = .ok (.iload 4, 2) := by decide +kernel
theorem dX4_byRule_187 : decode cX4_byRule 187 = .ok (.if_icmp .gt 44, 3) := by decide +kernel
theorem dX4_byRule_190 : decode cX4_byRule 190 = .ok (.aload_n 0, 1) := by decide +kernel
theorem dX4_byRule_191 : decode cX4_byRule 191 = .ok (.getfield 49, 3) := by decide +kernel
theorem dX4_byRule_194 : decode cX4_byRule 194 = .ok (.iload 8, 2) := by decide +kernel
theorem dX4_byRule_196 : decode cX4_byRule 196 = .ok (.baload, 1) := by decide +kernel
theorem dX4_byRule_197 : decode cX4_byRule 197 = .ok (.ifCond .eq 28, 3) := by decide +kernel
theorem dX4_byRule_200 : decode cX4_byRule 200 = .ok (.iload 8, 2) := by decide +kernel
theorem dX4_byRule_202 : decode cX4_byRule 202 = .ok (.iload 7, 2) := by decide +kernel
theorem dX4_byRule_204 : decode cX4_byRule 204 = .ok (.invokestatic 208, 3) := by decide +kernel
theorem dX4_byRule_207 : decode cX4_byRule 207 = .ok (.aload_n 0, 1) := by decide +kernel
theorem dX4_byRule_208 : decode cX4_byRule 208 = .ok (.getfield 180, 3) := by decide +kernel
theorem dX4_byRule_211 : decode cX4_byRule 211 = .ok (.iload 7, 2) := by decide +kernel
theorem dX4_byRule_213 : decode cX4_byRule 213 = .ok (.invokestatic 208, 3) := by decide +kernel
theorem dX4_byRule_216 : decode cX4_byRule 216 = .ok (.if_icmp .ge 9, 3) := by decide +kernel
theorem dX4_byRule_219 : decode cX4_byRule 219 = .ok (.aload_n 0, 1) := by decide +kernel
theorem dX4_byRule_220 : decode cX4_byRule 220 = .ok (.iload 8, 2) := by decide +kernel
theorem dX4_byRule_222 : decode cX4_byRule 222 = .ok (.putfield 180, 3) := by decide +kernel
theorem dX4_byRule_225 : decode cX4_byRule 225 = .ok (.iinc 8 1, 3) := by decide +kernel
theorem dX4_byRule_228 : decode cX4_byRule 228 = .ok (.goto (-45), 3) := by decide +kernel
theorem dX4_byRule_231 : decode cX4_byRule 231 = .ok (.return_, 1) := by decide +kernel
theorem dX4_far_0 : decode cX4_far 0 = .ok (.iload_n 0, 1) := by decide +kernel
theorem dX4_far_1 : decode cX4_far 1 = .ok (.iload_n 1, 1) := by decide +kernel
