theorem dX0_becomeLike_0 : decode cX0_becomeLike 0 = .ok (.aload_n 1, 1) := by decide +kernel
theorem dX0_becomeLike_1 : decode cX0_becomeLike 1 = .ok (.getfield 9, 3) := by decide +kernel
theorem dX0_becomeLike_4 : decode cX0_becomeLike 4 = .ok (.iconst 0, 1) := by decide +kernel
theorem dX0_becomeLike_5 : decode cX0_becomeLike 5 = .ok (.aload_n 0, 1) := by decide +kernel
theorem dX0_becomeLike_6 : decode cX0_becomeLike 6 = .ok (.getfield 9, 3) := by decide +kernel
theorem dX0_becomeLike_9 : decode cX0_becomeLike 9 = .ok (.iconst 0, 1) := by decide +kernel
theorem dX0_becomeLike_10 : decode cX0_becomeLike 10 = .ok (.bipush 9, 2) := by decide +kernel
theorem dX0_becomeLike_12 : decode cX0_becomeLike 12 = .ok (.invokestatic 19, 3) := by decide +kernel
theorem dX0_becomeLike_15 : decode cX0_becomeLike 15 = .ok (.aload_n 0, 1) := by decide +kernel
theorem dX0_becomeLike_16 : decode cX0_becomeLike 16 = .ok (.getfield 9, 3) := by decide +kernel
theorem dX0_becomeLike_19 : decode cX0_becomeLike 19 = .ok (.bipush 8, 2) := by decide +kernel
theorem dX0_becomeLike_21 : decode cX0_becomeLike 21 = .ok (.iconst 0, 1) := by decide +kernel
theorem dX0_becomeLike_22 : decode cX0_becomeLike 22 = .ok (.iastore, 1) := by decide +kernel
theorem dX0_becomeLike_23 : decode cX0_becomeLike 23 = .ok (.return_, 1) := by decide +kernel
theorem dX0_worthOf_0 : decode cX0_worthOf 0 = .ok (.iload_n 1, 1) := by decide +kernel
theorem dX0_worthOf_1 : decode cX0_worthOf 1 = .ok (.aload_n 0, 1) := by decide +kernel
theorem dX0_worthOf_2 : decode cX0_worthOf 2 = .ok (.getfield 9, 3) := by decide +kernel
theorem dX0_worthOf_5 : decode cX0_worthOf 5 = .ok (.iconst 1, 1) := by decide +kernel
theorem dX0_worthOf_6 : decode cX0_worthOf 6 = .ok (.iaload, 1) := by decide +kernel
theorem dX0_worthOf_7 : decode cX0_worthOf 7 = .ok (.if_icmp .lt 12, 3) := by decide +kernel
theorem dX0_worthOf_10 : decode cX0_worthOf 10 = .ok (.aload_n 0, 1) := by decide +kernel
theorem dX0_worthOf_11 : decode cX0_worthOf 11 = .ok (.getfield 9, 3) := by decide +kernel
theorem dX0_worthOf_14 : decode cX0_worthOf 14 = .ok (.iconst 2, 1) := by decide +kernel
theorem dX0_worthOf_15 : decode cX0_worthOf 15 = .ok (.iaload, 1) := by decide +kernel
theorem dX0_worthOf_16 : decode cX0_worthOf 16 = .ok (.goto 4, 3) := by decide +kernel
theorem dX0_worthOf_19 : decode cX0_worthOf 19 = .ok (.iconst 0, 1) := by decide +kernel
theorem dX0_worthOf_20 : decode cX0_worthOf 20 = .ok (.istore_n 3, 1) := by decide +kernel
theorem dX0_worthOf_21 : decode cX0_worthOf 21 = .ok (.aload_n 0, 1) := by decide +kernel
theorem dX0_worthOf_22 : decode cX0_worthOf 22 = .ok (.getfield 9, 3) := by decide +kernel
theorem dX0_worthOf_25 : decode cX0_worthOf 25 = .ok (.iconst 0, 1) := by decide +kernel
theorem dX0_worthOf_26 : decode cX0_worthOf 26 = .ok (.iaload, 1) := by decide +kernel
theorem dX0_worthOf_27 : decode cX0_worthOf 27 = .ok (.iload_n 1, 1) := by decide +kernel
theorem dX0_worthOf_28 : decode cX0_worthOf 28 = .ok (.imul, 1) := by decide +kernel
theorem dX0_worthOf_29 : decode cX0_worthOf 29 = .ok (.iload_n 3, 1) := by decide +kernel
theorem dX0_worthOf_30 : decode cX0_worthOf 30 = .ok (.iadd, 1) := by decide +kernel
theorem dX0_worthOf_31 : decode cX0_worthOf 31 = .ok (.aload_n 0, 1) := by decide +kernel
theorem dX0_worthOf_32 : decode cX0_worthOf 32 = .ok (.getfield 9, 3) := by decide +kernel
theorem dX0_worthOf_35 : decode cX0_worthOf 35 = .ok (.iconst 3, 1) := by decide +kernel
theorem dX0_worthOf_36 : decode cX0_worthOf 36 = .ok (.iaload, 1) := by decide +kernel
theorem dX0_worthOf_37 : decode cX0_worthOf 37 = .ok (.iload_n 2, 1) := by decide +kernel
theorem dX0_worthOf_38 : decode cX0_worthOf 38 = .ok (.iload_n 1, 1) := by decide +kernel
theorem dX0_worthOf_39 : decode cX0_worthOf 39 = .ok (.isub, 1) := by decide +kernel
theorem dX0_worthOf_40 : decode cX0_worthOf 40 = .ok (.imul, 1) := by decide +kernel
theorem dX0_worthOf_41 : decode cX0_worthOf 41 = .ok (.isub, 1) := by decide +kernel
theorem dX0_worthOf_42 : decode cX0_worthOf 42 = .ok (.aload_n 0, 1) := by decide +kernel
theorem dX0_worthOf_43 : decode cX0_worthOf 43 = .ok (.iload_n 1, 1) := by decide +kernel
theorem dX0_worthOf_44 : decode cX0_worthOf 44 = .ok (.invokevirtual 25, 3) := by decide +kernel
theorem dX0_worthOf_47 : decode cX0_worthOf 47 = .ok (.iadd, 1) := by decide +kernel
theorem dX0_worthOf_48 : decode cX0_worthOf 48 = .ok (.ireturn, 1) := by decide +kernel
theorem dX0_wagesFor_0 : decode cX0_wagesFor 0 = .ok (.iload_n 1, 1) := by decide +kernel
theorem dX0_wagesFor_1 : decode cX0_wagesFor 1 = .ok (.aload_n 0, 1) := by decide +kernel
theorem dX0_wagesFor_2 : decode cX0_wagesFor 2 = .ok (.getfield 9, 3) := by decide +kernel
theorem dX0_wagesFor_5 : decode cX0_wagesFor 5 = .ok (.bipush 6, 2) := by decide +kernel
theorem dX0_wagesFor_7 : decode cX0_wagesFor 7 = .ok (.iaload, 1) := by decide +kernel
theorem dX0_wagesFor_8 : decode cX0_wagesFor 8 = .ok (.if_icmp .le 23, 3) := by decide +kernel
theorem dX0_wagesFor_11 : decode cX0_wagesFor 11 = .ok (.aload_n 0, 1) := by decide +kernel
theorem dX0_wagesFor_12 : decode cX0_wagesFor 12 = .ok (.getfield 9, 3) := by decide +kernel
theorem dX0_wagesFor_15 : decode cX0_wagesFor 15 = .ok (.bipush 7, 2) := by decide +kernel
theorem dX0_wagesFor_17 : decode cX0_wagesFor 17 = .ok (.iaload, 1) := by decide +kernel
theorem dX0_wagesFor_18 : decode cX0_wagesFor 18 = .ok (.iload_n 1, 1) := by decide +kernel
theorem dX0_wagesFor_19 : decode cX0_wagesFor 19 = .ok (.aload_n 0, 1) := by decide +kernel
theorem dX0_wagesFor_20 : decode cX0_wagesFor 20 = .ok (.getfield 9, 3) := by decide +kernel
theorem dX0_wagesFor_23 : decode cX0_wagesFor 23 = .ok (.bipush 6, 2) := by decide +kernel
theorem dX0_wagesFor_25 : decode cX0_wagesFor 25 = .ok (.iaload, 1) := by decide +kernel
theorem dX0_wagesFor_26 : decode cX0_wagesFor 26 = .ok (.isub, 1) := by decide +kernel
theorem dX0_wagesFor_27 : decode cX0_wagesFor 27 = .ok (.imul, 1) := by decide +kernel
theorem dX0_wagesFor_28 : decode cX0_wagesFor 28 = .ok (.goto 4, 3) := by decide +kernel
theorem dX0_wagesFor_31 : decode cX0_wagesFor 31 = .ok (.iconst 0, 1) := by decide +kernel
theorem dX0_wagesFor_32 : decode cX0_wagesFor 32 = .ok (.ireturn, 1) := by decide +kernel
theorem dX0_gainBy_0 : decode cX0_gainBy 0 = .ok (.aload_n 0, 1) := by decide +kernel
theorem dX0_gainBy_1 : decode cX0_gainBy 1 = .ok (.iload_n 1, 1) := by decide +kernel
theorem dX0_gainBy_2 : decode cX0_gainBy 2 = .ok (.iload_n 2, 1) := by decide +kernel
theorem dX0_gainBy_3 : decode cX0_gainBy 3 = .ok (.invokevirtual 29, 3) := by decide +kernel
theorem dX0_gainBy_6 : decode cX0_gainBy 6 = .ok (.aload_n 0, 1) := by decide +kernel
theorem dX0_gainBy_7 : decode cX0_gainBy 7 = .ok (.getfield 9, 3) := by decide +kernel
theorem dX0_gainBy_10 : decode cX0_gainBy 10 = .ok (.iconst 4, 1) := by decide +kernel
theorem dX0_gainBy_11 : decode cX0_gainBy 11 = .ok (.iaload, 1) := by decide +kernel
theorem dX0_gainBy_12 : decode cX0_gainBy 12 = .ok (.isub, 1) := by decide +kernel
theorem dX0_gainBy_13 : decode cX0_gainBy 13 = .ok (.ireturn, 1) := by decide +kernel
theorem dX0_accepts_0 : decode cX0_accepts 0 = .ok (.iload_n 1, 1) := by decide +kernel
theorem dX0_accepts_1 : decode cX0_accepts 1 = .ok (.aload_n 0, 1) := by decide +kernel
theorem dX0_accepts_2 : decode cX0_accepts 2 = .ok (.getfield 9, 3) := by decide +kernel
theorem dX0_accepts_5 : decode cX0_accepts 5 = .ok (.iconst 5, 1) := by decide +kernel
theorem dX0_accepts_6 : decode cX0_accepts 6 = .ok (.iaload, 1) := by decide +kernel
theorem dX0_accepts_7 : decode cX0_accepts 7 = .ok (.if_icmp .lt 11, 3) := by decide +kernel
theorem dX0_accepts_10 : decode cX0_accepts 10 = .ok (.iload_n 2, 1) := by decide +kernel
theorem dX0_accepts_11 : decode cX0_accepts 11 = .ok (.ifCond .lt 7, 3) := by decide +kernel
theorem dX0_accepts_14 : decode cX0_accepts 14 = .ok (.iconst 1, 1) := by decide +kernel
theorem dX0_accepts_15 : decode cX0_accepts 15 = .ok (.goto 4, 3) := by decide +kernel
theorem dX0_accepts_18 : decode cX0_accepts 18 = .ok (.iconst 0, 1) := by decide +kernel
theorem dX0_accepts_19 : decode cX0_accepts 19 = .ok (.ireturn, 1) := by decide +kernel
theorem dX0_mixInto_0 : decode cX0_mixInto 0 = .ok (.lload_n 1, 1) := by decide +kernel
theorem dX0_mixInto_1 : decode cX0_mixInto 1 = .ok (.lstore_n 3, 1) := by decide +kernel
theorem dX0_mixInto_2 : decode cX0_mixInto 2 = .ok (.iconst 0, 1) := by decide +kernel
theorem dX0_mixInto_3 : decode cX0_mixInto 3 = .ok (.istore 5, 2) := by decide +kernel
theorem dX0_mixInto_5 : decode cX0_mixInto 5 = .ok (.iload 5, 2) := by decide +kernel
theorem dX0_mixInto_7 : decode cX0_mixInto 7 = .ok (.bipush 9, 2) := by decide +kernel
theorem dX0_mixInto_9 : decode cX0_mixInto 9 = .ok (.if_icmp .ge 24, 3) := by decide +kernel
theorem dX0_mixInto_12 : decode cX0_mixInto 12 = .ok (.ldc2_w 33, 3) := by decide +kernel
theorem dX0_mixInto_15 : decode cX0_mixInto 15 = .ok (.lload_n 3, 1) := by decide +kernel
theorem dX0_mixInto_16 : decode cX0_mixInto 16 = .ok (.lmul, 1) := by decide +kernel
theorem dX0_mixInto_17 : decode cX0_mixInto 17 = .ok (.aload_n 0, 1) := by decide +kernel
theorem dX0_mixInto_18 : decode cX0_mixInto 18 = .ok (.getfield 9, 3) := by decide +kernel
theorem dX0_mixInto_21 : decode cX0_mixInto 21 = .ok (.iload 5, 2) := by decide +kernel
theorem dX0_mixInto_23 : decode cX0_mixInto 23 = .ok (.iaload, 1) := by decide +kernel
theorem dX0_mixInto_24 : decode cX0_mixInto 24 = .ok (.i2l, 1) := by decide +kernel
theorem dX0_mixInto_25 : decode cX0_mixInto 25 = .ok (.ladd, 1) := by decide +kernel
theorem dX0_mixInto_26 : decode cX0_mixInto 26 = .ok (.lstore_n 3, 1) := by decide +kernel
theorem dX0_mixInto_27 : decode cX0_mixInto 27 = .ok (.iinc 5 1, 3) := by decide +kernel
theorem dX0_mixInto_30 : decode cX0_mixInto 30 = .ok (.goto (-25), 3) := by decide +kernel
theorem dX0_mixInto_33 : decode cX0_mixInto 33 = .ok (.ldc2_w 33, 3) := by decide +kernel
theorem dX0_mixInto_36 : decode cX0_mixInto 36 = .ok (.lload_n 3, 1) := by decide +kernel
theorem dX0_mixInto_37 : decode cX0_mixInto 37 = .ok (.lmul, 1) := by decide +kernel
theorem dX0_mixInto_38 : decode cX0_mixInto 38 = .ok (.aload_n 0, 1) := by decide +kernel
theorem dX0_mixInto_39 : decode cX0_mixInto 39 = .ok (.getfield 15, 3) := by decide +kernel
theorem dX0_mixInto_42 : decode cX0_mixInto 42 = .ok (.i2l, 1) := by decide +kernel
theorem dX0_mixInto_43 : decode cX0_mixInto 43 = .ok (.ladd, 1) := by decide +kernel
theorem dX0_mixInto_44 : decode cX0_mixInto 44 = .ok (.lreturn, 1) := by decide +kernel
theorem dX1_seat_0 : decode cX1_seat 0 = .ok (.aload_n 0, 1) := by decide +kernel
theorem dX1_seat_1 : decode cX1_seat 1 = .ok (.iload_n 1, 1) := by decide +kernel
theorem dX1_seat_2 : decode cX1_seat 2 = .ok (.bipush 24, 2) := by decide +kernel
theorem dX1_seat_4 : decode cX1_seat 4 = .ok (.invokestatic 39, 3) := by decide +kernel
theorem dX1_seat_7 : decode cX1_seat 7 = .ok (.putfield 20, 3) := by decide +kernel
theorem dX1_seat_10 : decode cX1_seat 10 = .ok (.aload_n 0, 1) := by decide +kernel
theorem dX1_seat_11 : decode cX1_seat 11 = .ok (.aload_n 2, 1) := by decide +kernel
theorem dX1_seat_12 : decode cX1_seat 12 = .ok (.getfield 45, 3) := by decide +kernel
theorem dX1_seat_15 : decode cX1_seat 15 = .ok (.iconst 4, 1) := by decide +kernel
theorem dX1_seat_16 : decode cX1_seat 16 = .ok (.iaload, 1) := by decide +kernel
theorem dX1_seat_17 : decode cX1_seat 17 = .ok (.putfield 24, 3) := by decide +kernel
theorem dX1_seat_20 : decode cX1_seat 20 = .ok (.aload_n 0, 1) := by decide +kernel
theorem dX1_seat_21 : decode cX1_seat 21 = .ok (.aload_n 3, 1) := by decide +kernel
theorem dX1_seat_22 : decode cX1_seat 22 = .ok (.getfield 45, 3) := by decide +kernel
theorem dX1_seat_25 : decode cX1_seat 25 = .ok (.iconst 4, 1) := by decide +kernel
theorem dX1_seat_26 : decode cX1_seat 26 = .ok (.iaload, 1) := by decide +kernel
theorem dX1_seat_27 : decode cX1_seat 27 = .ok (.putfield 27, 3) := by decide +kernel
theorem dX1_seat_30 : decode cX1_seat 30 = .ok (.iconst 0, 1) := by decide +kernel
theorem dX1_seat_31 : decode cX1_seat 31 = .ok (.istore 4, 2) := by decide +kernel
theorem dX1_seat_33 : decode cX1_seat 33 = .ok (.iload 4, 2) := by decide +kernel
theorem dX1_seat_35 : decode cX1_seat 35 = .ok (.aload_n 0, 1) := by decide +kernel
theorem dX1_seat_36 : decode cX1_seat 36 = .ok (.getfield 20, 3) := by decide +kernel
theorem dX1_seat_39 : decode cX1_seat 39 = .ok (.if_icmp .gt 105, 3) := by decide +kernel
theorem dX1_seat_42 : decode cX1_seat 42 = .ok (.aload_n 0, 1) := by decide +kernel
theorem dX1_seat_43 : decode cX1_seat 43 = .ok (.getfield 17, 3) := by decide +kernel
theorem dX1_seat_46 : decode cX1_seat 46 = .ok (.iconst 0, 1) := by decide +kernel
theorem dX1_seat_47 : decode cX1_seat 47 = .ok (.aaload, 1) := by decide +kernel
theorem dX1_seat_48 : decode cX1_seat 48 = .ok (.iload 4, 2) := by decide +kernel
theorem dX1_seat_50 : decode cX1_seat 50 = .ok (.aload_n 2, 1) := by decide +kernel
theorem dX1_seat_51 : decode cX1_seat 51 = .ok (.iload 4, 2) := by decide +kernel
theorem dX1_seat_53 : decode cX1_seat 53 = .ok (.aload_n 0, 1) := by decide +kernel
theorem dX1_seat_54 : decode cX1_seat 54 = .ok (.getfield 20, 3) := by decide +kernel
theorem dX1_seat_57 : decode cX1_seat 57 = .ok (.invokevirtual 51, 3) := by decide +kernel
theorem dX1_seat_60 : decode cX1_seat 60 = .ok (.iastore, 1) := by decide +kernel
theorem dX1_seat_61 : decode cX1_seat 61 = .ok (.aload_n 0, 1) := by decide +kernel
theorem dX1_seat_62 : decode cX1_seat 62 = .ok (.getfield 17, 3) := by decide +kernel
theorem dX1_seat_65 : decode cX1_seat 65 = .ok (.iconst 1, 1) := by decide +kernel
theorem dX1_seat_66 : decode cX1_seat 66 = .ok (.aaload, 1) := by decide +kernel
theorem dX1_seat_67 : decode cX1_seat 67 = .ok (.iload 4, 2) := by decide +kernel
theorem dX1_seat_69 : decode cX1_seat 69 = .ok (.aload_n 3, 1) := by decide +kernel
theorem dX1_seat_70 : decode cX1_seat 70 = .ok (.aload_n 0, 1) := by decide +kernel
theorem dX1_seat_71 : decode cX1_seat 71 = .ok (.getfield 20, 3) := by decide +kernel
theorem dX1_seat_74 : decode cX1_seat 74 = .ok (.iload 4, 2) := by decide +kernel
theorem dX1_seat_76 : decode cX1_seat 76 = .ok (.isub, 1) := by decide +kernel
theorem dX1_seat_77 : decode cX1_seat 77 = .ok (.aload_n 0, 1) := by decide +kernel
theorem dX1_seat_78 : decode cX1_seat 78 = .ok (.getfield 20, 3) := by decide +kernel
theorem dX1_seat_81 : decode cX1_seat 81 = .ok (.invokevirtual 51, 3) := by decide +kernel
theorem dX1_seat_84 : decode cX1_seat 84 = .ok (.iastore, 1) := by decide +kernel
theorem dX1_seat_85 : decode cX1_seat 85 = .ok (.aload_n 0, 1) := by decide +kernel
theorem dX1_seat_86 : decode cX1_seat 86 = .ok (.getfield 9, 3) := by decide +kernel
theorem dX1_seat_89 : decode cX1_seat 89 = .ok (.iload 4, 2) := by decide +kernel
theorem dX1_seat_91 : decode cX1_seat 91 = .ok (.aload_n 2, 1) := by decide +kernel
theorem dX1_seat_92 : decode cX1_seat 92 = .ok (.iload 4, 2) := by decide +kernel
theorem dX1_seat_94 : decode cX1_seat 94 = .ok (.aload_n 0, 1) := by decide +kernel
theorem dX1_seat_95 : decode cX1_seat 95 = .ok (.getfield 17, 3) := by decide +kernel
theorem dX1_seat_98 : decode cX1_seat 98 = .ok (.iconst 0, 1) := by decide +kernel
theorem dX1_seat_99 : decode cX1_seat 99 = .ok (.aaload, 1) := by decide +kernel
theorem dX1_seat_100 : decode cX1_seat 100 = .ok (.iload 4, 2) := by decide +kernel
theorem dX1_seat_102 : decode cX1_seat 102 = .ok (.iaload, 1) := by decide +kernel
theorem dX1_seat_103 : decode cX1_seat 103 = .ok (.invokevirtual 54, 3) := by decide +kernel
theorem dX1_seat_106 : decode cX1_seat 106 = .ok (.ifCond .eq 30, 3) := by decide +kernel
theorem dX1_seat_109 : decode cX1_seat 109 = .ok (.aload_n 3, 1) := by decide +kernel
theorem dX1_seat_110 : decode cX1_seat 110 = .ok (.aload_n 0, 1) := by decide +kernel
theorem dX1_seat_111 : decode cX1_seat 111 = .ok (.getfield 20, 3) := by decide +kernel
theorem dX1_seat_114 : decode cX1_seat 114 = .ok (.iload 4, 2) := by decide +kernel
theorem dX1_seat_116 : decode cX1_seat 116 = .ok (.isub, 1) := by decide +kernel
theorem dX1_seat_117 : decode cX1_seat 117 = .ok (.aload_n 0, 1) := by decide +kernel
theorem dX1_seat_118 : decode cX1_seat 118 = .ok (.getfield 17, 3) := by decide +kernel
theorem dX1_seat_121 : decode cX1_seat 121 = .ok (.iconst 1, 1) := by decide +kernel
theorem dX1_seat_122 : decode cX1_seat 122 = .ok (.aaload, 1) := by decide +kernel
theorem dX1_seat_123 : decode cX1_seat 123 = .ok (.iload 4, 2) := by decide +kernel
theorem dX1_seat_125 : decode cX1_seat 125 = .ok (.iaload, 1) := by decide +kernel
theorem dX1_seat_126 : decode cX1_seat 126 = .ok (.invokevirtual 54, 3) := by decide +kernel
theorem dX1_seat_129 : decode cX1_seat 129 = .ok (.ifCond .eq 7, 3) := by decide +kernel
theorem dX1_seat_132 : decode cX1_seat 132 = .ok (.iconst 1, 1) := by decide +kernel
theorem dX1_seat_133 : decode cX1_seat 133 = .ok (.goto 4, 3) := by decide +kernel
theorem dX1_seat_136 : decode cX1_seat 136 = .ok (.iconst 0, 1) := by decide +kernel
theorem dX1_seat_137 : decode cX1_seat 137 = .ok (.bastore, 1) := by decide +kernel
theorem dX1_seat_138 : decode cX1_seat 138 = .ok (.iinc 4 1, 3) := by decide +kernel
theorem dX1_seat_141 : decode cX1_seat 141 = .ok (.goto (-108), 3) := by decide +kernel
theorem dX1_seat_144 : decode cX1_seat 144 = .ok (.aload_n 0, 1) := by decide +kernel
theorem dX1_seat_145 : decode cX1_seat 145 = .ok (.bipush (-5), 2) := by decide +kernel
theorem dX1_seat_147 : decode cX1_seat 147 = .ok (.bipush (-5), 2) := by decide +kernel
theorem dX1_seat_149 : decode cX1_seat 149 = .ok (.iconst (-1), 1) := by decide +kernel
theorem dX1_seat_150 : decode cX1_seat 150 = .ok (.invokevirtual 58, 3) := by decide +kernel
theorem dX1_seat_153 : decode cX1_seat 153 = .ok (.return_, 1) := by decide +kernel
theorem dX1_agree_0 : decode cX1_agree 0 = .ok (.aload_n 0, 1) := by decide +kernel
theorem dX1_agree_1 : decode cX1_agree 1 = .ok (.iload_n 1, 1) := by decide +kernel
theorem dX1_agree_2 : decode cX1_agree 2 = .ok (.putfield 30, 3) := by decide +kernel
theorem dX1_agree_5 : decode cX1_agree 5 = .ok (.aload_n 0, 1) := by decide +kernel
theorem dX1_agree_6 : decode cX1_agree 6 = .ok (.iload_n 2, 1) := by decide +kernel
theorem dX1_agree_7 : decode cX1_agree 7 = .ok (.putfield 33, 3) := by decide +kernel
theorem dX1_agree_10 : decode cX1_agree 10 = .ok (.aload_n 0, 1) := by decide +kernel
theorem dX1_agree_11 : decode cX1_agree 11 = .ok (.iload_n 3, 1) := by decide +kernel
theorem dX1_agree_12 : decode cX1_agree 12 = .ok (.putfield 36, 3) := by decide +kernel
theorem dX1_agree_15 : decode cX1_agree 15 = .ok (.return_, 1) := by decide +kernel
theorem dX1_multiplyGains_0 : decode cX1_multiplyGains 0 = .ok (.bipush (-5), 2) := by decide +kernel
theorem dX1_multiplyGains_2 : decode cX1_multiplyGains 2 = .ok (.istore_n 1, 1) := by decide +kernel
theorem dX1_multiplyGains_3 : decode cX1_multiplyGains 3 = .ok (.lconst 0, 1) := by decide +kernel
theorem dX1_multiplyGains_4 : decode cX1_multiplyGains 4 = .ok (.lstore_n 2, 1) := by decide +kernel
theorem dX1_multiplyGains_5 : decode cX1_multiplyGains 5 = .ok (.iconst 0, 1) := by decide +kernel
theorem dX1_multiplyGains_6 : decode cX1_multiplyGains 6 = .ok (.istore 4, 2) := by decide +kernel
theorem dX1_multiplyGains_8 : decode cX1_multiplyGains 8 = .ok (.iload 4, 2) := by decide +kernel
theorem dX1_multiplyGains_10 : decode cX1_multiplyGains 10 = .ok (.aload_n 0, 1) := by decide +kernel
theorem dX1_multiplyGains_11 : decode cX1_multiplyGains 11 = .ok (.getfield 20, 3) := by decide +kernel
theorem dX1_multiplyGains_14 : decode cX1_multiplyGains 14 = .ok (.if_icmp .gt 61, 3) := by decide +kernel
theorem dX1_multiplyGains_17 : decode cX1_multiplyGains 17 = .ok (.aload_n 0, 1) := by decide +kernel
theorem dX1_multiplyGains_18 : decode cX1_multiplyGains 18 = .ok (.getfield 17, 3) := by decide +kernel
theorem dX1_multiplyGains_21 : decode cX1_multiplyGains 21 = .ok (.iconst 0, 1) := by decide +kernel
theorem dX1_multiplyGains_22 : decode cX1_multiplyGains 22 = .ok (.aaload, 1) := by decide +kernel
theorem dX1_multiplyGains_23 : decode cX1_multiplyGains 23 = .ok (.iload 4, 2) := by decide +kernel
theorem dX1_multiplyGains_25 : decode cX1_multiplyGains 25 = .ok (.iaload, 1) := by decide +kernel
theorem dX1_multiplyGains_26 : decode cX1_multiplyGains 26 = .ok (.i2l, 1) := by decide +kernel
theorem dX1_multiplyGains_27 : decode cX1_multiplyGains 27 = .ok (.aload_n 0, 1) := by decide +kernel
theorem dX1_multiplyGains_28 : decode cX1_multiplyGains 28 = .ok (.getfield 17, 3) := by decide +kernel
theorem dX1_multiplyGains_31 : decode cX1_multiplyGains 31 = .ok (.iconst 1, 1) := by decide +kernel
theorem dX1_multiplyGains_32 : decode cX1_multiplyGains 32 = .ok (.aaload, 1) := by decide +kernel
theorem dX1_multiplyGains_33 : decode cX1_multiplyGains 33 = .ok (.iload 4, 2) := by decide +kernel
theorem dX1_multiplyGains_35 : decode cX1_multiplyGains 35 = .ok (.iaload, 1) := by decide +kernel
theorem dX1_multiplyGains_36 : decode cX1_multiplyGains 36 = .ok (.i2l, 1) := by decide +kernel
theorem dX1_multiplyGains_37 : decode cX1_multiplyGains 37 = .ok (.lmul, 1) := by decide +kernel
theorem dX1_multiplyGains_38 : decode cX1_multiplyGains 38 = .ok (.lstore 5, 2) := by decide +kernel
theorem dX1_multiplyGains_40 : decode cX1_multiplyGains 40 = .ok (.aload_n 0, 1) := by decide +kernel
theorem dX1_multiplyGains_41 : decode cX1_multiplyGains 41 = .ok (.getfield 9, 3) := by decide +kernel
theorem dX1_multiplyGains_44 : decode cX1_multiplyGains 44 = .ok (.iload 4, 2) := by decide +kernel
theorem dX1_multiplyGains_46 : decode cX1_multiplyGains 46 = .ok (.baload, 1) := by decide +kernel
theorem dX1_multiplyGains_47 : decode cX1_multiplyGains 47 = .ok (.ifCond .eq 22, 3) := by decide +kernel
theorem dX1_multiplyGains_50 : decode cX1_multiplyGains 50 = .ok (.iload_n 1, 1) := by decide +kernel
theorem dX1_multiplyGains_51 : decode cX1_multiplyGains 51 = .ok (.bipush (-5), 2) := by decide +kernel
theorem dX1_multiplyGains_53 : decode cX1_multiplyGains 53 = .ok (.if_icmp .eq 10, 3) := by decide +kernel
theorem dX1_multiplyGains_56 : decode cX1_multiplyGains 56 = .ok (.lload 5, 2) := by decide +kernel
theorem dX1_multiplyGains_58 : decode cX1_multiplyGains 58 = .ok (.lload_n 2, 1) := by decide +kernel
theorem dX1_multiplyGains_59 : decode cX1_multiplyGains 59 = .ok (.lcmp, 1) := by decide +kernel
theorem dX1_multiplyGains_60 : decode cX1_multiplyGains 60 = .ok (.ifCond .le 9, 3) := by decide +kernel
theorem dX1_multiplyGains_63 : decode cX1_multiplyGains 63 = .ok (.iload 4, 2) := by decide +kernel
theorem dX1_multiplyGains_65 : decode cX1_multiplyGains 65 = .ok (.istore_n 1, 1) := by decide +kernel
theorem dX1_multiplyGains_66 : decode cX1_multiplyGains 66 = .ok (.lload 5, 2) := by decide +kernel
theorem dX1_multiplyGains_68 : decode cX1_multiplyGains 68 = .ok (.lstore_n 2, 1) := by decide +kernel
theorem dX1_multiplyGains_69 : decode cX1_multiplyGains 69 = .ok (.iinc 4 1, 3) := by decide +kernel
theorem dX1_multiplyGains_72 : decode cX1_multiplyGains 72 = .ok (.goto (-64), 3) := by decide +kernel
theorem dX1_multiplyGains_75 : decode cX1_multiplyGains 75 = .ok (.aload_n 0, 1) := by decide +kernel
theorem dX1_multiplyGains_76 : decode cX1_multiplyGains 76 = .ok (.iload_n 1, 1) := by decide +kernel
theorem dX1_multiplyGains_77 : decode cX1_multiplyGains 77 = .ok (.iload_n 1, 1) := by decide +kernel
theorem dX1_multiplyGains_78 : decode cX1_multiplyGains 78 = .ok (.iconst (-1), 1) := by decide +kernel
theorem dX1_multiplyGains_79 : decode cX1_multiplyGains 79 = .ok (.invokevirtual 58, 3) := by decide +kernel
theorem dX1_multiplyGains_82 : decode cX1_multiplyGains 82 = .ok (.return_, 1) := by decide +kernel
theorem dX1_offerInTurns_0 : decode cX1_offerInTurns 0 = .ok (.iload_n 1, 1) := by decide +kernel
theorem dX1_offerInTurns_1 : decode cX1_offerInTurns 1 = .ok (.iconst 1, 1) := by decide +kernel
theorem dX1_offerInTurns_2 : decode cX1_offerInTurns 2 = .ok (.isub, 1) := by decide +kernel
theorem dX1_offerInTurns_3 : decode cX1_offerInTurns 3 = .ok (.istore_n 3, 1) := by decide +kernel
theorem dX1_offerInTurns_4 : decode cX1_offerInTurns 4 = .ok (.iload_n 3, 1) := by decide +kernel
theorem dX1_offerInTurns_5 : decode cX1_offerInTurns 5 = .ok (.ifCond .lt 69, 3) := by decide +kernel
theorem dX1_offerInTurns_8 : decode cX1_offerInTurns 8 = .ok (.iload_n 3, 1) := by decide +kernel
theorem dX1_offerInTurns_9 : decode cX1_offerInTurns 9 = .ok (.iconst 2, 1) := by decide +kernel
theorem dX1_offerInTurns_10 : decode cX1_offerInTurns 10 = .ok (.irem, 1) := by decide +kernel
theorem dX1_offerInTurns_11 : decode cX1_offerInTurns 11 = .ok (.istore 4, 2) := by decide +kernel
theorem dX1_offerInTurns_13 : decode cX1_offerInTurns 13 = .ok (.aload_n 0, 1) := by decide +kernel
theorem dX1_offerInTurns_14 : decode cX1_offerInTurns 14 = .ok (.iload 4, 2) := by decide +kernel
theorem dX1_offerInTurns_16 : decode cX1_offerInTurns 16 = .ok (.aload_n 0, 1) := by decide +kernel
theorem dX1_offerInTurns_17 : decode cX1_offerInTurns 17 = .ok (.iconst 1, 1) := by decide +kernel
theorem dX1_offerInTurns_18 : decode cX1_offerInTurns 18 = .ok (.iload 4, 2) := by decide +kernel
theorem dX1_offerInTurns_20 : decode cX1_offerInTurns 20 = .ok (.isub, 1) := by decide +kernel
theorem dX1_offerInTurns_21 : decode cX1_offerInTurns 21 = .ok (.iload_n 3, 1) := by decide +kernel
theorem dX1_offerInTurns_22 : decode cX1_offerInTurns 22 = .ok (.iload_n 2, 1) := by decide +kernel
theorem dX1_offerInTurns_23 : decode cX1_offerInTurns 23 = .ok (.invokevirtual 62, 3) := by decide +kernel
theorem dX1_offerInTurns_26 : decode cX1_offerInTurns 26 = .ok (.invokevirtual 66, 3) := by decide +kernel
theorem dX1_offerInTurns_29 : decode cX1_offerInTurns 29 = .ok (.istore 5, 2) := by decide +kernel
theorem dX1_offerInTurns_31 : decode cX1_offerInTurns 31 = .ok (.iload 5, 2) := by decide +kernel
theorem dX1_offerInTurns_33 : decode cX1_offerInTurns 33 = .ok (.bipush (-5), 2) := by decide +kernel
theorem dX1_offerInTurns_35 : decode cX1_offerInTurns 35 = .ok (.if_icmp .eq 33, 3) := by decide +kernel
theorem dX1_offerInTurns_38 : decode cX1_offerInTurns 38 = .ok (.aload_n 0, 1) := by decide +kernel
theorem dX1_offerInTurns_39 : decode cX1_offerInTurns 39 = .ok (.getfield 17, 3) := by decide +kernel
theorem dX1_offerInTurns_42 : decode cX1_offerInTurns 42 = .ok (.iload 4, 2) := by decide +kernel
theorem dX1_offerInTurns_44 : decode cX1_offerInTurns 44 = .ok (.aaload, 1) := by decide +kernel
theorem dX1_offerInTurns_45 : decode cX1_offerInTurns 45 = .ok (.iload 5, 2) := by decide +kernel
theorem dX1_offerInTurns_47 : decode cX1_offerInTurns 47 = .ok (.iaload, 1) := by decide +kernel
theorem dX1_offerInTurns_48 : decode cX1_offerInTurns 48 = .ok (.aload_n 0, 1) := by decide +kernel
theorem dX1_offerInTurns_49 : decode cX1_offerInTurns 49 = .ok (.iload 4, 2) := by decide +kernel
theorem dX1_offerInTurns_51 : decode cX1_offerInTurns 51 = .ok (.iload_n 3, 1) := by decide +kernel
theorem dX1_offerInTurns_52 : decode cX1_offerInTurns 52 = .ok (.iload_n 2, 1) := by decide +kernel
theorem dX1_offerInTurns_53 : decode cX1_offerInTurns 53 = .ok (.invokevirtual 62, 3) := by decide +kernel
theorem dX1_offerInTurns_56 : decode cX1_offerInTurns 56 = .ok (.if_icmp .lt 12, 3) := by decide +kernel
theorem dX1_offerInTurns_59 : decode cX1_offerInTurns 59 = .ok (.aload_n 0, 1) := by decide +kernel
theorem dX1_offerInTurns_60 : decode cX1_offerInTurns 60 = .ok (.iload 5, 2) := by decide +kernel
theorem dX1_offerInTurns_62 : decode cX1_offerInTurns 62 = .ok (.iload 5, 2) := by decide +kernel
theorem dX1_offerInTurns_64 : decode cX1_offerInTurns 64 = .ok (.iload_n 3, 1) := by decide +kernel
theorem dX1_offerInTurns_65 : decode cX1_offerInTurns 65 = .ok (.invokevirtual 58, 3) := by decide +kernel
theorem dX1_offerInTurns_68 : decode cX1_offerInTurns 68 = .ok (.iinc 3 (-1), 3) := by decide +kernel
theorem dX1_offerInTurns_71 : decode cX1_offerInTurns 71 = .ok (.goto (-67), 3) := by decide +kernel
theorem dX1_offerInTurns_74 : decode cX1_offerInTurns 74 = .ok (.return_, 1) := by decide +kernel
theorem dX1_byGoingOn_0 : decode cX1_byGoingOn 0 = .ok (.aload_n 0, 1) := by decide +kernel
theorem dX1_byGoingOn_1 : decode cX1_byGoingOn 1 = .ok (.getfield 30, 3) := by decide +kernel
theorem dX1_byGoingOn_4 : decode cX1_byGoingOn 4 = .ok (.bipush (-5), 2) := by decide +kernel
theorem dX1_byGoingOn_6 : decode cX1_byGoingOn 6 = .ok (.if_icmp .ne 7, 3) := by decide +kernel
theorem dX1_byGoingOn_9 : decode cX1_byGoingOn 9 = .ok (.iconst 0, 1) := by decide +kernel
theorem dX1_byGoingOn_10 : decode cX1_byGoingOn 10 = .ok (.goto 23, 3) := by decide +kernel
theorem dX1_byGoingOn_13 : decode cX1_byGoingOn 13 = .ok (.aload_n 0, 1) := by decide +kernel
theorem dX1_byGoingOn_14 : decode cX1_byGoingOn 14 = .ok (.getfield 17, 3) := by decide +kernel
theorem dX1_byGoingOn_17 : decode cX1_byGoingOn 17 = .ok (.iload_n 1, 1) := by decide +kernel
theorem dX1_byGoingOn_18 : decode cX1_byGoingOn 18 = .ok (.aaload, 1) := by decide +kernel
theorem dX1_byGoingOn_19 : decode cX1_byGoingOn 19 = .ok (.aload_n 0, 1) := by decide +kernel
theorem dX1_byGoingOn_20 : decode cX1_byGoingOn 20 = .ok (.getfield 30, 3) := by decide +kernel
theorem dX1_byGoingOn_23 : decode cX1_byGoingOn 23 = .ok (.iaload, 1) := by decide +kernel
theorem dX1_byGoingOn_24 : decode cX1_byGoingOn 24 = .ok (.iload_n 3, 1) := by decide +kernel
theorem dX1_byGoingOn_25 : decode cX1_byGoingOn 25 = .ok (.aload_n 0, 1) := by decide +kernel
theorem dX1_byGoingOn_26 : decode cX1_byGoingOn 26 = .ok (.getfield 36, 3) := by decide +kernel
theorem dX1_byGoingOn_29 : decode cX1_byGoingOn 29 = .ok (.iload_n 2, 1) := by decide +kernel
theorem dX1_byGoingOn_30 : decode cX1_byGoingOn 30 = .ok (.isub, 1) := by decide +kernel
theorem dX1_byGoingOn_31 : decode cX1_byGoingOn 31 = .ok (.imul, 1) := by decide +kernel
theorem dX1_byGoingOn_32 : decode cX1_byGoingOn 32 = .ok (.isub, 1) := by decide +kernel
theorem dX1_byGoingOn_33 : decode cX1_byGoingOn 33 = .ok (.ireturn, 1) := by decide +kernel
theorem dX1_drawLots_0 : decode cX1_drawLots 0 = .ok (.aload_n 0, 1) := by decide +kernel
theorem dX1_drawLots_1 : decode cX1_drawLots 1 = .ok (.aload_n 0, 1) := by decide +kernel
theorem dX1_drawLots_2 : decode cX1_drawLots 2 = .ok (.iconst 0, 1) := by decide +kernel
theorem dX1_drawLots_3 : decode cX1_drawLots 3 = .ok (.ldc 71, 2) := by decide +kernel
theorem dX1_drawLots_5 : decode cX1_drawLots 5 = .ok (.invokevirtual 66, 3) := by decide +kernel
theorem dX1_drawLots_8 : decode cX1_drawLots 8 = .ok (.aload_n 0, 1) := by decide +kernel
theorem dX1_drawLots_9 : decode cX1_drawLots 9 = .ok (.iconst 1, 1) := by decide +kernel
theorem dX1_drawLots_10 : decode cX1_drawLots 10 = .ok (.ldc 71, 2) := by decide +kernel
theorem dX1_drawLots_12 : decode cX1_drawLots 12 = .ok (.invokevirtual 66, 3) := by decide +kernel
theorem dX1_drawLots_15 : decode cX1_drawLots 15 = .ok (.iconst (-1), 1) := by decide +kernel
theorem dX1_drawLots_16 : decode cX1_drawLots 16 = .ok (.invokevirtual 58, 3) := by decide +kernel
theorem dX1_drawLots_19 : decode cX1_drawLots 19 = .ok (.return_, 1) := by decide +kernel
theorem dX1_mostFor_0 : decode cX1_mostFor 0 = .ok (.aload_n 0, 1) := by decide +kernel
theorem dX1_mostFor_1 : decode cX1_mostFor 1 = .ok (.getfield 17, 3) := by decide +kernel
theorem dX1_mostFor_4 : decode cX1_mostFor 4 = .ok (.iload_n 1, 1) := by decide +kernel
theorem dX1_mostFor_5 : decode cX1_mostFor 5 = .ok (.aaload, 1) := by decide +kernel
theorem dX1_mostFor_6 : decode cX1_mostFor 6 = .ok (.astore_n 3, 1) := by decide +kernel
theorem dX1_mostFor_7 : decode cX1_mostFor 7 = .ok (.aload_n 0, 1) := by decide +kernel
theorem dX1_mostFor_8 : decode cX1_mostFor 8 = .ok (.getfield 17, 3) := by decide +kernel
theorem dX1_mostFor_11 : decode cX1_mostFor 11 = .ok (.iconst 1, 1) := by decide +kernel
theorem dX1_mostFor_12 : decode cX1_mostFor 12 = .ok (.iload_n 1, 1) := by decide +kernel
theorem dX1_mostFor_13 : decode cX1_mostFor 13 = .ok (.isub, 1) := by decide +kernel
theorem dX1_mostFor_14 : decode cX1_mostFor 14 = .ok (.aaload, 1) := by decide +kernel
theorem dX1_mostFor_15 : decode cX1_mostFor 15 = .ok (.astore 4, 2) := by decide +kernel
theorem dX1_mostFor_17 : decode cX1_mostFor 17 = .ok (.bipush (-5), 2) := by decide +kernel
theorem dX1_mostFor_19 : decode cX1_mostFor 19 = .ok (.istore 5, 2) := by decide +kernel
theorem dX1_mostFor_21 : decode cX1_mostFor 21 = .ok (.iconst 0, 1) := by decide +kernel
theorem dX1_mostFor_22 : decode cX1_mostFor 22 = .ok (.istore 6, 2) := by decide +kernel
theorem dX1_mostFor_24 : decode cX1_mostFor 24 = .ok (.iload 6, 2) := by decide +kernel
theorem dX1_mostFor_26 : decode cX1_mostFor 26 = .ok (.aload_n 0, 1) := by decide +kernel
theorem dX1_mostFor_27 : decode cX1_mostFor 27 = .ok (.getfield 20, 3) := by decide +kernel
theorem dX1_mostFor_30 : decode cX1_mostFor 30 = .ok (.if_icmp .gt 50, 3) := by decide +kernel
theorem dX1_mostFor_33 : decode cX1_mostFor 33 = .ok (.aload_n 0, 1) := by decide +kernel
theorem dX1_mostFor_34 : decode cX1_mostFor 34 = .ok (.getfield 9, 3) := by decide +kernel
theorem dX1_mostFor_37 : decode cX1_mostFor 37 = .ok (.iload 6, 2) := by decide +kernel
theorem dX1_mostFor_39 : decode cX1_mostFor 39 = .ok (.baload, 1) := by decide +kernel
theorem dX1_mostFor_40 : decode cX1_mostFor 40 = .ok (.ifCond .eq 34, 3) := by decide +kernel
theorem dX1_mostFor_43 : decode cX1_mostFor 43 = .ok (.aload 4, 2) := by decide +kernel
theorem dX1_mostFor_45 : decode cX1_mostFor 45 = .ok (.iload 6, 2) := by decide +kernel
theorem dX1_mostFor_47 : decode cX1_mostFor 47 = .ok (.iaload, 1) := by decide +kernel
theorem dX1_mostFor_48 : decode cX1_mostFor 48 = .ok (.iload_n 2, 1) := by decide +kernel
theorem dX1_mostFor_49 : decode cX1_mostFor 49 = .ok (.if_icmp .lt 25, 3) := by decide +kernel
theorem dX1_mostFor_52 : decode cX1_mostFor 52 = .ok (.iload 5, 2) := by decide +kernel
theorem dX1_mostFor_54 : decode cX1_mostFor 54 = .ok (.bipush (-5), 2) := by decide +kernel
theorem dX1_mostFor_56 : decode cX1_mostFor 56 = .ok (.if_icmp .eq 14, 3) := by decide +kernel
theorem dX1_mostFor_59 : decode cX1_mostFor 59 = .ok (.aload_n 3, 1) := by decide +kernel
theorem dX1_mostFor_60 : decode cX1_mostFor 60 = .ok (.iload 6, 2) := by decide +kernel
theorem dX1_mostFor_62 : decode cX1_mostFor 62 = .ok (.iaload, 1) := by decide +kernel
theorem dX1_mostFor_63 : decode cX1_mostFor 63 = .ok (.aload_n 3, 1) := by decide +kernel
theorem dX1_mostFor_64 : decode cX1_mostFor 64 = .ok (.iload 5, 2) := by decide +kernel
theorem dX1_mostFor_66 : decode cX1_mostFor 66 = .ok (.iaload, 1) := by decide +kernel
theorem dX1_mostFor_67 : decode cX1_mostFor 67 = .ok (.if_icmp .le 7, 3) := by decide +kernel
theorem dX1_mostFor_70 : decode cX1_mostFor 70 = .ok (.iload 6, 2) := by decide +kernel
theorem dX1_mostFor_72 : decode cX1_mostFor 72 = .ok (.istore 5, 2) := by decide +kernel
theorem dX1_mostFor_74 : decode cX1_mostFor 74 = .ok (.iinc 6 1, 3) := by decide +kernel
theorem dX1_mostFor_77 : decode cX1_mostFor 77 = .ok (.goto (-53), 3) := by decide +kernel
theorem dX1_mostFor_80 : decode cX1_mostFor 80 = .ok (.iload 5, 2) := by decide +kernel
theorem dX1_mostFor_82 : decode cX1_mostFor 82 = .ok (.ireturn, 1) := by decide +kernel
theorem dX1_follow_0 : decode cX1_follow 0 = .ok (.bipush (-5), 2) := by decide +kernel
theorem dX1_follow_2 : decode cX1_follow 2 = .ok (.istore_n 2, 1) := by decide +kernel
theorem dX1_follow_3 : decode cX1_follow 3 = .ok (.bipush (-5), 2) := by decide +kernel
theorem dX1_follow_5 : decode cX1_follow 5 = .ok (.istore_n 3, 1) := by decide +kernel
theorem dX1_follow_6 : decode cX1_follow 6 = .ok (.iconst 0, 1) := by decide +kernel
theorem dX1_follow_7 : decode cX1_follow 7 = .ok (.istore 4, 2) := by decide +kernel
theorem dX1_follow_9 : decode cX1_follow 9 = .ok (.iload 4, 2) := by decide +kernel
theorem dX1_follow_11 : decode cX1_follow 11 = .ok (.aload_n 0, 1) := by decide +kernel
theorem dX1_follow_12 : decode cX1_follow 12 = .ok (.getfield 20, 3) := by decide +kernel
theorem dX1_follow_15 : decode cX1_follow 15 = .ok (.if_icmp .gt 35, 3) := by decide +kernel
theorem dX1_follow_18 : decode cX1_follow 18 = .ok (.aload_n 0, 1) := by decide +kernel
theorem dX1_follow_19 : decode cX1_follow 19 = .ok (.getfield 9, 3) := by decide +kernel
theorem dX1_follow_22 : decode cX1_follow 22 = .ok (.iload 4, 2) := by decide +kernel
theorem dX1_follow_24 : decode cX1_follow 24 = .ok (.baload, 1) := by decide +kernel
theorem dX1_follow_25 : decode cX1_follow 25 = .ok (.ifCond .eq 19, 3) := by decide +kernel
theorem dX1_follow_28 : decode cX1_follow 28 = .ok (.iload_n 2, 1) := by decide +kernel
theorem dX1_follow_29 : decode cX1_follow 29 = .ok (.bipush (-5), 2) := by decide +kernel
theorem dX1_follow_31 : decode cX1_follow 31 = .ok (.if_icmp .ne 8, 3) := by decide +kernel
theorem dX1_follow_34 : decode cX1_follow 34 = .ok (.iload 4, 2) := by decide +kernel
theorem dX1_follow_36 : decode cX1_follow 36 = .ok (.goto 4, 3) := by decide +kernel
theorem dX1_follow_39 : decode cX1_follow 39 = .ok (.iload_n 2, 1) := by decide +kernel
theorem dX1_follow_40 : decode cX1_follow 40 = .ok (.istore_n 2, 1) := by decide +kernel
theorem dX1_follow_41 : decode cX1_follow 41 = .ok (.iload 4, 2) := by decide +kernel
theorem dX1_follow_43 : decode cX1_follow 43 = .ok (.istore_n 3, 1) := by decide +kernel
theorem dX1_follow_44 : decode cX1_follow 44 = .ok (.iinc 4 1, 3) := by decide +kernel
theorem dX1_follow_47 : decode cX1_follow 47 = .ok (.goto (-38), 3) := by decide +kernel
theorem dX1_follow_50 : decode cX1_follow 50 = .ok (.iload_n 2, 1) := by decide +kernel
theorem dX1_follow_51 : decode cX1_follow 51 = .ok (.istore 4, 2) := by decide +kernel
theorem dX1_follow_53 : decode cX1_follow 53 = .ok (.iload_n 2, 1) := by decide +kernel
theorem dX1_follow_54 : decode cX1_follow 54 = .ok (.bipush (-5), 2) := by decide +kernel
theorem dX1_follow_56 : decode cX1_follow 56 = .ok (.if_icmp .eq 35, 3) := by decide +kernel
theorem dX1_follow_59 : decode cX1_follow 59 = .ok (.aload_n 1, 1) := by decide +kernel
theorem dX1_follow_60 : decode cX1_follow 60 = .ok (.getfield 72, 3) := by decide +kernel
theorem dX1_follow_63 : decode cX1_follow 63 = .ok (.iconst (-1), 1) := by decide +kernel
theorem dX1_follow_64 : decode cX1_follow 64 = .ok (.if_icmp .ne 27, 3) := by decide +kernel
theorem dX1_follow_67 : decode cX1_follow 67 = .ok (.aload_n 0, 1) := by decide +kernel
theorem dX1_follow_68 : decode cX1_follow 68 = .ok (.aload_n 1, 1) := by decide +kernel
theorem dX1_follow_69 : decode cX1_follow 69 = .ok (.iload_n 2, 1) := by decide +kernel
theorem dX1_follow_70 : decode cX1_follow 70 = .ok (.iload_n 3, 1) := by decide +kernel
theorem dX1_follow_71 : decode cX1_follow 71 = .ok (.aload_n 0, 1) := by decide +kernel
theorem dX1_follow_72 : decode cX1_follow 72 = .ok (.getfield 20, 3) := by decide +kernel
theorem dX1_follow_75 : decode cX1_follow 75 = .ok (.aload_n 0, 1) := by decide +kernel
theorem dX1_follow_76 : decode cX1_follow 76 = .ok (.getfield 24, 3) := by decide +kernel
theorem dX1_follow_79 : decode cX1_follow 79 = .ok (.aload_n 0, 1) := by decide +kernel
theorem dX1_follow_80 : decode cX1_follow 80 = .ok (.getfield 27, 3) := by decide +kernel
theorem dX1_follow_83 : decode cX1_follow 83 = .ok (.invokevirtual 77, 3) := by decide +kernel
theorem dX1_follow_86 : decode cX1_follow 86 = .ok (.invokevirtual 81, 3) := by decide +kernel
theorem dX1_follow_89 : decode cX1_follow 89 = .ok (.istore 4, 2) := by decide +kernel
theorem dX1_follow_91 : decode cX1_follow 91 = .ok (.aload_n 0, 1) := by decide +kernel
theorem dX1_follow_92 : decode cX1_follow 92 = .ok (.iload 4, 2) := by decide +kernel
theorem dX1_follow_94 : decode cX1_follow 94 = .ok (.iload 4, 2) := by decide +kernel
theorem dX1_follow_96 : decode cX1_follow 96 = .ok (.iconst (-1), 1) := by decide +kernel
theorem dX1_follow_97 : decode cX1_follow 97 = .ok (.invokevirtual 58, 3) := by decide +kernel
theorem dX1_follow_100 : decode cX1_follow 100 = .ok (.return_, 1) := by decide +kernel
theorem dX1_nearest_0 : decode cX1_nearest 0 = .ok (.lconst 0, 1) := by decide +kernel
theorem dX1_nearest_1 : decode cX1_nearest 1 = .ok (.aload_n 0, 1) := by decide +kernel
theorem dX1_nearest_2 : decode cX1_nearest 2 = .ok (.getfield 20, 3) := by decide +kernel
theorem dX1_nearest_5 : decode cX1_nearest 5 = .ok (.i2l, 1) := by decide +kernel
theorem dX1_nearest_6 : decode cX1_nearest 6 = .ok (.lload_n 1, 1) := by decide +kernel
theorem dX1_nearest_7 : decode cX1_nearest 7 = .ok (.invokestatic 85, 3) := by decide +kernel
theorem dX1_nearest_10 : decode cX1_nearest 10 = .ok (.invokestatic 88, 3) := by decide +kernel
theorem dX1_nearest_13 : decode cX1_nearest 13 = .ok (.l2i, 1) := by decide +kernel
theorem dX1_nearest_14 : decode cX1_nearest 14 = .ok (.istore_n 3, 1) := by decide +kernel
theorem dX1_nearest_15 : decode cX1_nearest 15 = .ok (.bipush (-5), 2) := by decide +kernel
theorem dX1_nearest_17 : decode cX1_nearest 17 = .ok (.istore 4, 2) := by decide +kernel
theorem dX1_nearest_19 : decode cX1_nearest 19 = .ok (.iconst 0, 1) := by decide +kernel
theorem dX1_nearest_20 : decode cX1_nearest 20 = .ok (.istore 5, 2) := by decide +kernel
theorem dX1_nearest_22 : decode cX1_nearest 22 = .ok (.iload 5, 2) := by decide +kernel
theorem dX1_nearest_24 : decode cX1_nearest 24 = .ok (.aload_n 0, 1) := by decide +kernel
theorem dX1_nearest_25 : decode cX1_nearest 25 = .ok (.getfield 20, 3) := by decide +kernel
theorem dX1_nearest_28 : decode cX1_nearest 28 = .ok (.if_icmp .gt 47, 3) := by decide +kernel
theorem dX1_nearest_31 : decode cX1_nearest 31 = .ok (.aload_n 0, 1) := by decide +kernel
theorem dX1_nearest_32 : decode cX1_nearest 32 = .ok (.getfield 9, 3) := by decide +kernel
theorem dX1_nearest_35 : decode cX1_nearest 35 = .ok (.iload 5, 2) := by decide +kernel
theorem dX1_nearest_37 : decode cX1_nearest 37 = .ok (.baload, 1) := by decide +kernel
theorem dX1_nearest_38 : decode cX1_nearest 38 = .ok (.ifCond .eq 31, 3) := by decide +kernel
theorem dX1_nearest_41 : decode cX1_nearest 41 = .ok (.iload 4, 2) := by decide +kernel
theorem dX1_nearest_43 : decode cX1_nearest 43 = .ok (.bipush (-5), 2) := by decide +kernel
theorem dX1_nearest_45 : decode cX1_nearest 45 = .ok (.if_icmp .eq 20, 3) := by decide +kernel
theorem dX1_nearest_48 : decode cX1_nearest 48 = .ok (.iload 5, 2) := by decide +kernel
theorem dX1_nearest_50 : decode cX1_nearest 50 = .ok (.iload_n 3, 1) := by decide +kernel
theorem dX1_nearest_51 : decode cX1_nearest 51 = .ok (.isub, 1) := by decide +kernel
theorem dX1_nearest_52 : decode cX1_nearest 52 = .ok (.invokestatic 91, 3) := by decide +kernel
theorem dX1_nearest_55 : decode cX1_nearest 55 = .ok (.iload 4, 2) := by decide +kernel
theorem dX1_nearest_57 : decode cX1_nearest 57 = .ok (.iload_n 3, 1) := by decide +kernel
theorem dX1_nearest_58 : decode cX1_nearest 58 = .ok (.isub, 1) := by decide +kernel
theorem dX1_nearest_59 : decode cX1_nearest 59 = .ok (.invokestatic 91, 3) := by decide +kernel
theorem dX1_nearest_62 : decode cX1_nearest 62 = .ok (.if_icmp .ge 7, 3) := by decide +kernel
theorem dX1_nearest_65 : decode cX1_nearest 65 = .ok (.iload 5, 2) := by decide +kernel
theorem dX1_nearest_67 : decode cX1_nearest 67 = .ok (.istore 4, 2) := by decide +kernel
theorem dX1_nearest_69 : decode cX1_nearest 69 = .ok (.iinc 5 1, 3) := by decide +kernel
theorem dX1_nearest_72 : decode cX1_nearest 72 = .ok (.goto (-50), 3) := by decide +kernel
theorem dX1_nearest_75 : decode cX1_nearest 75 = .ok (.iload 4, 2) := by decide +kernel
theorem dX1_nearest_77 : decode cX1_nearest 77 = .ok (.ireturn, 1) := by decide +kernel
theorem dX2_append_0 : decode cX2_append 0 = .ok (.aload_n 0, 1) := by decide +kernel
theorem dX2_append_1 : decode cX2_append 1 = .ok (.getfield 9, 3) := by decide +kernel
theorem dX2_append_4 : decode cX2_append 4 = .ok (.bipush 40, 2) := by decide +kernel
theorem dX2_append_6 : decode cX2_append 6 = .ok (.if_icmp .ge 27, 3) := by decide +kernel
theorem dX2_append_9 : decode cX2_append 9 = .ok (.aload_n 0, 1) := by decide +kernel
theorem dX2_append_10 : decode cX2_append 10 = .ok (.getfield 18, 3) := by decide +kernel
theorem dX2_append_13 : decode cX2_append 13 = .ok (.aload_n 0, 1) := by decide +kernel
theorem dX2_append_14 : decode cX2_append 14 = .ok (.getfield 9, 3) := by decide +kernel
theorem dX2_append_17 : decode cX2_append 17 = .ok (.iload_n 1, 1) := by decide +kernel
theorem dX2_append_18 : decode cX2_append 18 = .ok (.iastore, 1) := by decide +kernel
theorem dX2_append_19 : decode cX2_append 19 = .ok (.aload_n 0, 1) := by decide +kernel
theorem dX2_append_20 : decode cX2_append 20 = .ok (.dup, 1) := by decide +kernel
theorem dX2_append_21 : decode cX2_append 21 = .ok (.getfield 9, 3) := by decide +kernel
theorem dX2_append_24 : decode cX2_append 24 = .ok (.iconst 1, 1) := by decide +kernel
theorem dX2_append_25 : decode cX2_append 25 = .ok (.iadd, 1) := by decide +kernel
theorem dX2_append_26 : decode cX2_append 26 = .ok (.putfield 9, 3) := by decide +kernel
theorem dX2_append_29 : decode cX2_append 29 = .ok (.aload_n 0, 1) := by decide +kernel
theorem dX2_append_30 : decode cX2_append 30 = .ok (.invokevirtual 41, 3) := by decide +kernel
theorem dX2_append_33 : decode cX2_append 33 = .ok (.return_, 1) := by decide +kernel
theorem dX2_clear_0 : decode cX2_clear 0 = .ok (.aload_n 0, 1) := by decide +kernel
theorem dX2_clear_1 : decode cX2_clear 1 = .ok (.iconst 0, 1) := by decide +kernel
theorem dX2_clear_2 : decode cX2_clear 2 = .ok (.putfield 9, 3) := by decide +kernel
theorem dX2_clear_5 : decode cX2_clear 5 = .ok (.aload_n 0, 1) := by decide +kernel
theorem dX2_clear_6 : decode cX2_clear 6 = .ok (.invokevirtual 41, 3) := by decide +kernel
theorem dX2_clear_9 : decode cX2_clear 9 = .ok (.return_, 1) := by decide +kernel
theorem dX2_mixInto_0 : decode cX2_mixInto 0 = .ok (.ldc2_w 44, 3) := by decide +kernel
theorem dX2_mixInto_3 : decode cX2_mixInto 3 = .ok (.lload_n 1, 1) := by decide +kernel
theorem dX2_mixInto_4 : decode cX2_mixInto 4 = .ok (.lmul, 1) := by decide +kernel
theorem dX2_mixInto_5 : decode cX2_mixInto 5 = .ok (.aload_n 0, 1) := by decide +kernel
theorem dX2_mixInto_6 : decode cX2_mixInto 6 = .ok (.getfield 9, 3) := by decide +kernel
theorem dX2_mixInto_9 : decode cX2_mixInto 9 = .ok (.i2l, 1) := by decide +kernel
theorem dX2_mixInto_10 : decode cX2_mixInto 10 = .ok (.ladd, 1) := by decide +kernel
theorem dX2_mixInto_11 : decode cX2_mixInto 11 = .ok (.lstore_n 3, 1) := by decide +kernel
theorem dX2_mixInto_12 : decode cX2_mixInto 12 = .ok (.iconst 0, 1) := by decide +kernel
theorem dX2_mixInto_13 : decode cX2_mixInto 13 = .ok (.istore 5, 2) := by decide +kernel
theorem dX2_mixInto_15 : decode cX2_mixInto 15 = .ok (.iload 5, 2) := by decide +kernel
theorem dX2_mixInto_17 : decode cX2_mixInto 17 = .ok (.aload_n 0, 1) := by decide +kernel
theorem dX2_mixInto_18 : decode cX2_mixInto 18 = .ok (.getfield 9, 3) := by decide +kernel
theorem dX2_mixInto_21 : decode cX2_mixInto 21 = .ok (.if_icmp .ge 24, 3) := by decide +kernel
theorem dX2_mixInto_24 : decode cX2_mixInto 24 = .ok (.ldc2_w 44, 3) := by decide +kernel
theorem dX2_mixInto_27 : decode cX2_mixInto 27 = .ok (.lload_n 3, 1) := by decide +kernel
theorem dX2_mixInto_28 : decode cX2_mixInto 28 = .ok (.lmul, 1) := by decide +kernel
theorem dX2_mixInto_29 : decode cX2_mixInto 29 = .ok (.aload_n 0, 1) := by decide +kernel
theorem dX2_mixInto_30 : decode cX2_mixInto 30 = .ok (.getfield 18, 3) := by decide +kernel
theorem dX2_mixInto_33 : decode cX2_mixInto 33 = .ok (.iload 5, 2) := by decide +kernel
theorem dX2_mixInto_35 : decode cX2_mixInto 35 = .ok (.iaload, 1) := by decide +kernel
theorem dX2_mixInto_36 : decode cX2_mixInto 36 = .ok (.i2l, 1) := by decide +kernel
theorem dX2_mixInto_37 : decode cX2_mixInto 37 = .ok (.ladd, 1) := by decide +kernel
theorem dX2_mixInto_38 : decode cX2_mixInto 38 = .ok (.lstore_n 3, 1) := by decide +kernel
theorem dX2_mixInto_39 : decode cX2_mixInto 39 = .ok (.iinc 5 1, 3) := by decide +kernel
theorem dX2_mixInto_42 : decode cX2_mixInto 42 = .ok (.goto (-27), 3) := by decide +kernel
theorem dX2_mixInto_45 : decode cX2_mixInto 45 = .ok (.lload_n 3, 1) := by decide +kernel
theorem dX2_mixInto_46 : decode cX2_mixInto 46 = .ok (.lreturn, 1) := by decide +kernel
theorem dX2_compile_0 : decode cX2_compile 0 = .ok (.aload_n 0, 1) := by decide +kernel
theorem dX2_compile_1 : decode cX2_compile 1 = .ok (.iconst 0, 1) := by decide +kernel
theorem dX2_compile_2 : decode cX2_compile 2 = .ok (.putfield 35, 3) := by decide +kernel
theorem dX2_compile_5 : decode cX2_compile 5 = .ok (.aload_n 0, 1) := by decide +kernel
theorem dX2_compile_6 : decode cX2_compile 6 = .ok (.iconst 0, 1) := by decide +kernel
theorem dX2_compile_7 : decode cX2_compile 7 = .ok (.putfield 38, 3) := by decide +kernel
theorem dX2_compile_10 : decode cX2_compile 10 = .ok (.aload_n 0, 1) := by decide +kernel
theorem dX2_compile_11 : decode cX2_compile 11 = .ok (.iconst (-1), 1) := by decide +kernel
theorem dX2_compile_12 : decode cX2_compile 12 = .ok (.putfield 15, 3) := by decide +kernel
theorem dX2_compile_15 : decode cX2_compile 15 = .ok (.aload_n 0, 1) := by decide +kernel
theorem dX2_compile_16 : decode cX2_compile 16 = .ok (.iconst 0, 1) := by decide +kernel
theorem dX2_compile_17 : decode cX2_compile 17 = .ok (.iconst 0, 1) := by decide +kernel
theorem dX2_compile_18 : decode cX2_compile 18 = .ok (.invokevirtual 46, 3) := by decide +kernel
theorem dX2_compile_21 : decode cX2_compile 21 = .ok (.aload_n 0, 1) := by decide +kernel
theorem dX2_compile_22 : decode cX2_compile 22 = .ok (.invokevirtual 50, 3) := by decide +kernel
theorem dX2_compile_25 : decode cX2_compile 25 = .ok (.iconst (-1), 1) := by decide +kernel
theorem dX2_compile_26 : decode cX2_compile 26 = .ok (.if_icmp .eq 12, 3) := by decide +kernel
theorem dX2_compile_29 : decode cX2_compile 29 = .ok (.aload_n 0, 1) := by decide +kernel
theorem dX2_compile_30 : decode cX2_compile 30 = .ok (.aload_n 0, 1) := by decide +kernel
theorem dX2_compile_31 : decode cX2_compile 31 = .ok (.getfield 38, 3) := by decide +kernel
theorem dX2_compile_34 : decode cX2_compile 34 = .ok (.iconst 1, 1) := by decide +kernel
theorem dX2_compile_35 : decode cX2_compile 35 = .ok (.invokevirtual 54, 3) := by decide +kernel
theorem dX2_compile_38 : decode cX2_compile 38 = .ok (.return_, 1) := by decide +kernel
theorem dX2_spoil_0 : decode cX2_spoil 0 = .ok (.aload_n 0, 1) := by decide +kernel
theorem dX2_spoil_1 : decode cX2_spoil 1 = .ok (.getfield 15, 3) := by decide +kernel
theorem dX2_spoil_4 : decode cX2_spoil 4 = .ok (.iconst (-1), 1) := by decide +kernel
theorem dX2_spoil_5 : decode cX2_spoil 5 = .ok (.if_icmp .ne 13, 3) := by decide +kernel
theorem dX2_spoil_8 : decode cX2_spoil 8 = .ok (.aload_n 0, 1) := by decide +kernel
theorem dX2_spoil_9 : decode cX2_spoil 9 = .ok (.bipush 10, 2) := by decide +kernel
theorem dX2_spoil_11 : decode cX2_spoil 11 = .ok (.iload_n 1, 1) := by decide +kernel
theorem dX2_spoil_12 : decode cX2_spoil 12 = .ok (.imul, 1) := by decide +kernel
theorem dX2_spoil_13 : decode cX2_spoil 13 = .ok (.iload_n 2, 1) := by decide +kernel
theorem dX2_spoil_14 : decode cX2_spoil 14 = .ok (.iadd, 1) := by decide +kernel
theorem dX2_spoil_15 : decode cX2_spoil 15 = .ok (.putfield 15, 3) := by decide +kernel
theorem dX2_spoil_18 : decode cX2_spoil 18 = .ok (.return_, 1) := by decide +kernel
theorem dX2_emit_0 : decode cX2_emit 0 = .ok (.aload_n 0, 1) := by decide +kernel
theorem dX2_emit_1 : decode cX2_emit 1 = .ok (.getfield 35, 3) := by decide +kernel
theorem dX2_emit_4 : decode cX2_emit 4 = .ok (.bipush 40, 2) := by decide +kernel
theorem dX2_emit_6 : decode cX2_emit 6 = .ok (.if_icmp .ge 33, 3) := by decide +kernel
theorem dX2_emit_9 : decode cX2_emit 9 = .ok (.aload_n 0, 1) := by decide +kernel
theorem dX2_emit_10 : decode cX2_emit 10 = .ok (.getfield 22, 3) := by decide +kernel
theorem dX2_emit_13 : decode cX2_emit 13 = .ok (.aload_n 0, 1) := by decide +kernel
theorem dX2_emit_14 : decode cX2_emit 14 = .ok (.getfield 35, 3) := by decide +kernel
theorem dX2_emit_17 : decode cX2_emit 17 = .ok (.iload_n 1, 1) := by decide +kernel
theorem dX2_emit_18 : decode cX2_emit 18 = .ok (.iastore, 1) := by decide +kernel
theorem dX2_emit_19 : decode cX2_emit 19 = .ok (.aload_n 0, 1) := by decide +kernel
theorem dX2_emit_20 : decode cX2_emit 20 = .ok (.getfield 25, 3) := by decide +kernel
theorem dX2_emit_23 : decode cX2_emit 23 = .ok (.aload_n 0, 1) := by decide +kernel
theorem dX2_emit_24 : decode cX2_emit 24 = .ok (.getfield 35, 3) := by decide +kernel
theorem dX2_emit_27 : decode cX2_emit 27 = .ok (.iload_n 2, 1) := by decide +kernel
theorem dX2_emit_28 : decode cX2_emit 28 = .ok (.iastore, 1) := by decide +kernel
theorem dX2_emit_29 : decode cX2_emit 29 = .ok (.aload_n 0, 1) := by decide +kernel
theorem dX2_emit_30 : decode cX2_emit 30 = .ok (.dup, 1) := by decide +kernel
theorem dX2_emit_31 : decode cX2_emit 31 = .ok (.getfield 35, 3) := by decide +kernel
theorem dX2_emit_34 : decode cX2_emit 34 = .ok (.iconst 1, 1) := by decide +kernel
theorem dX2_emit_35 : decode cX2_emit 35 = .ok (.iadd, 1) := by decide +kernel
theorem dX2_emit_36 : decode cX2_emit 36 = .ok (.putfield 35, 3) := by decide +kernel
theorem dX2_emit_39 : decode cX2_emit 39 = .ok (.return_, 1) := by decide +kernel
theorem dX2_ahead_0 : decode cX2_ahead 0 = .ok (.aload_n 0, 1) := by decide +kernel
theorem dX2_ahead_1 : decode cX2_ahead 1 = .ok (.getfield 38, 3) := by decide +kernel
theorem dX2_ahead_4 : decode cX2_ahead 4 = .ok (.aload_n 0, 1) := by decide +kernel
theorem dX2_ahead_5 : decode cX2_ahead 5 = .ok (.getfield 9, 3) := by decide +kernel
theorem dX2_ahead_8 : decode cX2_ahead 8 = .ok (.if_icmp .ge 30, 3) := by decide +kernel
theorem dX2_ahead_11 : decode cX2_ahead 11 = .ok (.aload_n 0, 1) := by decide +kernel
theorem dX2_ahead_12 : decode cX2_ahead 12 = .ok (.getfield 18, 3) := by decide +kernel
theorem dX2_ahead_15 : decode cX2_ahead 15 = .ok (.aload_n 0, 1) := by decide +kernel
theorem dX2_ahead_16 : decode cX2_ahead 16 = .ok (.getfield 38, 3) := by decide +kernel
theorem dX2_ahead_19 : decode cX2_ahead 19 = .ok (.iaload, 1) := by decide +kernel
theorem dX2_ahead_20 : decode cX2_ahead 20 = .ok (.bipush 32, 2) := by decide +kernel
theorem dX2_ahead_22 : decode cX2_ahead 22 = .ok (.if_icmp .ne 16, 3) := by decide +kernel
theorem dX2_ahead_25 : decode cX2_ahead 25 = .ok (.aload_n 0, 1) := by decide +kernel
theorem dX2_ahead_26 : decode cX2_ahead 26 = .ok (.dup, 1) := by decide +kernel
theorem dX2_ahead_27 : decode cX2_ahead 27 = .ok (.getfield 38, 3) := by decide +kernel
theorem dX2_ahead_30 : decode cX2_ahead 30 = .ok (.iconst 1, 1) := by decide +kernel
theorem dX2_ahead_31 : decode cX2_ahead 31 = .ok (.iadd, 1) := by decide +kernel
theorem dX2_ahead_32 : decode cX2_ahead 32 = .ok (.putfield 38, 3) := by decide +kernel
theorem dX2_ahead_35 : decode cX2_ahead 35 = .ok (.goto (-35), 3) := by decide +kernel
theorem dX2_ahead_38 : decode cX2_ahead 38 = .ok (.aload_n 0, 1) := by decide +kernel
theorem dX2_ahead_39 : decode cX2_ahead 39 = .ok (.getfield 38, 3) := by decide +kernel
theorem dX2_ahead_42 : decode cX2_ahead 42 = .ok (.aload_n 0, 1) := by decide +kernel
theorem dX2_ahead_43 : decode cX2_ahead 43 = .ok (.getfield 9, 3) := by decide +kernel
theorem dX2_ahead_46 : decode cX2_ahead 46 = .ok (.if_icmp .ge 15, 3) := by decide +kernel
theorem dX2_ahead_49 : decode cX2_ahead 49 = .ok (.aload_n 0, 1) := by decide +kernel
theorem dX2_ahead_50 : decode cX2_ahead 50 = .ok (.getfield 18, 3) := by decide +kernel
theorem dX2_ahead_53 : decode cX2_ahead 53 = .ok (.aload_n 0, 1) := by decide +kernel
theorem dX2_ahead_54 : decode cX2_ahead 54 = .ok (.getfield 38, 3) := by decide +kernel
theorem dX2_ahead_57 : decode cX2_ahead 57 = .ok (.iaload, 1) := by decide +kernel
theorem dX2_ahead_58 : decode cX2_ahead 58 = .ok (.goto 4, 3) := by decide +kernel
theorem dX2_ahead_61 : decode cX2_ahead 61 = .ok (.iconst (-1), 1) := by decide +kernel
theorem dX2_ahead_62 : decode cX2_ahead 62 = .ok (.ireturn, 1) := by decide +kernel
theorem dX2_readLevel_0 : decode cX2_readLevel 0 = .ok (.iload_n 1, 1) := by decide +kernel
theorem dX2_readLevel_1 : decode cX2_readLevel 1 = .ok (.iconst 5, 1) := by decide +kernel
theorem dX2_readLevel_2 : decode cX2_readLevel 2 = .ok (.if_icmp .lt 9, 3) := by decide +kernel
theorem dX2_readLevel_5 : decode cX2_readLevel 5 = .ok (.aload_n 0, 1) := by decide +kernel
theorem dX2_readLevel_6 : decode cX2_readLevel 6 = .ok (.iload_n 2, 1) := by decide +kernel
theorem dX2_readLevel_7 : decode cX2_readLevel 7 = .ok (.invokevirtual 57, 3) := by decide +kernel
theorem dX2_readLevel_10 : decode cX2_readLevel 10 = .ok (.return_, 1) := by decide +kernel
theorem dX2_readLevel_11 : decode cX2_readLevel 11 = .ok (.aload_n 0, 1) := by decide +kernel
theorem dX2_readLevel_12 : decode cX2_readLevel 12 = .ok (.iload_n 1, 1) := by decide +kernel
theorem dX2_readLevel_13 : decode cX2_readLevel 13 = .ok (.iconst 1, 1) := by decide +kernel
theorem dX2_readLevel_14 : decode cX2_readLevel 14 = .ok (.iadd, 1) := by decide +kernel
theorem dX2_readLevel_15 : decode cX2_readLevel 15 = .ok (.iload_n 2, 1) := by decide +kernel
theorem dX2_readLevel_16 : decode cX2_readLevel 16 = .ok (.invokevirtual 46, 3) := by decide +kernel
theorem dX2_readLevel_19 : decode cX2_readLevel 19 = .ok (.iload_n 1, 1) := by decide +kernel
theorem dX2_readLevel_20 : decode cX2_readLevel 20 = .ok (.iconst 2, 1) := by decide +kernel
theorem dX2_readLevel_21 : decode cX2_readLevel 21 = .ok (.if_icmp .ne 7, 3) := by decide +kernel
theorem dX2_readLevel_24 : decode cX2_readLevel 24 = .ok (.iconst 1, 1) := by decide +kernel
theorem dX2_readLevel_25 : decode cX2_readLevel 25 = .ok (.goto 5, 3) := by decide +kernel
theorem dX2_readLevel_28 : decode cX2_readLevel 28 = .ok (.bipush 40, 2) := by decide +kernel
theorem dX2_readLevel_30 : decode cX2_readLevel 30 = .ok (.istore_n 3, 1) := by decide +kernel
theorem dX2_readLevel_31 : decode cX2_readLevel 31 = .ok (.iconst 0, 1) := by decide +kernel
theorem dX2_readLevel_32 : decode cX2_readLevel 32 = .ok (.istore 4, 2) := by decide +kernel
theorem dX2_readLevel_34 : decode cX2_readLevel 34 = .ok (.iload 4, 2) := by decide +kernel
theorem dX2_readLevel_36 : decode cX2_readLevel 36 = .ok (.iload_n 3, 1) := by decide +kernel
theorem dX2_readLevel_37 : decode cX2_readLevel 37 = .ok (.if_icmp .ge 58, 3) := by decide +kernel
theorem dX2_readLevel_40 : decode cX2_readLevel 40 = .ok (.aload_n 0, 1) := by decide +kernel
theorem dX2_readLevel_41 : decode cX2_readLevel 41 = .ok (.getfield 15, 3) := by decide +kernel
theorem dX2_readLevel_44 : decode cX2_readLevel 44 = .ok (.iconst (-1), 1) := by decide +kernel
theorem dX2_readLevel_45 : decode cX2_readLevel 45 = .ok (.if_icmp .ne 50, 3) := by decide +kernel
theorem dX2_readLevel_48 : decode cX2_readLevel 48 = .ok (.aload_n 0, 1) := by decide +kernel
theorem dX2_readLevel_49 : decode cX2_readLevel 49 = .ok (.invokevirtual 50, 3) := by decide +kernel
theorem dX2_readLevel_52 : decode cX2_readLevel 52 = .ok (.istore 5, 2) := by decide +kernel
theorem dX2_readLevel_54 : decode cX2_readLevel 54 = .ok (.iload_n 1, 1) := by decide +kernel
theorem dX2_readLevel_55 : decode cX2_readLevel 55 = .ok (.iload 5, 2) := by decide +kernel
theorem dX2_readLevel_57 : decode cX2_readLevel 57 = .ok (.invokestatic 61, 3) := by decide +kernel
theorem dX2_readLevel_60 : decode cX2_readLevel 60 = .ok (.ifCond .ne 4, 3) := by decide +kernel
theorem dX2_readLevel_63 : decode cX2_readLevel 63 = .ok (.return_, 1) := by decide +kernel
theorem dX2_readLevel_64 : decode cX2_readLevel 64 = .ok (.aload_n 0, 1) := by decide +kernel
theorem dX2_readLevel_65 : decode cX2_readLevel 65 = .ok (.dup, 1) := by decide +kernel
theorem dX2_readLevel_66 : decode cX2_readLevel 66 = .ok (.getfield 38, 3) := by decide +kernel
theorem dX2_readLevel_69 : decode cX2_readLevel 69 = .ok (.iconst 1, 1) := by decide +kernel
theorem dX2_readLevel_70 : decode cX2_readLevel 70 = .ok (.iadd, 1) := by decide +kernel
theorem dX2_readLevel_71 : decode cX2_readLevel 71 = .ok (.putfield 38, 3) := by decide +kernel
theorem dX2_readLevel_74 : decode cX2_readLevel 74 = .ok (.aload_n 0, 1) := by decide +kernel
theorem dX2_readLevel_75 : decode cX2_readLevel 75 = .ok (.iload_n 1, 1) := by decide +kernel
theorem dX2_readLevel_76 : decode cX2_readLevel 76 = .ok (.iconst 1, 1) := by decide +kernel
theorem dX2_readLevel_77 : decode cX2_readLevel 77 = .ok (.iadd, 1) := by decide +kernel
theorem dX2_readLevel_78 : decode cX2_readLevel 78 = .ok (.iload_n 2, 1) := by decide +kernel
theorem dX2_readLevel_79 : decode cX2_readLevel 79 = .ok (.invokevirtual 46, 3) := by decide +kernel
theorem dX2_readLevel_82 : decode cX2_readLevel 82 = .ok (.aload_n 0, 1) := by decide +kernel
theorem dX2_readLevel_83 : decode cX2_readLevel 83 = .ok (.iload 5, 2) := by decide +kernel
theorem dX2_readLevel_85 : decode cX2_readLevel 85 = .ok (.iconst 0, 1) := by decide +kernel
theorem dX2_readLevel_86 : decode cX2_readLevel 86 = .ok (.invokevirtual 65, 3) := by decide +kernel
theorem dX2_readLevel_89 : decode cX2_readLevel 89 = .ok (.iinc 4 1, 3) := by decide +kernel
theorem dX2_readLevel_92 : decode cX2_readLevel 92 = .ok (.goto (-58), 3) := by decide +kernel
theorem dX2_readLevel_95 : decode cX2_readLevel 95 = .ok (.return_, 1) := by decide +kernel
theorem dX2_joins_0 : decode cX2_joins 0 = .ok (.iload_n 0, 1) := by decide +kernel
theorem dX2_joins_1 : decode cX2_joins 1 = .ok (.tableswitch 97 0 3 #[31, 43, 55, 79], 31) := by decide +kernel
theorem dX2_joins_32 : decode cX2_joins 32 = .ok (.iload_n 1, 1) := by decide +kernel
theorem dX2_joins_33 : decode cX2_joins 33 = .ok (.bipush 124, 2) := by decide +kernel
theorem dX2_joins_35 : decode cX2_joins 35 = .ok (.if_icmp .ne 7, 3) := by decide +kernel
theorem dX2_joins_38 : decode cX2_joins 38 = .ok (.iconst 1, 1) := by decide +kernel
theorem dX2_joins_39 : decode cX2_joins 39 = .ok (.goto 4, 3) := by decide +kernel
theorem dX2_joins_42 : decode cX2_joins 42 = .ok (.iconst 0, 1) := by decide +kernel
theorem dX2_joins_43 : decode cX2_joins 43 = .ok (.ireturn, 1) := by decide +kernel
theorem dX2_joins_44 : decode cX2_joins 44 = .ok (.iload_n 1, 1) := by decide +kernel
theorem dX2_joins_45 : decode cX2_joins 45 = .ok (.bipush 38, 2) := by decide +kernel
theorem dX2_joins_47 : decode cX2_joins 47 = .ok (.if_icmp .ne 7, 3) := by decide +kernel
theorem dX2_joins_50 : decode cX2_joins 50 = .ok (.iconst 1, 1) := by decide +kernel
theorem dX2_joins_51 : decode cX2_joins 51 = .ok (.goto 4, 3) := by decide +kernel
theorem dX2_joins_54 : decode cX2_joins 54 = .ok (.iconst 0, 1) := by decide +kernel
theorem dX2_joins_55 : decode cX2_joins 55 = .ok (.ireturn, 1) := by decide +kernel
theorem dX2_joins_56 : decode cX2_joins 56 = .ok (.iload_n 1, 1) := by decide +kernel
theorem dX2_joins_57 : decode cX2_joins 57 = .ok (.bipush 60, 2) := by decide +kernel
theorem dX2_joins_59 : decode cX2_joins 59 = .ok (.if_icmp .eq 15, 3) := by decide +kernel
theorem dX2_joins_62 : decode cX2_joins 62 = .ok (.iload_n 1, 1) := by decide +kernel
theorem dX2_joins_63 : decode cX2_joins 63 = .ok (.bipush 62, 2) := by decide +kernel
theorem dX2_joins_65 : decode cX2_joins 65 = .ok (.if_icmp .eq 9, 3) := by decide +kernel
theorem dX2_joins_68 : decode cX2_joins 68 = .ok (.iload_n 1, 1) := by decide +kernel
theorem dX2_joins_69 : decode cX2_joins 69 = .ok (.bipush 61, 2) := by decide +kernel
theorem dX2_joins_71 : decode cX2_joins 71 = .ok (.if_icmp .ne 7, 3) := by decide +kernel
theorem dX2_joins_74 : decode cX2_joins 74 = .ok (.iconst 1, 1) := by decide +kernel
theorem dX2_joins_75 : decode cX2_joins 75 = .ok (.goto 4, 3) := by decide +kernel
theorem dX2_joins_78 : decode cX2_joins 78 = .ok (.iconst 0, 1) := by decide +kernel
theorem dX2_joins_79 : decode cX2_joins 79 = .ok (.ireturn, 1) := by decide +kernel
theorem dX2_joins_80 : decode cX2_joins 80 = .ok (.iload_n 1, 1) := by decide +kernel
theorem dX2_joins_81 : decode cX2_joins 81 = .ok (.bipush 43, 2) := by decide +kernel
theorem dX2_joins_83 : decode cX2_joins 83 = .ok (.if_icmp .eq 9, 3) := by decide +kernel
theorem dX2_joins_86 : decode cX2_joins 86 = .ok (.iload_n 1, 1) := by decide +kernel
theorem dX2_joins_87 : decode cX2_joins 87 = .ok (.bipush 45, 2) := by decide +kernel
theorem dX2_joins_89 : decode cX2_joins 89 = .ok (.if_icmp .ne 7, 3) := by decide +kernel
theorem dX2_joins_92 : decode cX2_joins 92 = .ok (.iconst 1, 1) := by decide +kernel
theorem dX2_joins_93 : decode cX2_joins 93 = .ok (.goto 4, 3) := by decide +kernel
theorem dX2_joins_96 : decode cX2_joins 96 = .ok (.iconst 0, 1) := by decide +kernel
theorem dX2_joins_97 : decode cX2_joins 97 = .ok (.ireturn, 1) := by decide +kernel
theorem dX2_joins_98 : decode cX2_joins 98 = .ok (.iload_n 0, 1) := by decide +kernel
theorem dX2_joins_99 : decode cX2_joins 99 = .ok (.iconst 4, 1) := by decide +kernel
theorem dX2_joins_100 : decode cX2_joins 100 = .ok (.if_icmp .ne 19, 3) := by decide +kernel
theorem dX2_joins_103 : decode cX2_joins 103 = .ok (.iload_n 1, 1) := by decide +kernel
theorem dX2_joins_104 : decode cX2_joins 104 = .ok (.bipush 42, 2) := by decide +kernel
theorem dX2_joins_106 : decode cX2_joins 106 = .ok (.if_icmp .eq 9, 3) := by decide +kernel
theorem dX2_joins_109 : decode cX2_joins 109 = .ok (.iload_n 1, 1) := by decide +kernel
theorem dX2_joins_110 : decode cX2_joins 110 = .ok (.bipush 47, 2) := by decide +kernel
theorem dX2_joins_112 : decode cX2_joins 112 = .ok (.if_icmp .ne 7, 3) := by decide +kernel
theorem dX2_joins_115 : decode cX2_joins 115 = .ok (.iconst 1, 1) := by decide +kernel
theorem dX2_joins_116 : decode cX2_joins 116 = .ok (.goto 4, 3) := by decide +kernel
theorem dX2_joins_119 : decode cX2_joins 119 = .ok (.iconst 0, 1) := by decide +kernel
theorem dX2_joins_120 : decode cX2_joins 120 = .ok (.ireturn, 1) := by decide +kernel
theorem dX2_readUnit_0 : decode cX2_readUnit 0 = .ok (.aload_n 0, 1) := by decide +kernel
theorem dX2_readUnit_1 : decode cX2_readUnit 1 = .ok (.getfield 38, 3) := by decide +kernel
theorem dX2_readUnit_4 : decode cX2_readUnit 4 = .ok (.istore_n 2, 1) := by decide +kernel
theorem dX2_readUnit_5 : decode cX2_readUnit 5 = .ok (.aload_n 0, 1) := by decide +kernel
theorem dX2_readUnit_6 : decode cX2_readUnit 6 = .ok (.invokevirtual 50, 3) := by decide +kernel
theorem dX2_readUnit_9 : decode cX2_readUnit 9 = .ok (.istore_n 3, 1) := by decide +kernel
theorem dX2_readUnit_10 : decode cX2_readUnit 10 = .ok (.iconst 0, 1) := by decide +kernel
theorem dX2_readUnit_11 : decode cX2_readUnit 11 = .ok (.istore 4, 2) := by decide +kernel
theorem dX2_readUnit_13 : decode cX2_readUnit 13 = .ok (.iload 4, 2) := by decide +kernel
theorem dX2_readUnit_15 : decode cX2_readUnit 15 = .ok (.bipush 40, 2) := by decide +kernel
theorem dX2_readUnit_17 : decode cX2_readUnit 17 = .ok (.if_icmp .ge 36, 3) := by decide +kernel
theorem dX2_readUnit_20 : decode cX2_readUnit 20 = .ok (.iload_n 3, 1) := by decide +kernel
theorem dX2_readUnit_21 : decode cX2_readUnit 21 = .ok (.bipush 33, 2) := by decide +kernel
theorem dX2_readUnit_23 : decode cX2_readUnit 23 = .ok (.if_icmp .eq 9, 3) := by decide +kernel
theorem dX2_readUnit_26 : decode cX2_readUnit 26 = .ok (.iload_n 3, 1) := by decide +kernel
theorem dX2_readUnit_27 : decode cX2_readUnit 27 = .ok (.bipush 45, 2) := by decide +kernel
theorem dX2_readUnit_29 : decode cX2_readUnit 29 = .ok (.if_icmp .ne 24, 3) := by decide +kernel
theorem dX2_readUnit_32 : decode cX2_readUnit 32 = .ok (.aload_n 0, 1) := by decide +kernel
theorem dX2_readUnit_33 : decode cX2_readUnit 33 = .ok (.dup, 1) := by decide +kernel
theorem dX2_readUnit_34 : decode cX2_readUnit 34 = .ok (.getfield 38, 3) := by decide +kernel
theorem dX2_readUnit_37 : decode cX2_readUnit 37 = .ok (.iconst 1, 1) := by decide +kernel
theorem dX2_readUnit_38 : decode cX2_readUnit 38 = .ok (.iadd, 1) := by decide +kernel
theorem dX2_readUnit_39 : decode cX2_readUnit 39 = .ok (.putfield 38, 3) := by decide +kernel
theorem dX2_readUnit_42 : decode cX2_readUnit 42 = .ok (.aload_n 0, 1) := by decide +kernel
theorem dX2_readUnit_43 : decode cX2_readUnit 43 = .ok (.invokevirtual 50, 3) := by decide +kernel
theorem dX2_readUnit_46 : decode cX2_readUnit 46 = .ok (.istore_n 3, 1) := by decide +kernel
theorem dX2_readUnit_47 : decode cX2_readUnit 47 = .ok (.iinc 4 1, 3) := by decide +kernel
theorem dX2_readUnit_50 : decode cX2_readUnit 50 = .ok (.goto (-37), 3) := by decide +kernel
theorem dX2_readUnit_53 : decode cX2_readUnit 53 = .ok (.aload_n 0, 1) := by decide +kernel
theorem dX2_readUnit_54 : decode cX2_readUnit 54 = .ok (.getfield 38, 3) := by decide +kernel
theorem dX2_readUnit_57 : decode cX2_readUnit 57 = .ok (.istore 4, 2) := by decide +kernel
theorem dX2_readUnit_59 : decode cX2_readUnit 59 = .ok (.aload_n 0, 1) := by decide +kernel
theorem dX2_readUnit_60 : decode cX2_readUnit 60 = .ok (.iload_n 3, 1) := by decide +kernel
theorem dX2_readUnit_61 : decode cX2_readUnit 61 = .ok (.iload_n 1, 1) := by decide +kernel
theorem dX2_readUnit_62 : decode cX2_readUnit 62 = .ok (.invokevirtual 68, 3) := by decide +kernel
theorem dX2_readUnit_65 : decode cX2_readUnit 65 = .ok (.iload 4, 2) := by decide +kernel
theorem dX2_readUnit_67 : decode cX2_readUnit 67 = .ok (.iconst 1, 1) := by decide +kernel
theorem dX2_readUnit_68 : decode cX2_readUnit 68 = .ok (.isub, 1) := by decide +kernel
theorem dX2_readUnit_69 : decode cX2_readUnit 69 = .ok (.istore 5, 2) := by decide +kernel
theorem dX2_readUnit_71 : decode cX2_readUnit 71 = .ok (.iload 5, 2) := by decide +kernel
theorem dX2_readUnit_73 : decode cX2_readUnit 73 = .ok (.iload_n 2, 1) := by decide +kernel
theorem dX2_readUnit_74 : decode cX2_readUnit 74 = .ok (.if_icmp .lt 49, 3) := by decide +kernel
theorem dX2_readUnit_77 : decode cX2_readUnit 77 = .ok (.aload_n 0, 1) := by decide +kernel
theorem dX2_readUnit_78 : decode cX2_readUnit 78 = .ok (.getfield 18, 3) := by decide +kernel
theorem dX2_readUnit_81 : decode cX2_readUnit 81 = .ok (.iload 5, 2) := by decide +kernel
theorem dX2_readUnit_83 : decode cX2_readUnit 83 = .ok (.iaload, 1) := by decide +kernel
theorem dX2_readUnit_84 : decode cX2_readUnit 84 = .ok (.bipush 33, 2) := by decide +kernel
theorem dX2_readUnit_86 : decode cX2_readUnit 86 = .ok (.if_icmp .ne 13, 3) := by decide +kernel
theorem dX2_readUnit_89 : decode cX2_readUnit 89 = .ok (.aload_n 0, 1) := by decide +kernel
theorem dX2_readUnit_90 : decode cX2_readUnit 90 = .ok (.bipush 33, 2) := by decide +kernel
theorem dX2_readUnit_92 : decode cX2_readUnit 92 = .ok (.iconst 0, 1) := by decide +kernel
theorem dX2_readUnit_93 : decode cX2_readUnit 93 = .ok (.invokevirtual 65, 3) := by decide +kernel
theorem dX2_readUnit_96 : decode cX2_readUnit 96 = .ok (.goto 21, 3) := by decide +kernel
theorem dX2_readUnit_99 : decode cX2_readUnit 99 = .ok (.aload_n 0, 1) := by decide +kernel
theorem dX2_readUnit_100 : decode cX2_readUnit 100 = .ok (.getfield 18, 3) := by decide +kernel
theorem dX2_readUnit_103 : decode cX2_readUnit 103 = .ok (.iload 5, 2) := by decide +kernel
theorem dX2_readUnit_105 : decode cX2_readUnit 105 = .ok (.iaload, 1) := by decide +kernel
theorem dX2_readUnit_106 : decode cX2_readUnit 106 = .ok (.bipush 45, 2) := by decide +kernel
theorem dX2_readUnit_108 : decode cX2_readUnit 108 = .ok (.if_icmp .ne 9, 3) := by decide +kernel
theorem dX2_readUnit_111 : decode cX2_readUnit 111 = .ok (.aload_n 0, 1) := by decide +kernel
theorem dX2_readUnit_112 : decode cX2_readUnit 112 = .ok (.iconst 3, 1) := by decide +kernel
theorem dX2_readUnit_113 : decode cX2_readUnit 113 = .ok (.iconst 0, 1) := by decide +kernel
theorem dX2_readUnit_114 : decode cX2_readUnit 114 = .ok (.invokevirtual 65, 3) := by decide +kernel
theorem dX2_readUnit_117 : decode cX2_readUnit 117 = .ok (.iinc 5 (-1), 3) := by decide +kernel
theorem dX2_readUnit_120 : decode cX2_readUnit 120 = .ok (.goto (-49), 3) := by decide +kernel
theorem dX2_readUnit_123 : decode cX2_readUnit 123 = .ok (.return_, 1) := by decide +kernel
theorem dX2_readPlain_0 : decode cX2_readPlain 0 = .ok (.iload_n 1, 1) := by decide +kernel
theorem dX2_readPlain_1 : decode cX2_readPlain 1 = .ok (.invokestatic 71, 3) := by decide +kernel
theorem dX2_readPlain_4 : decode cX2_readPlain 4 = .ok (.ifCond .eq 10, 3) := by decide +kernel
theorem dX2_readPlain_7 : decode cX2_readPlain 7 = .ok (.aload_n 0, 1) := by decide +kernel
theorem dX2_readPlain_8 : decode cX2_readPlain 8 = .ok (.invokevirtual 75, 3) := by decide +kernel
theorem dX2_readPlain_11 : decode cX2_readPlain 11 = .ok (.goto 66, 3) := by decide +kernel
theorem dX2_readPlain_14 : decode cX2_readPlain 14 = .ok (.iload_n 1, 1) := by decide +kernel
theorem dX2_readPlain_15 : decode cX2_readPlain 15 = .ok (.bipush 40, 2) := by decide +kernel
theorem dX2_readPlain_17 : decode cX2_readPlain 17 = .ok (.if_icmp .ne 11, 3) := by decide +kernel
theorem dX2_readPlain_20 : decode cX2_readPlain 20 = .ok (.aload_n 0, 1) := by decide +kernel
theorem dX2_readPlain_21 : decode cX2_readPlain 21 = .ok (.iload_n 2, 1) := by decide +kernel
theorem dX2_readPlain_22 : decode cX2_readPlain 22 = .ok (.invokevirtual 78, 3) := by decide +kernel
theorem dX2_readPlain_25 : decode cX2_readPlain 25 = .ok (.goto 52, 3) := by decide +kernel
theorem dX2_readPlain_28 : decode cX2_readPlain 28 = .ok (.iload_n 1, 1) := by decide +kernel
theorem dX2_readPlain_29 : decode cX2_readPlain 29 = .ok (.iconst (-1), 1) := by decide +kernel
theorem dX2_readPlain_30 : decode cX2_readPlain 30 = .ok (.if_icmp .eq 38, 3) := by decide +kernel
theorem dX2_readPlain_33 : decode cX2_readPlain 33 = .ok (.ldc 81, 2) := by decide +kernel
theorem dX2_readPlain_35 : decode cX2_readPlain 35 = .ok (.iload_n 1, 1) := by decide +kernel
theorem dX2_readPlain_36 : decode cX2_readPlain 36 = .ok (.i2c, 1) := by decide +kernel
theorem dX2_readPlain_37 : decode cX2_readPlain 37 = .ok (.invokevirtual 83, 3) := by decide +kernel
theorem dX2_readPlain_40 : decode cX2_readPlain 40 = .ok (.ifCond .lt 28, 3) := by decide +kernel
theorem dX2_readPlain_43 : decode cX2_readPlain 43 = .ok (.aload_n 0, 1) := by decide +kernel
theorem dX2_readPlain_44 : decode cX2_readPlain 44 = .ok (.iconst 2, 1) := by decide +kernel
theorem dX2_readPlain_45 : decode cX2_readPlain 45 = .ok (.ldc 81, 2) := by decide +kernel
theorem dX2_readPlain_47 : decode cX2_readPlain 47 = .ok (.iload_n 1, 1) := by decide +kernel
theorem dX2_readPlain_48 : decode cX2_readPlain 48 = .ok (.i2c, 1) := by decide +kernel
theorem dX2_readPlain_49 : decode cX2_readPlain 49 = .ok (.invokevirtual 83, 3) := by decide +kernel
theorem dX2_readPlain_52 : decode cX2_readPlain 52 = .ok (.invokevirtual 65, 3) := by decide +kernel
theorem dX2_readPlain_55 : decode cX2_readPlain 55 = .ok (.aload_n 0, 1) := by decide +kernel
theorem dX2_readPlain_56 : decode cX2_readPlain 56 = .ok (.dup, 1) := by decide +kernel
theorem dX2_readPlain_57 : decode cX2_readPlain 57 = .ok (.getfield 38, 3) := by decide +kernel
theorem dX2_readPlain_60 : decode cX2_readPlain 60 = .ok (.iconst 1, 1) := by decide +kernel
theorem dX2_readPlain_61 : decode cX2_readPlain 61 = .ok (.iadd, 1) := by decide +kernel
theorem dX2_readPlain_62 : decode cX2_readPlain 62 = .ok (.putfield 38, 3) := by decide +kernel
theorem dX2_readPlain_65 : decode cX2_readPlain 65 = .ok (.goto 12, 3) := by decide +kernel
theorem dX2_readPlain_68 : decode cX2_readPlain 68 = .ok (.aload_n 0, 1) := by decide +kernel
theorem dX2_readPlain_69 : decode cX2_readPlain 69 = .ok (.aload_n 0, 1) := by decide +kernel
theorem dX2_readPlain_70 : decode cX2_readPlain 70 = .ok (.getfield 38, 3) := by decide +kernel
theorem dX2_readPlain_73 : decode cX2_readPlain 73 = .ok (.iconst 1, 1) := by decide +kernel
theorem dX2_readPlain_74 : decode cX2_readPlain 74 = .ok (.invokevirtual 54, 3) := by decide +kernel
theorem dX2_readPlain_77 : decode cX2_readPlain 77 = .ok (.return_, 1) := by decide +kernel
theorem dX2_isDigit_0 : decode cX2_isDigit 0 = .ok (.iload_n 0, 1) := by decide +kernel
theorem dX2_isDigit_1 : decode cX2_isDigit 1 = .ok (.bipush 48, 2) := by decide +kernel
theorem dX2_isDigit_3 : decode cX2_isDigit 3 = .ok (.if_icmp .lt 13, 3) := by decide +kernel
theorem dX2_isDigit_6 : decode cX2_isDigit 6 = .ok (.iload_n 0, 1) := by decide +kernel
theorem dX2_isDigit_7 : decode cX2_isDigit 7 = .ok (.bipush 57, 2) := by decide +kernel
theorem dX2_isDigit_9 : decode cX2_isDigit 9 = .ok (.if_icmp .gt 7, 3) := by decide +kernel
theorem dX2_isDigit_12 : decode cX2_isDigit 12 = .ok (.iconst 1, 1) := by decide +kernel
theorem dX2_isDigit_13 : decode cX2_isDigit 13 = .ok (.goto 4, 3) := by decide +kernel
theorem dX2_isDigit_16 : decode cX2_isDigit 16 = .ok (.iconst 0, 1) := by decide +kernel
theorem dX2_isDigit_17 : decode cX2_isDigit 17 = .ok (.ireturn, 1) := by decide +kernel
theorem dX2_readNumber_0 : decode cX2_readNumber 0 = .ok (.aload_n 0, 1) := by decide +kernel
theorem dX2_readNumber_1 : decode cX2_readNumber 1 = .ok (.getfield 38, 3) := by decide +kernel
theorem dX2_readNumber_4 : decode cX2_readNumber 4 = .ok (.istore_n 1, 1) := by decide +kernel
theorem dX2_readNumber_5 : decode cX2_readNumber 5 = .ok (.iconst 0, 1) := by decide +kernel
theorem dX2_readNumber_6 : decode cX2_readNumber 6 = .ok (.istore_n 2, 1) := by decide +kernel
theorem dX2_readNumber_7 : decode cX2_readNumber 7 = .ok (.aload_n 0, 1) := by decide +kernel
theorem dX2_readNumber_8 : decode cX2_readNumber 8 = .ok (.getfield 38, 3) := by decide +kernel
theorem dX2_readNumber_11 : decode cX2_readNumber 11 = .ok (.aload_n 0, 1) := by decide +kernel
theorem dX2_readNumber_12 : decode cX2_readNumber 12 = .ok (.getfield 9, 3) := by decide +kernel
theorem dX2_readNumber_15 : decode cX2_readNumber 15 = .ok (.if_icmp .ge 67, 3) := by decide +kernel
theorem dX2_readNumber_18 : decode cX2_readNumber 18 = .ok (.aload_n 0, 1) := by decide +kernel
theorem dX2_readNumber_19 : decode cX2_readNumber 19 = .ok (.getfield 18, 3) := by decide +kernel
theorem dX2_readNumber_22 : decode cX2_readNumber 22 = .ok (.aload_n 0, 1) := by decide +kernel
theorem dX2_readNumber_23 : decode cX2_readNumber 23 = .ok (.getfield 38, 3) := by decide +kernel
theorem dX2_readNumber_26 : decode cX2_readNumber 26 = .ok (.iaload, 1) := by decide +kernel
theorem dX2_readNumber_27 : decode cX2_readNumber 27 = .ok (.invokestatic 71, 3) := by decide +kernel
theorem dX2_readNumber_30 : decode cX2_readNumber 30 = .ok (.ifCond .eq 52, 3) := by decide +kernel
theorem dX2_readNumber_33 : decode cX2_readNumber 33 = .ok (.aload_n 0, 1) := by decide +kernel
theorem dX2_readNumber_34 : decode cX2_readNumber 34 = .ok (.getfield 38, 3) := by decide +kernel
theorem dX2_readNumber_37 : decode cX2_readNumber 37 = .ok (.iload_n 1, 1) := by decide +kernel
theorem dX2_readNumber_38 : decode cX2_readNumber 38 = .ok (.isub, 1) := by decide +kernel
theorem dX2_readNumber_39 : decode cX2_readNumber 39 = .ok (.bipush 6, 2) := by decide +kernel
theorem dX2_readNumber_41 : decode cX2_readNumber 41 = .ok (.if_icmp .lt 10, 3) := by decide +kernel
theorem dX2_readNumber_44 : decode cX2_readNumber 44 = .ok (.aload_n 0, 1) := by decide +kernel
theorem dX2_readNumber_45 : decode cX2_readNumber 45 = .ok (.iload_n 1, 1) := by decide +kernel
theorem dX2_readNumber_46 : decode cX2_readNumber 46 = .ok (.iconst 2, 1) := by decide +kernel
theorem dX2_readNumber_47 : decode cX2_readNumber 47 = .ok (.invokevirtual 54, 3) := by decide +kernel
theorem dX2_readNumber_50 : decode cX2_readNumber 50 = .ok (.return_, 1) := by decide +kernel
theorem dX2_readNumber_51 : decode cX2_readNumber 51 = .ok (.bipush 10, 2) := by decide +kernel
theorem dX2_readNumber_53 : decode cX2_readNumber 53 = .ok (.iload_n 2, 1) := by decide +kernel
theorem dX2_readNumber_54 : decode cX2_readNumber 54 = .ok (.imul, 1) := by decide +kernel
theorem dX2_readNumber_55 : decode cX2_readNumber 55 = .ok (.aload_n 0, 1) := by decide +kernel
theorem dX2_readNumber_56 : decode cX2_readNumber 56 = .ok (.getfield 18, 3) := by decide +kernel
theorem dX2_readNumber_59 : decode cX2_readNumber 59 = .ok (.aload_n 0, 1) := by decide +kernel
theorem dX2_readNumber_60 : decode cX2_readNumber 60 = .ok (.getfield 38, 3) := by decide +kernel
theorem dX2_readNumber_63 : decode cX2_readNumber 63 = .ok (.iaload, 1) := by decide +kernel
theorem dX2_readNumber_64 : decode cX2_readNumber 64 = .ok (.iadd, 1) := by decide +kernel
theorem dX2_readNumber_65 : decode cX2_readNumber 65 = .ok (.bipush 48, 2) := by decide +kernel
theorem dX2_readNumber_67 : decode cX2_readNumber 67 = .ok (.isub, 1) := by decide +kernel
theorem dX2_readNumber_68 : decode cX2_readNumber 68 = .ok (.istore_n 2, 1) := by decide +kernel
theorem dX2_readNumber_69 : decode cX2_readNumber 69 = .ok (.aload_n 0, 1) := by decide +kernel
theorem dX2_readNumber_70 : decode cX2_readNumber 70 = .ok (.dup, 1) := by decide +kernel
theorem dX2_readNumber_71 : decode cX2_readNumber 71 = .ok (.getfield 38, 3) := by decide +kernel
theorem dX2_readNumber_74 : decode cX2_readNumber 74 = .ok (.iconst 1, 1) := by decide +kernel
theorem dX2_readNumber_75 : decode cX2_readNumber 75 = .ok (.iadd, 1) := by decide +kernel
theorem dX2_readNumber_76 : decode cX2_readNumber 76 = .ok (.putfield 38, 3) := by decide +kernel
theorem dX2_readNumber_79 : decode cX2_readNumber 79 = .ok (.goto (-72), 3) := by decide +kernel
theorem dX2_readNumber_82 : decode cX2_readNumber 82 = .ok (.aload_n 0, 1) := by decide +kernel
theorem dX2_readNumber_83 : decode cX2_readNumber 83 = .ok (.iconst 1, 1) := by decide +kernel
theorem dX2_readNumber_84 : decode cX2_readNumber 84 = .ok (.iload_n 2, 1) := by decide +kernel
theorem dX2_readNumber_85 : decode cX2_readNumber 85 = .ok (.invokevirtual 65, 3) := by decide +kernel
theorem dX2_readNumber_88 : decode cX2_readNumber 88 = .ok (.return_, 1) := by decide +kernel
theorem dX2_readGroup_0 : decode cX2_readGroup 0 = .ok (.iload_n 1, 1) := by decide +kernel
theorem dX2_readGroup_1 : decode cX2_readGroup 1 = .ok (.bipush 8, 2) := by decide +kernel
theorem dX2_readGroup_3 : decode cX2_readGroup 3 = .ok (.if_icmp .lt 13, 3) := by decide +kernel
theorem dX2_readGroup_6 : decode cX2_readGroup 6 = .ok (.aload_n 0, 1) := by decide +kernel
theorem dX2_readGroup_7 : decode cX2_readGroup 7 = .ok (.aload_n 0, 1) := by decide +kernel
theorem dX2_readGroup_8 : decode cX2_readGroup 8 = .ok (.getfield 38, 3) := by decide +kernel
theorem dX2_readGroup_11 : decode cX2_readGroup 11 = .ok (.iconst 3, 1) := by decide +kernel
theorem dX2_readGroup_12 : decode cX2_readGroup 12 = .ok (.invokevirtual 54, 3) := by decide +kernel
theorem dX2_readGroup_15 : decode cX2_readGroup 15 = .ok (.return_, 1) := by decide +kernel
theorem dX2_readGroup_16 : decode cX2_readGroup 16 = .ok (.aload_n 0, 1) := by decide +kernel
theorem dX2_readGroup_17 : decode cX2_readGroup 17 = .ok (.dup, 1) := by decide +kernel
theorem dX2_readGroup_18 : decode cX2_readGroup 18 = .ok (.getfield 38, 3) := by decide +kernel
theorem dX2_readGroup_21 : decode cX2_readGroup 21 = .ok (.iconst 1, 1) := by decide +kernel
theorem dX2_readGroup_22 : decode cX2_readGroup 22 = .ok (.iadd, 1) := by decide +kernel
theorem dX2_readGroup_23 : decode cX2_readGroup 23 = .ok (.putfield 38, 3) := by decide +kernel
theorem dX2_readGroup_26 : decode cX2_readGroup 26 = .ok (.aload_n 0, 1) := by decide +kernel
theorem dX2_readGroup_27 : decode cX2_readGroup 27 = .ok (.iconst 0, 1) := by decide +kernel
theorem dX2_readGroup_28 : decode cX2_readGroup 28 = .ok (.iload_n 1, 1) := by decide +kernel
theorem dX2_readGroup_29 : decode cX2_readGroup 29 = .ok (.iconst 1, 1) := by decide +kernel
theorem dX2_readGroup_30 : decode cX2_readGroup 30 = .ok (.iadd, 1) := by decide +kernel
theorem dX2_readGroup_31 : decode cX2_readGroup 31 = .ok (.invokevirtual 46, 3) := by decide +kernel
theorem dX2_readGroup_34 : decode cX2_readGroup 34 = .ok (.aload_n 0, 1) := by decide +kernel
theorem dX2_readGroup_35 : decode cX2_readGroup 35 = .ok (.invokevirtual 50, 3) := by decide +kernel
theorem dX2_readGroup_38 : decode cX2_readGroup 38 = .ok (.bipush 41, 2) := by decide +kernel
theorem dX2_readGroup_40 : decode cX2_readGroup 40 = .ok (.if_icmp .eq 13, 3) := by decide +kernel
theorem dX2_readGroup_43 : decode cX2_readGroup 43 = .ok (.aload_n 0, 1) := by decide +kernel
theorem dX2_readGroup_44 : decode cX2_readGroup 44 = .ok (.aload_n 0, 1) := by decide +kernel
theorem dX2_readGroup_45 : decode cX2_readGroup 45 = .ok (.getfield 38, 3) := by decide +kernel
theorem dX2_readGroup_48 : decode cX2_readGroup 48 = .ok (.iconst 1, 1) := by decide +kernel
theorem dX2_readGroup_49 : decode cX2_readGroup 49 = .ok (.invokevirtual 54, 3) := by decide +kernel
theorem dX2_readGroup_52 : decode cX2_readGroup 52 = .ok (.return_, 1) := by decide +kernel
theorem dX2_readGroup_53 : decode cX2_readGroup 53 = .ok (.aload_n 0, 1) := by decide +kernel
theorem dX2_readGroup_54 : decode cX2_readGroup 54 = .ok (.dup, 1) := by decide +kernel
theorem dX2_readGroup_55 : decode cX2_readGroup 55 = .ok (.getfield 38, 3) := by decide +kernel
theorem dX2_readGroup_58 : decode cX2_readGroup 58 = .ok (.iconst 1, 1) := by decide +kernel
theorem dX2_readGroup_59 : decode cX2_readGroup 59 = .ok (.iadd, 1) := by decide +kernel
theorem dX2_readGroup_60 : decode cX2_readGroup 60 = .ok (.putfield 38, 3) := by decide +kernel
theorem dX2_readGroup_63 : decode cX2_readGroup 63 = .ok (.return_, 1) := by decide +kernel
theorem dX2_work_0 : decode cX2_work 0 = .ok (.aload_n 0, 1) := by decide +kernel
theorem dX2_work_1 : decode cX2_work 1 = .ok (.getfield 32, 3) := by decide +kernel
theorem dX2_work_4 : decode cX2_work 4 = .ok (.iconst 0, 1) := by decide +kernel
theorem dX2_work_5 : decode cX2_work 5 = .ok (.iload_n 1, 1) := by decide +kernel
theorem dX2_work_6 : decode cX2_work 6 = .ok (.i2l, 1) := by decide +kernel
theorem dX2_work_7 : decode cX2_work 7 = .ok (.lastore, 1) := by decide +kernel
theorem dX2_work_8 : decode cX2_work 8 = .ok (.aload_n 0, 1) := by decide +kernel
theorem dX2_work_9 : decode cX2_work 9 = .ok (.getfield 32, 3) := by decide +kernel
theorem dX2_work_12 : decode cX2_work 12 = .ok (.iconst 1, 1) := by decide +kernel
theorem dX2_work_13 : decode cX2_work 13 = .ok (.iload_n 2, 1) := by decide +kernel
theorem dX2_work_14 : decode cX2_work 14 = .ok (.i2l, 1) := by decide +kernel
theorem dX2_work_15 : decode cX2_work 15 = .ok (.lastore, 1) := by decide +kernel
theorem dX2_work_16 : decode cX2_work 16 = .ok (.aload_n 0, 1) := by decide +kernel
theorem dX2_work_17 : decode cX2_work 17 = .ok (.getfield 32, 3) := by decide +kernel
theorem dX2_work_20 : decode cX2_work 20 = .ok (.iconst 2, 1) := by decide +kernel
theorem dX2_work_21 : decode cX2_work 21 = .ok (.iload_n 3, 1) := by decide +kernel
theorem dX2_work_22 : decode cX2_work 22 = .ok (.i2l, 1) := by decide +kernel
theorem dX2_work_23 : decode cX2_work 23 = .ok (.lastore, 1) := by decide +kernel
theorem dX2_work_24 : decode cX2_work 24 = .ok (.aload_n 0, 1) := by decide +kernel
theorem dX2_work_25 : decode cX2_work 25 = .ok (.getfield 32, 3) := by decide +kernel
theorem dX2_work_28 : decode cX2_work 28 = .ok (.iconst 3, 1) := by decide +kernel
theorem dX2_work_29 : decode cX2_work 29 = .ok (.iload 4, 2) := by decide +kernel
theorem dX2_work_31 : decode cX2_work 31 = .ok (.i2l, 1) := by decide +kernel
theorem dX2_work_32 : decode cX2_work 32 = .ok (.lastore, 1) := by decide +kernel
theorem dX2_work_33 : decode cX2_work 33 = .ok (.aload_n 0, 1) := by decide +kernel
theorem dX2_work_34 : decode cX2_work 34 = .ok (.getfield 32, 3) := by decide +kernel
theorem dX2_work_37 : decode cX2_work 37 = .ok (.iconst 4, 1) := by decide +kernel
theorem dX2_work_38 : decode cX2_work 38 = .ok (.iload 5, 2) := by decide +kernel
theorem dX2_work_40 : decode cX2_work 40 = .ok (.i2l, 1) := by decide +kernel
theorem dX2_work_41 : decode cX2_work 41 = .ok (.lastore, 1) := by decide +kernel
theorem dX2_work_42 : decode cX2_work 42 = .ok (.iconst 0, 1) := by decide +kernel
theorem dX2_work_43 : decode cX2_work 43 = .ok (.istore 6, 2) := by decide +kernel
theorem dX2_work_45 : decode cX2_work 45 = .ok (.iconst 0, 1) := by decide +kernel
theorem dX2_work_46 : decode cX2_work 46 = .ok (.istore 7, 2) := by decide +kernel
theorem dX2_work_48 : decode cX2_work 48 = .ok (.iload 7, 2) := by decide +kernel
theorem dX2_work_50 : decode cX2_work 50 = .ok (.aload_n 0, 1) := by decide +kernel
theorem dX2_work_51 : decode cX2_work 51 = .ok (.getfield 35, 3) := by decide +kernel
theorem dX2_work_54 : decode cX2_work 54 = .ok (.if_icmp .ge 215, 3) := by decide +kernel
theorem dX2_work_57 : decode cX2_work 57 = .ok (.aload_n 0, 1) := by decide +kernel
theorem dX2_work_58 : decode cX2_work 58 = .ok (.getfield 22, 3) := by decide +kernel
theorem dX2_work_61 : decode cX2_work 61 = .ok (.iload 7, 2) := by decide +kernel
theorem dX2_work_63 : decode cX2_work 63 = .ok (.iaload, 1) := by decide +kernel
theorem dX2_work_64 : decode cX2_work 64 = .ok (.istore 8, 2) := by decide +kernel
theorem dX2_work_66 : decode cX2_work 66 = .ok (.aload_n 0, 1) := by decide +kernel
theorem dX2_work_67 : decode cX2_work 67 = .ok (.getfield 25, 3) := by decide +kernel
theorem dX2_work_70 : decode cX2_work 70 = .ok (.iload 7, 2) := by decide +kernel
theorem dX2_work_72 : decode cX2_work 72 = .ok (.iaload, 1) := by decide +kernel
theorem dX2_work_73 : decode cX2_work 73 = .ok (.istore 9, 2) := by decide +kernel
theorem dX2_work_75 : decode cX2_work 75 = .ok (.iload 8, 2) := by decide +kernel
theorem dX2_work_77 : decode cX2_work 77 = .ok (.iconst 1, 1) := by decide +kernel
theorem dX2_work_78 : decode cX2_work 78 = .ok (.if_icmp .eq 9, 3) := by decide +kernel
theorem dX2_work_81 : decode cX2_work 81 = .ok (.iload 8, 2) := by decide +kernel
theorem dX2_work_83 : decode cX2_work 83 = .ok (.iconst 2, 1) := by decide +kernel
theorem dX2_work_84 : decode cX2_work 84 = .ok (.if_icmp .ne 69, 3) := by decide +kernel
theorem dX2_work_87 : decode cX2_work 87 = .ok (.iload 6, 2) := by decide +kernel
theorem dX2_work_89 : decode cX2_work 89 = .ok (.bipush 40, 2) := by decide +kernel
theorem dX2_work_91 : decode cX2_work 91 = .ok (.if_icmp .ge 172, 3) := by decide +kernel
theorem dX2_work_94 : decode cX2_work 94 = .ok (.iload 8, 2) := by decide +kernel
theorem dX2_work_96 : decode cX2_work 96 = .ok (.iconst 2, 1) := by decide +kernel
theorem dX2_work_97 : decode cX2_work 97 = .ok (.if_icmp .ne 22, 3) := by decide +kernel
theorem dX2_work_100 : decode cX2_work 100 = .ok (.iload 9, 2) := by decide +kernel
theorem dX2_work_102 : decode cX2_work 102 = .ok (.ifCond .lt 17, 3) := by decide +kernel
theorem dX2_work_105 : decode cX2_work 105 = .ok (.iload 9, 2) := by decide +kernel
theorem dX2_work_107 : decode cX2_work 107 = .ok (.aload_n 0, 1) := by decide +kernel
theorem dX2_work_108 : decode cX2_work 108 = .ok (.getfield 32, 3) := by decide +kernel
theorem dX2_work_111 : decode cX2_work 111 = .ok (.arraylength, 1) := by decide +kernel
theorem dX2_work_112 : decode cX2_work 112 = .ok (.if_icmp .ge 7, 3) := by decide +kernel
theorem dX2_work_115 : decode cX2_work 115 = .ok (.iconst 1, 1) := by decide +kernel
theorem dX2_work_116 : decode cX2_work 116 = .ok (.goto 4, 3) := by decide +kernel
theorem dX2_work_119 : decode cX2_work 119 = .ok (.iconst 0, 1) := by decide +kernel
theorem dX2_work_120 : decode cX2_work 120 = .ok (.istore 10, 2) := by decide +kernel
theorem dX2_work_122 : decode cX2_work 122 = .ok (.aload_n 0, 1) := by decide +kernel
theorem dX2_work_123 : decode cX2_work 123 = .ok (.getfield 28, 3) := by decide +kernel
theorem dX2_work_126 : decode cX2_work 126 = .ok (.iload 6, 2) := by decide +kernel
theorem dX2_work_128 : decode cX2_work 128 = .ok (.iload 10, 2) := by decide +kernel
theorem dX2_work_130 : decode cX2_work 130 = .ok (.ifCond .eq 13, 3) := by decide +kernel
theorem dX2_work_133 : decode cX2_work 133 = .ok (.aload_n 0, 1) := by decide +kernel
theorem dX2_work_134 : decode cX2_work 134 = .ok (.getfield 32, 3) := by decide +kernel
theorem dX2_work_137 : decode cX2_work 137 = .ok (.iload 9, 2) := by decide +kernel
theorem dX2_work_139 : decode cX2_work 139 = .ok (.laload, 1) := by decide +kernel
theorem dX2_work_140 : decode cX2_work 140 = .ok (.goto 6, 3) := by decide +kernel
theorem dX2_work_143 : decode cX2_work 143 = .ok (.iload 9, 2) := by decide +kernel
theorem dX2_work_145 : decode cX2_work 145 = .ok (.i2l, 1) := by decide +kernel
theorem dX2_work_146 : decode cX2_work 146 = .ok (.lastore, 1) := by decide +kernel
theorem dX2_work_147 : decode cX2_work 147 = .ok (.iinc 6 1, 3) := by decide +kernel
theorem dX2_work_150 : decode cX2_work 150 = .ok (.goto 113, 3) := by decide +kernel
theorem dX2_work_153 : decode cX2_work 153 = .ok (.iload 8, 2) := by decide +kernel
theorem dX2_work_155 : decode cX2_work 155 = .ok (.iconst 3, 1) := by decide +kernel
theorem dX2_work_156 : decode cX2_work 156 = .ok (.if_icmp .eq 10, 3) := by decide +kernel
theorem dX2_work_159 : decode cX2_work 159 = .ok (.iload 8, 2) := by decide +kernel
theorem dX2_work_161 : decode cX2_work 161 = .ok (.bipush 33, 2) := by decide +kernel
theorem dX2_work_163 : decode cX2_work 163 = .ok (.if_icmp .ne 61, 3) := by decide +kernel
theorem dX2_work_166 : decode cX2_work 166 = .ok (.iload 6, 2) := by decide +kernel
theorem dX2_work_168 : decode cX2_work 168 = .ok (.iconst 1, 1) := by decide +kernel
theorem dX2_work_169 : decode cX2_work 169 = .ok (.if_icmp .lt 94, 3) := by decide +kernel
theorem dX2_work_172 : decode cX2_work 172 = .ok (.aload_n 0, 1) := by decide +kernel
theorem dX2_work_173 : decode cX2_work 173 = .ok (.getfield 28, 3) := by decide +kernel
theorem dX2_work_176 : decode cX2_work 176 = .ok (.iload 6, 2) := by decide +kernel
theorem dX2_work_178 : decode cX2_work 178 = .ok (.iconst 1, 1) := by decide +kernel
theorem dX2_work_179 : decode cX2_work 179 = .ok (.isub, 1) := by decide +kernel
theorem dX2_work_180 : decode cX2_work 180 = .ok (.iload 8, 2) := by decide +kernel
theorem dX2_work_182 : decode cX2_work 182 = .ok (.bipush 33, 2) := by decide +kernel
theorem dX2_work_184 : decode cX2_work 184 = .ok (.if_icmp .ne 26, 3) := by decide +kernel
theorem dX2_work_187 : decode cX2_work 187 = .ok (.aload_n 0, 1) := by decide +kernel
theorem dX2_work_188 : decode cX2_work 188 = .ok (.getfield 28, 3) := by decide +kernel
theorem dX2_work_191 : decode cX2_work 191 = .ok (.iload 6, 2) := by decide +kernel
theorem dX2_work_193 : decode cX2_work 193 = .ok (.iconst 1, 1) := by decide +kernel
theorem dX2_work_194 : decode cX2_work 194 = .ok (.isub, 1) := by decide +kernel
theorem dX2_work_195 : decode cX2_work 195 = .ok (.laload, 1) := by decide +kernel
theorem dX2_work_196 : decode cX2_work 196 = .ok (.lconst 0, 1) := by decide +kernel
theorem dX2_work_197 : decode cX2_work 197 = .ok (.lcmp, 1) := by decide +kernel
theorem dX2_work_198 : decode cX2_work 198 = .ok (.ifCond .ne 7, 3) := by decide +kernel
theorem dX2_work_201 : decode cX2_work 201 = .ok (.iconst 1, 1) := by decide +kernel
theorem dX2_work_202 : decode cX2_work 202 = .ok (.goto 4, 3) := by decide +kernel
theorem dX2_work_205 : decode cX2_work 205 = .ok (.iconst 0, 1) := by decide +kernel
theorem dX2_work_206 : decode cX2_work 206 = .ok (.i2l, 1) := by decide +kernel
theorem dX2_work_207 : decode cX2_work 207 = .ok (.goto 13, 3) := by decide +kernel
theorem dX2_work_210 : decode cX2_work 210 = .ok (.aload_n 0, 1) := by decide +kernel
theorem dX2_work_211 : decode cX2_work 211 = .ok (.getfield 28, 3) := by decide +kernel
theorem dX2_work_214 : decode cX2_work 214 = .ok (.iload 6, 2) := by decide +kernel
theorem dX2_work_216 : decode cX2_work 216 = .ok (.iconst 1, 1) := by decide +kernel
theorem dX2_work_217 : decode cX2_work 217 = .ok (.isub, 1) := by decide +kernel
theorem dX2_work_218 : decode cX2_work 218 = .ok (.laload, 1) := by decide +kernel
theorem dX2_work_219 : decode cX2_work 219 = .ok (.lneg, 1) := by decide +kernel
theorem dX2_work_220 : decode cX2_work 220 = .ok (.lastore, 1) := by decide +kernel
theorem dX2_work_221 : decode cX2_work 221 = .ok (.goto 42, 3) := by decide +kernel
theorem dX2_work_224 : decode cX2_work 224 = .ok (.iload 6, 2) := by decide +kernel
theorem dX2_work_226 : decode cX2_work 226 = .ok (.iconst 2, 1) := by decide +kernel
theorem dX2_work_227 : decode cX2_work 227 = .ok (.if_icmp .lt 36, 3) := by decide +kernel
theorem dX2_work_230 : decode cX2_work 230 = .ok (.iinc 6 (-1), 3) := by decide +kernel
theorem dX2_work_233 : decode cX2_work 233 = .ok (.aload_n 0, 1) := by decide +kernel
theorem dX2_work_234 : decode cX2_work 234 = .ok (.getfield 28, 3) := by decide +kernel
theorem dX2_work_237 : decode cX2_work 237 = .ok (.iload 6, 2) := by decide +kernel
theorem dX2_work_239 : decode cX2_work 239 = .ok (.iconst 1, 1) := by decide +kernel
theorem dX2_work_240 : decode cX2_work 240 = .ok (.isub, 1) := by decide +kernel
theorem dX2_work_241 : decode cX2_work 241 = .ok (.iload 8, 2) := by decide +kernel
theorem dX2_work_243 : decode cX2_work 243 = .ok (.aload_n 0, 1) := by decide +kernel
theorem dX2_work_244 : decode cX2_work 244 = .ok (.getfield 28, 3) := by decide +kernel
theorem dX2_work_247 : decode cX2_work 247 = .ok (.iload 6, 2) := by decide +kernel
theorem dX2_work_249 : decode cX2_work 249 = .ok (.iconst 1, 1) := by decide +kernel
theorem dX2_work_250 : decode cX2_work 250 = .ok (.isub, 1) := by decide +kernel
theorem dX2_work_251 : decode cX2_work 251 = .ok (.laload, 1) := by decide +kernel
theorem dX2_work_252 : decode cX2_work 252 = .ok (.aload_n 0, 1) := by decide +kernel
theorem dX2_work_253 : decode cX2_work 253 = .ok (.getfield 28, 3) := by decide +kernel
theorem dX2_work_256 : decode cX2_work 256 = .ok (.iload 6, 2) := by decide +kernel
theorem dX2_work_258 : decode cX2_work 258 = .ok (.laload, 1) := by decide +kernel
theorem dX2_work_259 : decode cX2_work 259 = .ok (.invokestatic 89, 3) := by decide +kernel
theorem dX2_work_262 : decode cX2_work 262 = .ok (.lastore, 1) := by decide +kernel
theorem dX2_work_263 : decode cX2_work 263 = .ok (.iinc 7 1, 3) := by decide +kernel
theorem dX2_work_266 : decode cX2_work 266 = .ok (.goto (-218), 3) := by decide +kernel
theorem dX2_work_269 : decode cX2_work 269 = .ok (.iload 6, 2) := by decide +kernel
theorem dX2_work_271 : decode cX2_work 271 = .ok (.ifCond .le 12, 3) := by decide +kernel
theorem dX2_work_274 : decode cX2_work 274 = .ok (.aload_n 0, 1) := by decide +kernel
theorem dX2_work_275 : decode cX2_work 275 = .ok (.getfield 28, 3) := by decide +kernel
theorem dX2_work_278 : decode cX2_work 278 = .ok (.iconst 0, 1) := by decide +kernel
theorem dX2_work_279 : decode cX2_work 279 = .ok (.laload, 1) := by decide +kernel
theorem dX2_work_280 : decode cX2_work 280 = .ok (.goto 4, 3) := by decide +kernel
theorem dX2_work_283 : decode cX2_work 283 = .ok (.lconst 0, 1) := by decide +kernel
theorem dX2_work_284 : decode cX2_work 284 = .ok (.lreturn, 1) := by decide +kernel
theorem dX2_join_0 : decode cX2_join 0 = .ok (.iload_n 0, 1) := by decide +kernel
theorem dX2_join_1 : decode cX2_join 1 = .ok (.lookupswitch 159 #[(38, 93), (42, 155), (43, 147), (45, 151), (60, 111), (61, 135), (62, 123), (124, 75)], 75) := by decide +kernel
theorem dX2_join_76 : decode cX2_join 76 = .ok (.lload_n 1, 1) := by decide +kernel
theorem dX2_join_77 : decode cX2_join 77 = .ok (.lconst 0, 1) := by decide +kernel
theorem dX2_join_78 : decode cX2_join 78 = .ok (.lcmp, 1) := by decide +kernel
theorem dX2_join_79 : decode cX2_join 79 = .ok (.ifCond .ne 9, 3) := by decide +kernel
theorem dX2_join_82 : decode cX2_join 82 = .ok (.lload_n 3, 1) := by decide +kernel
theorem dX2_join_83 : decode cX2_join 83 = .ok (.lconst 0, 1) := by decide +kernel
theorem dX2_join_84 : decode cX2_join 84 = .ok (.lcmp, 1) := by decide +kernel
theorem dX2_join_85 : decode cX2_join 85 = .ok (.ifCond .eq 7, 3) := by decide +kernel
theorem dX2_join_88 : decode cX2_join 88 = .ok (.lconst 1, 1) := by decide +kernel
theorem dX2_join_89 : decode cX2_join 89 = .ok (.goto 4, 3) := by decide +kernel
theorem dX2_join_92 : decode cX2_join 92 = .ok (.lconst 0, 1) := by decide +kernel
theorem dX2_join_93 : decode cX2_join 93 = .ok (.lreturn, 1) := by decide +kernel
theorem dX2_join_94 : decode cX2_join 94 = .ok (.lload_n 1, 1) := by decide +kernel
theorem dX2_join_95 : decode cX2_join 95 = .ok (.lconst 0, 1) := by decide +kernel
theorem dX2_join_96 : decode cX2_join 96 = .ok (.lcmp, 1) := by decide +kernel
theorem dX2_join_97 : decode cX2_join 97 = .ok (.ifCond .eq 13, 3) := by decide +kernel
theorem dX2_join_100 : decode cX2_join 100 = .ok (.lload_n 3, 1) := by decide +kernel
theorem dX2_join_101 : decode cX2_join 101 = .ok (.lconst 0, 1) := by decide +kernel
theorem dX2_join_102 : decode cX2_join 102 = .ok (.lcmp, 1) := by decide +kernel
theorem dX2_join_103 : decode cX2_join 103 = .ok (.ifCond .eq 7, 3) := by decide +kernel
theorem dX2_join_106 : decode cX2_join 106 = .ok (.lconst 1, 1) := by decide +kernel
theorem dX2_join_107 : decode cX2_join 107 = .ok (.goto 4, 3) := by decide +kernel
theorem dX2_join_110 : decode cX2_join 110 = .ok (.lconst 0, 1) := by decide +kernel
theorem dX2_join_111 : decode cX2_join 111 = .ok (.lreturn, 1) := by decide +kernel
theorem dX2_join_112 : decode cX2_join 112 = .ok (.lload_n 1, 1) := by decide +kernel
theorem dX2_join_113 : decode cX2_join 113 = .ok (.lload_n 3, 1) := by decide +kernel
theorem dX2_join_114 : decode cX2_join 114 = .ok (.lcmp, 1) := by decide +kernel
theorem dX2_join_115 : decode cX2_join 115 = .ok (.ifCond .ge 7, 3) := by decide +kernel
theorem dX2_join_118 : decode cX2_join 118 = .ok (.lconst 1, 1) := by decide +kernel
theorem dX2_join_119 : decode cX2_join 119 = .ok (.goto 4, 3) := by decide +kernel
theorem dX2_join_122 : decode cX2_join 122 = .ok (.lconst 0, 1) := by decide +kernel
theorem dX2_join_123 : decode cX2_join 123 = .ok (.lreturn, 1) := by decide +kernel
theorem dX2_join_124 : decode cX2_join 124 = .ok (.lload_n 1, 1) := by decide +kernel
theorem dX2_join_125 : decode cX2_join 125 = .ok (.lload_n 3, 1) := by decide +kernel
theorem dX2_join_126 : decode cX2_join 126 = .ok (.lcmp, 1) := by decide +kernel
theorem dX2_join_127 : decode cX2_join 127 = .ok (.ifCond .le 7, 3) := by decide +kernel
theorem dX2_join_130 : decode cX2_join 130 = .ok (.lconst 1, 1) := by decide +kernel
theorem dX2_join_131 : decode cX2_join 131 = .ok (.goto 4, 3) := by decide +kernel
theorem dX2_join_134 : decode cX2_join 134 = .ok (.lconst 0, 1) := by decide +kernel
theorem dX2_join_135 : decode cX2_join 135 = .ok (.lreturn, 1) := by decide +kernel
theorem dX2_join_136 : decode cX2_join 136 = .ok (.lload_n 1, 1) := by decide +kernel
theorem dX2_join_137 : decode cX2_join 137 = .ok (.lload_n 3, 1) := by decide +kernel
theorem dX2_join_138 : decode cX2_join 138 = .ok (.lcmp, 1) := by decide +kernel
theorem dX2_join_139 : decode cX2_join 139 = .ok (.ifCond .ne 7, 3) := by decide +kernel
theorem dX2_join_142 : decode cX2_join 142 = .ok (.lconst 1, 1) := by decide +kernel
theorem dX2_join_143 : decode cX2_join 143 = .ok (.goto 4, 3) := by decide +kernel
theorem dX2_join_146 : decode cX2_join 146 = .ok (.lconst 0, 1) := by decide +kernel
theorem dX2_join_147 : decode cX2_join 147 = .ok (.lreturn, 1) := by decide +kernel
theorem dX2_join_148 : decode cX2_join 148 = .ok (.lload_n 1, 1) := by decide +kernel
theorem dX2_join_149 : decode cX2_join 149 = .ok (.lload_n 3, 1) := by decide +kernel
theorem dX2_join_150 : decode cX2_join 150 = .ok (.ladd, 1) := by decide +kernel
theorem dX2_join_151 : decode cX2_join 151 = .ok (.lreturn, 1) := by decide +kernel
theorem dX2_join_152 : decode cX2_join 152 = .ok (.lload_n 1, 1) := by decide +kernel
theorem dX2_join_153 : decode cX2_join 153 = .ok (.lload_n 3, 1) := by decide +kernel
theorem dX2_join_154 : decode cX2_join 154 = .ok (.lsub, 1) := by decide +kernel
theorem dX2_join_155 : decode cX2_join 155 = .ok (.lreturn, 1) := by decide +kernel
theorem dX2_join_156 : decode cX2_join 156 = .ok (.lload_n 1, 1) := by decide +kernel
theorem dX2_join_157 : decode cX2_join 157 = .ok (.lload_n 3, 1) := by decide +kernel
theorem dX2_join_158 : decode cX2_join 158 = .ok (.lmul, 1) := by decide +kernel
theorem dX2_join_159 : decode cX2_join 159 = .ok (.lreturn, 1) := by decide +kernel
theorem dX2_join_160 : decode cX2_join 160 = .ok (.lload_n 3, 1) := by decide +kernel
theorem dX2_join_161 : decode cX2_join 161 = .ok (.lconst 0, 1) := by decide +kernel
theorem dX2_join_162 : decode cX2_join 162 = .ok (.lcmp, 1) := by decide +kernel
theorem dX2_join_163 : decode cX2_join 163 = .ok (.ifCond .ne 7, 3) := by decide +kernel
theorem dX2_join_166 : decode cX2_join 166 = .ok (.lconst 0, 1) := by decide +kernel
theorem dX2_join_167 : decode cX2_join 167 = .ok (.goto 6, 3) := by decide +kernel
theorem dX2_join_170 : decode cX2_join 170 = .ok (.lload_n 1, 1) := by decide +kernel
theorem dX2_join_171 : decode cX2_join 171 = .ok (.lload_n 3, 1) := by decide +kernel
theorem dX2_join_172 : decode cX2_join 172 = .ok (.ldiv, 1) := by decide +kernel
theorem dX2_join_173 : decode cX2_join 173 = .ok (.lreturn, 1) := by decide +kernel
theorem dX3_steps_0 : decode cX3_steps 0 = .ok (.iload_n 1, 1) := by decide +kernel
theorem dX3_steps_1 : decode cX3_steps 1 = .ok (.iconst 1, 1) := by decide +kernel
theorem dX3_steps_2 : decode cX3_steps 2 = .ok (.if_icmp .lt 9, 3) := by decide +kernel
theorem dX3_steps_5 : decode cX3_steps 5 = .ok (.iload_n 1, 1) := by decide +kernel
theorem dX3_steps_6 : decode cX3_steps 6 = .ok (.bipush 24, 2) := by decide +kernel
theorem dX3_steps_8 : decode cX3_steps 8 = .ok (.if_icmp .le 6, 3) := by decide +kernel
theorem dX3_steps_11 : decode cX3_steps 11 = .ok (.bipush (-2), 2) := by decide +kernel
theorem dX3_steps_13 : decode cX3_steps 13 = .ok (.ireturn, 1) := by decide +kernel
theorem dX3_steps_14 : decode cX3_steps 14 = .ok (.aload_n 0, 1) := by decide +kernel
theorem dX3_steps_15 : decode cX3_steps 15 = .ok (.getfield 43, 3) := by decide +kernel
theorem dX3_steps_18 : decode cX3_steps 18 = .ok (.istore_n 2, 1) := by decide +kernel
theorem dX3_steps_19 : decode cX3_steps 19 = .ok (.aload_n 0, 1) := by decide +kernel
theorem dX3_steps_20 : decode cX3_steps 20 = .ok (.iload_n 1, 1) := by decide +kernel
theorem dX3_steps_21 : decode cX3_steps 21 = .ok (.putfield 43, 3) := by decide +kernel
theorem dX3_steps_24 : decode cX3_steps 24 = .ok (.iload_n 2, 1) := by decide +kernel
theorem dX3_steps_25 : decode cX3_steps 25 = .ok (.ireturn, 1) := by decide +kernel
theorem dX3_envoy_0 : decode cX3_envoy 0 = .ok (.iload_n 1, 1) := by decide +kernel
theorem dX3_envoy_1 : decode cX3_envoy 1 = .ok (.invokestatic 73, 3) := by decide +kernel
theorem dX3_envoy_4 : decode cX3_envoy 4 = .ok (.ifCond .ne 6, 3) := by decide +kernel
theorem dX3_envoy_7 : decode cX3_envoy 7 = .ok (.bipush (-2), 2) := by decide +kernel
theorem dX3_envoy_9 : decode cX3_envoy 9 = .ok (.ireturn, 1) := by decide +kernel
theorem dX3_envoy_10 : decode cX3_envoy 10 = .ok (.aload_n 0, 1) := by decide +kernel
theorem dX3_envoy_11 : decode cX3_envoy 11 = .ok (.getfield 7, 3) := by decide +kernel
theorem dX3_envoy_14 : decode cX3_envoy 14 = .ok (.iload_n 1, 1) := by decide +kernel
theorem dX3_envoy_15 : decode cX3_envoy 15 = .ok (.iaload, 1) := by decide +kernel
theorem dX3_envoy_16 : decode cX3_envoy 16 = .ok (.iconst 5, 1) := by decide +kernel
theorem dX3_envoy_17 : decode cX3_envoy 17 = .ok (.if_icmp .lt 6, 3) := by decide +kernel
theorem dX3_envoy_20 : decode cX3_envoy 20 = .ok (.bipush (-4), 2) := by decide +kernel
theorem dX3_envoy_22 : decode cX3_envoy 22 = .ok (.ireturn, 1) := by decide +kernel
theorem dX3_envoy_23 : decode cX3_envoy 23 = .ok (.aload_n 0, 1) := by decide +kernel
theorem dX3_envoy_24 : decode cX3_envoy 24 = .ok (.getfield 7, 3) := by decide +kernel
theorem dX3_envoy_27 : decode cX3_envoy 27 = .ok (.iload_n 1, 1) := by decide +kernel
theorem dX3_envoy_28 : decode cX3_envoy 28 = .ok (.iaload, 1) := by decide +kernel
theorem dX3_envoy_29 : decode cX3_envoy 29 = .ok (.istore_n 2, 1) := by decide +kernel
theorem dX3_envoy_30 : decode cX3_envoy 30 = .ok (.aload_n 0, 1) := by decide +kernel
theorem dX3_envoy_31 : decode cX3_envoy 31 = .ok (.getfield 7, 3) := by decide +kernel
theorem dX3_envoy_34 : decode cX3_envoy 34 = .ok (.iload_n 1, 1) := by decide +kernel
theorem dX3_envoy_35 : decode cX3_envoy 35 = .ok (.dup2, 1) := by decide +kernel
theorem dX3_envoy_36 : decode cX3_envoy 36 = .ok (.iaload, 1) := by decide +kernel
theorem dX3_envoy_37 : decode cX3_envoy 37 = .ok (.iconst 1, 1) := by decide +kernel
theorem dX3_envoy_38 : decode cX3_envoy 38 = .ok (.iadd, 1) := by decide +kernel
theorem dX3_envoy_39 : decode cX3_envoy 39 = .ok (.iastore, 1) := by decide +kernel
theorem dX3_envoy_40 : decode cX3_envoy 40 = .ok (.aload_n 0, 1) := by decide +kernel
theorem dX3_envoy_41 : decode cX3_envoy 41 = .ok (.iload_n 1, 1) := by decide +kernel
theorem dX3_envoy_42 : decode cX3_envoy 42 = .ok (.iload_n 2, 1) := by decide +kernel
theorem dX3_envoy_43 : decode cX3_envoy 43 = .ok (.invokevirtual 77, 3) := by decide +kernel
theorem dX3_envoy_46 : decode cX3_envoy 46 = .ok (.aload_n 0, 1) := by decide +kernel
theorem dX3_envoy_47 : decode cX3_envoy 47 = .ok (.iload_n 1, 1) := by decide +kernel
theorem dX3_envoy_48 : decode cX3_envoy 48 = .ok (.iconst 0, 1) := by decide +kernel
theorem dX3_envoy_49 : decode cX3_envoy 49 = .ok (.invokevirtual 77, 3) := by decide +kernel
theorem dX3_envoy_52 : decode cX3_envoy 52 = .ok (.invokevirtual 81, 3) := by decide +kernel
theorem dX3_envoy_55 : decode cX3_envoy 55 = .ok (.iload_n 2, 1) := by decide +kernel
theorem dX3_envoy_56 : decode cX3_envoy 56 = .ok (.ireturn, 1) := by decide +kernel
theorem dX3_put_0 : decode cX3_put 0 = .ok (.aload_n 0, 1) := by decide +kernel
theorem dX3_put_1 : decode cX3_put 1 = .ok (.iload_n 1, 1) := by decide +kernel
theorem dX3_put_2 : decode cX3_put 2 = .ok (.iload_n 2, 1) := by decide +kernel
theorem dX3_put_3 : decode cX3_put 3 = .ok (.invokevirtual 85, 3) := by decide +kernel
theorem dX3_put_6 : decode cX3_put 6 = .ok (.ifCond .eq 33, 3) := by decide +kernel
theorem dX3_put_9 : decode cX3_put 9 = .ok (.iload_n 3, 1) := by decide +kernel
theorem dX3_put_10 : decode cX3_put 10 = .ok (.ifCond .lt 29, 3) := by decide +kernel
theorem dX3_put_13 : decode cX3_put 13 = .ok (.iload_n 3, 1) := by decide +kernel
theorem dX3_put_14 : decode cX3_put 14 = .ok (.bipush 9, 2) := by decide +kernel
theorem dX3_put_16 : decode cX3_put 16 = .ok (.if_icmp .ge 23, 3) := by decide +kernel
theorem dX3_put_19 : decode cX3_put 19 = .ok (.iload 4, 2) := by decide +kernel
theorem dX3_put_21 : decode cX3_put 21 = .ok (.getstatic 89, 3) := by decide +kernel
theorem dX3_put_24 : decode cX3_put 24 = .ok (.iload_n 3, 1) := by decide +kernel
theorem dX3_put_25 : decode cX3_put 25 = .ok (.iaload, 1) := by decide +kernel
theorem dX3_put_26 : decode cX3_put 26 = .ok (.if_icmp .lt 13, 3) := by decide +kernel
theorem dX3_put_29 : decode cX3_put 29 = .ok (.iload 4, 2) := by decide +kernel
theorem dX3_put_31 : decode cX3_put 31 = .ok (.getstatic 92, 3) := by decide +kernel
theorem dX3_put_34 : decode cX3_put 34 = .ok (.iload_n 3, 1) := by decide +kernel
theorem dX3_put_35 : decode cX3_put 35 = .ok (.iaload, 1) := by decide +kernel
theorem dX3_put_36 : decode cX3_put 36 = .ok (.if_icmp .le 7, 3) := by decide +kernel
theorem dX3_put_39 : decode cX3_put 39 = .ok (.sipush (-1000), 3) := by decide +kernel
theorem dX3_put_42 : decode cX3_put 42 = .ok (.ireturn, 1) := by decide +kernel
theorem dX3_put_43 : decode cX3_put 43 = .ok (.aload_n 0, 1) := by decide +kernel
theorem dX3_put_44 : decode cX3_put 44 = .ok (.iload_n 1, 1) := by decide +kernel
theorem dX3_put_45 : decode cX3_put 45 = .ok (.iload_n 2, 1) := by decide +kernel
theorem dX3_put_46 : decode cX3_put 46 = .ok (.invokevirtual 77, 3) := by decide +kernel
theorem dX3_put_49 : decode cX3_put 49 = .ok (.getfield 70, 3) := by decide +kernel
theorem dX3_put_52 : decode cX3_put 52 = .ok (.astore 5, 2) := by decide +kernel
theorem dX3_put_54 : decode cX3_put 54 = .ok (.aload 5, 2) := by decide +kernel
theorem dX3_put_56 : decode cX3_put 56 = .ok (.iload_n 3, 1) := by decide +kernel
theorem dX3_put_57 : decode cX3_put 57 = .ok (.iaload, 1) := by decide +kernel
theorem dX3_put_58 : decode cX3_put 58 = .ok (.istore 6, 2) := by decide +kernel
theorem dX3_put_60 : decode cX3_put 60 = .ok (.aload 5, 2) := by decide +kernel
theorem dX3_put_62 : decode cX3_put 62 = .ok (.iload_n 3, 1) := by decide +kernel
theorem dX3_put_63 : decode cX3_put 63 = .ok (.iload 4, 2) := by decide +kernel
theorem dX3_put_65 : decode cX3_put 65 = .ok (.iastore, 1) := by decide +kernel
theorem dX3_put_66 : decode cX3_put 66 = .ok (.iload 6, 2) := by decide +kernel
theorem dX3_put_68 : decode cX3_put 68 = .ok (.ireturn, 1) := by decide +kernel
theorem dX3_worth_0 : decode cX3_worth 0 = .ok (.aload_n 0, 1) := by decide +kernel
theorem dX3_worth_1 : decode cX3_worth 1 = .ok (.iload_n 1, 1) := by decide +kernel
theorem dX3_worth_2 : decode cX3_worth 2 = .ok (.iload_n 2, 1) := by decide +kernel
theorem dX3_worth_3 : decode cX3_worth 3 = .ok (.invokevirtual 85, 3) := by decide +kernel
theorem dX3_worth_6 : decode cX3_worth 6 = .ok (.ifCond .eq 15, 3) := by decide +kernel
theorem dX3_worth_9 : decode cX3_worth 9 = .ok (.iload_n 3, 1) := by decide +kernel
theorem dX3_worth_10 : decode cX3_worth 10 = .ok (.ifCond .lt 11, 3) := by decide +kernel
theorem dX3_worth_13 : decode cX3_worth 13 = .ok (.iload_n 3, 1) := by decide +kernel
theorem dX3_worth_14 : decode cX3_worth 14 = .ok (.aload_n 0, 1) := by decide +kernel
theorem dX3_worth_15 : decode cX3_worth 15 = .ok (.getfield 43, 3) := by decide +kernel
theorem dX3_worth_18 : decode cX3_worth 18 = .ok (.if_icmp .le 6, 3) := by decide +kernel
theorem dX3_worth_21 : decode cX3_worth 21 = .ok (.ldc 95, 2) := by decide +kernel
theorem dX3_worth_23 : decode cX3_worth 23 = .ok (.ireturn, 1) := by decide +kernel
theorem dX3_worth_24 : decode cX3_worth 24 = .ok (.aload_n 0, 1) := by decide +kernel
theorem dX3_worth_25 : decode cX3_worth 25 = .ok (.iload_n 1, 1) := by decide +kernel
theorem dX3_worth_26 : decode cX3_worth 26 = .ok (.iload_n 2, 1) := by decide +kernel
theorem dX3_worth_27 : decode cX3_worth 27 = .ok (.invokevirtual 77, 3) := by decide +kernel
theorem dX3_worth_30 : decode cX3_worth 30 = .ok (.iload_n 3, 1) := by decide +kernel
theorem dX3_worth_31 : decode cX3_worth 31 = .ok (.aload_n 0, 1) := by decide +kernel
theorem dX3_worth_32 : decode cX3_worth 32 = .ok (.getfield 43, 3) := by decide +kernel
theorem dX3_worth_35 : decode cX3_worth 35 = .ok (.invokevirtual 96, 3) := by decide +kernel
theorem dX3_worth_38 : decode cX3_worth 38 = .ok (.ireturn, 1) := by decide +kernel
theorem dX3_takes_0 : decode cX3_takes 0 = .ok (.aload_n 0, 1) := by decide +kernel
theorem dX3_takes_1 : decode cX3_takes 1 = .ok (.iload_n 1, 1) := by decide +kernel
theorem dX3_takes_2 : decode cX3_takes 2 = .ok (.iload_n 2, 1) := by decide +kernel
theorem dX3_takes_3 : decode cX3_takes 3 = .ok (.invokevirtual 85, 3) := by decide +kernel
theorem dX3_takes_6 : decode cX3_takes 6 = .ok (.ifCond .eq 15, 3) := by decide +kernel
theorem dX3_takes_9 : decode cX3_takes 9 = .ok (.iload_n 3, 1) := by decide +kernel
theorem dX3_takes_10 : decode cX3_takes 10 = .ok (.ifCond .lt 11, 3) := by decide +kernel
theorem dX3_takes_13 : decode cX3_takes 13 = .ok (.iload_n 3, 1) := by decide +kernel
theorem dX3_takes_14 : decode cX3_takes 14 = .ok (.aload_n 0, 1) := by decide +kernel
theorem dX3_takes_15 : decode cX3_takes 15 = .ok (.getfield 43, 3) := by decide +kernel
theorem dX3_takes_18 : decode cX3_takes 18 = .ok (.if_icmp .le 6, 3) := by decide +kernel
theorem dX3_takes_21 : decode cX3_takes 21 = .ok (.bipush (-2), 2) := by decide +kernel
theorem dX3_takes_23 : decode cX3_takes 23 = .ok (.ireturn, 1) := by decide +kernel
theorem dX3_takes_24 : decode cX3_takes 24 = .ok (.aload_n 0, 1) := by decide +kernel
theorem dX3_takes_25 : decode cX3_takes 25 = .ok (.iload_n 1, 1) := by decide +kernel
theorem dX3_takes_26 : decode cX3_takes 26 = .ok (.iload_n 2, 1) := by decide +kernel
theorem dX3_takes_27 : decode cX3_takes 27 = .ok (.invokevirtual 77, 3) := by decide +kernel
theorem dX3_takes_30 : decode cX3_takes 30 = .ok (.astore 4, 2) := by decide +kernel
theorem dX3_takes_32 : decode cX3_takes 32 = .ok (.aload 4, 2) := by decide +kernel
theorem dX3_takes_34 : decode cX3_takes 34 = .ok (.iload_n 3, 1) := by decide +kernel
theorem dX3_takes_35 : decode cX3_takes 35 = .ok (.aload 4, 2) := by decide +kernel
theorem dX3_takes_37 : decode cX3_takes 37 = .ok (.iload_n 3, 1) := by decide +kernel
theorem dX3_takes_38 : decode cX3_takes 38 = .ok (.aload_n 0, 1) := by decide +kernel
theorem dX3_takes_39 : decode cX3_takes 39 = .ok (.getfield 43, 3) := by decide +kernel
theorem dX3_takes_42 : decode cX3_takes 42 = .ok (.invokevirtual 100, 3) := by decide +kernel
theorem dX3_takes_45 : decode cX3_takes 45 = .ok (.invokevirtual 103, 3) := by decide +kernel
theorem dX3_takes_48 : decode cX3_takes 48 = .ok (.ifCond .eq 7, 3) := by decide +kernel
theorem dX3_takes_51 : decode cX3_takes 51 = .ok (.iconst 1, 1) := by decide +kernel
theorem dX3_takes_52 : decode cX3_takes 52 = .ok (.goto 4, 3) := by decide +kernel
theorem dX3_takes_55 : decode cX3_takes 55 = .ok (.iconst 0, 1) := by decide +kernel
theorem dX3_takes_56 : decode cX3_takes 56 = .ok (.ireturn, 1) := by decide +kernel
theorem dX3_set_0 : decode cX3_set 0 = .ok (.iload_n 1, 1) := by decide +kernel
theorem dX3_set_1 : decode cX3_set 1 = .ok (.tableswitch 45 0 2 #[27, 33, 39], 27) := by decide +kernel
theorem dX3_set_28 : decode cX3_set 28 = .ok (.aload_n 0, 1) := by decide +kernel
theorem dX3_set_29 : decode cX3_set 29 = .ok (.iload_n 2, 1) := by decide +kernel
theorem dX3_set_30 : decode cX3_set 30 = .ok (.invokevirtual 106, 3) := by decide +kernel
theorem dX3_set_33 : decode cX3_set 33 = .ok (.ireturn, 1) := by decide +kernel
theorem dX3_set_34 : decode cX3_set 34 = .ok (.aload_n 0, 1) := by decide +kernel
theorem dX3_set_35 : decode cX3_set 35 = .ok (.iload_n 2, 1) := by decide +kernel
theorem dX3_set_36 : decode cX3_set 36 = .ok (.invokevirtual 110, 3) := by decide +kernel
theorem dX3_set_39 : decode cX3_set 39 = .ok (.ireturn, 1) := by decide +kernel
theorem dX3_set_40 : decode cX3_set 40 = .ok (.aload_n 0, 1) := by decide +kernel
theorem dX3_set_41 : decode cX3_set 41 = .ok (.iload_n 2, 1) := by decide +kernel
theorem dX3_set_42 : decode cX3_set 42 = .ok (.invokevirtual 113, 3) := by decide +kernel
theorem dX3_set_45 : decode cX3_set 45 = .ok (.ireturn, 1) := by decide +kernel
theorem dX3_set_46 : decode cX3_set 46 = .ok (.bipush (-2), 2) := by decide +kernel
theorem dX3_set_48 : decode cX3_set 48 = .ok (.ireturn, 1) := by decide +kernel
theorem dX3_lot_0 : decode cX3_lot 0 = .ok (.iload_n 2, 1) := by decide +kernel
theorem dX3_lot_1 : decode cX3_lot 1 = .ok (.iconst 1, 1) := by decide +kernel
theorem dX3_lot_2 : decode cX3_lot 2 = .ok (.if_icmp .lt 18, 3) := by decide +kernel
theorem dX3_lot_5 : decode cX3_lot 5 = .ok (.iload_n 2, 1) := by decide +kernel
theorem dX3_lot_6 : decode cX3_lot 6 = .ok (.bipush 9, 2) := by decide +kernel
theorem dX3_lot_8 : decode cX3_lot 8 = .ok (.if_icmp .gt 12, 3) := by decide +kernel
theorem dX3_lot_11 : decode cX3_lot 11 = .ok (.iload_n 1, 1) := by decide +kernel
theorem dX3_lot_12 : decode cX3_lot 12 = .ok (.ifCond .lt 8, 3) := by decide +kernel
theorem dX3_lot_15 : decode cX3_lot 15 = .ok (.iload_n 1, 1) := by decide +kernel
theorem dX3_lot_16 : decode cX3_lot 16 = .ok (.iload_n 2, 1) := by decide +kernel
theorem dX3_lot_17 : decode cX3_lot 17 = .ok (.if_icmp .le 6, 3) := by decide +kernel
theorem dX3_lot_20 : decode cX3_lot 20 = .ok (.bipush (-2), 2) := by decide +kernel
theorem dX3_lot_22 : decode cX3_lot 22 = .ok (.ireturn, 1) := by decide +kernel
theorem dX3_lot_23 : decode cX3_lot 23 = .ok (.aload_n 0, 1) := by decide +kernel
theorem dX3_lot_24 : decode cX3_lot 24 = .ok (.iload_n 1, 1) := by decide +kernel
theorem dX3_lot_25 : decode cX3_lot 25 = .ok (.putfield 56, 3) := by decide +kernel
theorem dX3_lot_28 : decode cX3_lot 28 = .ok (.aload_n 0, 1) := by decide +kernel
theorem dX3_lot_29 : decode cX3_lot 29 = .ok (.iload_n 2, 1) := by decide +kernel
theorem dX3_lot_30 : decode cX3_lot 30 = .ok (.putfield 59, 3) := by decide +kernel
theorem dX3_lot_33 : decode cX3_lot 33 = .ok (.iconst 1, 1) := by decide +kernel
theorem dX3_lot_34 : decode cX3_lot 34 = .ok (.ireturn, 1) := by decide +kernel
theorem dX3_write_0 : decode cX3_write 0 = .ok (.iload_n 1, 1) := by decide +kernel
theorem dX3_write_1 : decode cX3_write 1 = .ok (.ifCond .lt 9, 3) := by decide +kernel
theorem dX3_write_4 : decode cX3_write 4 = .ok (.iload_n 1, 1) := by decide +kernel
theorem dX3_write_5 : decode cX3_write 5 = .ok (.bipush 127, 2) := by decide +kernel
theorem dX3_write_7 : decode cX3_write 7 = .ok (.if_icmp .le 6, 3) := by decide +kernel
theorem dX3_write_10 : decode cX3_write 10 = .ok (.bipush (-2), 2) := by decide +kernel
theorem dX3_write_12 : decode cX3_write 12 = .ok (.ireturn, 1) := by decide +kernel
theorem dX3_write_13 : decode cX3_write 13 = .ok (.aload_n 0, 1) := by decide +kernel
theorem dX3_write_14 : decode cX3_write 14 = .ok (.getfield 22, 3) := by decide +kernel
theorem dX3_write_17 : decode cX3_write 17 = .ok (.getfield 116, 3) := by decide +kernel
theorem dX3_write_20 : decode cX3_write 20 = .ok (.bipush 40, 2) := by decide +kernel
theorem dX3_write_22 : decode cX3_write 22 = .ok (.if_icmp .lt 6, 3) := by decide +kernel
theorem dX3_write_25 : decode cX3_write 25 = .ok (.bipush (-4), 2) := by decide +kernel
theorem dX3_write_27 : decode cX3_write 27 = .ok (.ireturn, 1) := by decide +kernel
theorem dX3_write_28 : decode cX3_write 28 = .ok (.aload_n 0, 1) := by decide +kernel
theorem dX3_write_29 : decode cX3_write 29 = .ok (.getfield 22, 3) := by decide +kernel
theorem dX3_write_32 : decode cX3_write 32 = .ok (.iload_n 1, 1) := by decide +kernel
theorem dX3_write_33 : decode cX3_write 33 = .ok (.invokevirtual 119, 3) := by decide +kernel
theorem dX3_write_36 : decode cX3_write 36 = .ok (.aload_n 0, 1) := by decide +kernel
theorem dX3_write_37 : decode cX3_write 37 = .ok (.getfield 22, 3) := by decide +kernel
theorem dX3_write_40 : decode cX3_write 40 = .ok (.getfield 116, 3) := by decide +kernel
theorem dX3_write_43 : decode cX3_write 43 = .ok (.ireturn, 1) := by decide +kernel
theorem dX3_erase_0 : decode cX3_erase 0 = .ok (.aload_n 0, 1) := by decide +kernel
theorem dX3_erase_1 : decode cX3_erase 1 = .ok (.getfield 22, 3) := by decide +kernel
theorem dX3_erase_4 : decode cX3_erase 4 = .ok (.getfield 116, 3) := by decide +kernel
theorem dX3_erase_7 : decode cX3_erase 7 = .ok (.istore_n 1, 1) := by decide +kernel
theorem dX3_erase_8 : decode cX3_erase 8 = .ok (.aload_n 0, 1) := by decide +kernel
theorem dX3_erase_9 : decode cX3_erase 9 = .ok (.getfield 22, 3) := by decide +kernel
theorem dX3_erase_12 : decode cX3_erase 12 = .ok (.invokevirtual 123, 3) := by decide +kernel
theorem dX3_erase_15 : decode cX3_erase 15 = .ok (.iload_n 1, 1) := by decide +kernel
theorem dX3_erase_16 : decode cX3_erase 16 = .ok (.ireturn, 1) := by decide +kernel
theorem dX3_fault_0 : decode cX3_fault 0 = .ok (.aload_n 0, 1) := by decide +kernel
theorem dX3_fault_1 : decode cX3_fault 1 = .ok (.getfield 22, 3) := by decide +kernel
theorem dX3_fault_4 : decode cX3_fault 4 = .ok (.getfield 126, 3) := by decide +kernel
theorem dX3_fault_7 : decode cX3_fault 7 = .ok (.ireturn, 1) := by decide +kernel
theorem dX3_settle_0 : decode cX3_settle 0 = .ok (.aload_n 0, 1) := by decide +kernel
theorem dX3_settle_1 : decode cX3_settle 1 = .ok (.iload_n 1, 1) := by decide +kernel
theorem dX3_settle_2 : decode cX3_settle 2 = .ok (.iload_n 2, 1) := by decide +kernel
theorem dX3_settle_3 : decode cX3_settle 3 = .ok (.invokevirtual 129, 3) := by decide +kernel
theorem dX3_settle_6 : decode cX3_settle 6 = .ok (.ifCond .eq 12, 3) := by decide +kernel
theorem dX3_settle_9 : decode cX3_settle 9 = .ok (.aload_n 0, 1) := by decide +kernel
theorem dX3_settle_10 : decode cX3_settle 10 = .ok (.iload_n 1, 1) := by decide +kernel
theorem dX3_settle_11 : decode cX3_settle 11 = .ok (.iload_n 2, 1) := by decide +kernel
theorem dX3_settle_12 : decode cX3_settle 12 = .ok (.invokevirtual 132, 3) := by decide +kernel
theorem dX3_settle_15 : decode cX3_settle 15 = .ok (.goto 5, 3) := by decide +kernel
theorem dX3_settle_18 : decode cX3_settle 18 = .ok (.bipush (-2), 2) := by decide +kernel
theorem dX3_settle_20 : decode cX3_settle 20 = .ok (.ireturn, 1) := by decide +kernel
theorem dX3_round_0 : decode cX3_round 0 = .ok (.aload_n 0, 1) := by decide +kernel
theorem dX3_round_1 : decode cX3_round 1 = .ok (.iload_n 1, 1) := by decide +kernel
theorem dX3_round_2 : decode cX3_round 2 = .ok (.iload_n 2, 1) := by decide +kernel
theorem dX3_round_3 : decode cX3_round 3 = .ok (.invokevirtual 129, 3) := by decide +kernel
theorem dX3_round_6 : decode cX3_round 6 = .ok (.ifCond .ne 6, 3) := by decide +kernel
theorem dX3_round_9 : decode cX3_round 9 = .ok (.bipush (-2), 2) := by decide +kernel
theorem dX3_round_11 : decode cX3_round 11 = .ok (.ireturn, 1) := by decide +kernel
theorem dX3_round_12 : decode cX3_round 12 = .ok (.aload_n 0, 1) := by decide +kernel
theorem dX3_round_13 : decode cX3_round 13 = .ok (.iload_n 1, 1) := by decide +kernel
theorem dX3_round_14 : decode cX3_round 14 = .ok (.iload_n 2, 1) := by decide +kernel
theorem dX3_round_15 : decode cX3_round 15 = .ok (.invokevirtual 132, 3) := by decide +kernel
theorem dX3_round_18 : decode cX3_round 18 = .ok (.pop, 1) := by decide +kernel
theorem dX3_round_19 : decode cX3_round 19 = .ok (.aload_n 0, 1) := by decide +kernel
theorem dX3_round_20 : decode cX3_round 20 = .ok (.getfield 29, 3) := by decide +kernel
theorem dX3_round_23 : decode cX3_round 23 = .ok (.getfield 135, 3) := by decide +kernel
theorem dX3_round_26 : decode cX3_round 26 = .ok (.ireturn, 1) := by decide +kernel
theorem dX3_has_0 : decode cX3_has 0 = .ok (.iload_n 1, 1) := by decide +kernel
theorem dX3_has_1 : decode cX3_has 1 = .ok (.invokestatic 73, 3) := by decide +kernel
theorem dX3_has_4 : decode cX3_has 4 = .ok (.ifCond .eq 12, 3) := by decide +kernel
theorem dX3_has_7 : decode cX3_has 7 = .ok (.aload_n 0, 1) := by decide +kernel
theorem dX3_has_8 : decode cX3_has 8 = .ok (.iload_n 2, 1) := by decide +kernel
theorem dX3_has_9 : decode cX3_has 9 = .ok (.iload_n 3, 1) := by decide +kernel
theorem dX3_has_10 : decode cX3_has 10 = .ok (.invokevirtual 129, 3) := by decide +kernel
theorem dX3_has_13 : decode cX3_has 13 = .ok (.ifCond .ne 6, 3) := by decide +kernel
theorem dX3_has_16 : decode cX3_has 16 = .ok (.bipush (-2), 2) := by decide +kernel
theorem dX3_has_18 : decode cX3_has 18 = .ok (.ireturn, 1) := by decide +kernel
theorem dX3_has_19 : decode cX3_has 19 = .ok (.aload_n 0, 1) := by decide +kernel
theorem dX3_has_20 : decode cX3_has 20 = .ok (.iload_n 2, 1) := by decide +kernel
theorem dX3_has_21 : decode cX3_has 21 = .ok (.iload_n 3, 1) := by decide +kernel
theorem dX3_has_22 : decode cX3_has 22 = .ok (.invokevirtual 132, 3) := by decide +kernel
theorem dX3_has_25 : decode cX3_has 25 = .ok (.pop, 1) := by decide +kernel
theorem dX3_has_26 : decode cX3_has 26 = .ok (.aload_n 0, 1) := by decide +kernel
theorem dX3_has_27 : decode cX3_has 27 = .ok (.aload_n 0, 1) := by decide +kernel
theorem dX3_has_28 : decode cX3_has 28 = .ok (.iload_n 1, 1) := by decide +kernel
theorem dX3_has_29 : decode cX3_has 29 = .ok (.iload_n 1, 1) := by decide +kernel
theorem dX3_has_30 : decode cX3_has 30 = .ok (.ifCond .ne 7, 3) := by decide +kernel
theorem dX3_has_33 : decode cX3_has 33 = .ok (.iload_n 2, 1) := by decide +kernel
theorem dX3_has_34 : decode cX3_has 34 = .ok (.goto 4, 3) := by decide +kernel
theorem dX3_has_37 : decode cX3_has 37 = .ok (.iload_n 3, 1) := by decide +kernel
theorem dX3_has_38 : decode cX3_has 38 = .ok (.invokevirtual 138, 3) := by decide +kernel
theorem dX3_has_41 : decode cX3_has 41 = .ok (.aload_n 0, 1) := by decide +kernel
theorem dX3_has_42 : decode cX3_has 42 = .ok (.invokevirtual 142, 3) := by decide +kernel
theorem dX3_has_45 : decode cX3_has 45 = .ok (.i2l, 1) := by decide +kernel
theorem dX3_has_46 : decode cX3_has 46 = .ok (.invokevirtual 146, 3) := by decide +kernel
theorem dX3_has_49 : decode cX3_has 49 = .ok (.iconst 1, 1) := by decide +kernel
theorem dX3_has_50 : decode cX3_has 50 = .ok (.ireturn, 1) := by decide +kernel
theorem dX3_best_0 : decode cX3_best 0 = .ok (.iload_n 1, 1) := by decide +kernel
theorem dX3_best_1 : decode cX3_best 1 = .ok (.invokestatic 73, 3) := by decide +kernel
theorem dX3_best_4 : decode cX3_best 4 = .ok (.ifCond .eq 14, 3) := by decide +kernel
theorem dX3_best_7 : decode cX3_best 7 = .ok (.aload_n 0, 1) := by decide +kernel
theorem dX3_best_8 : decode cX3_best 8 = .ok (.iconst 1, 1) := by decide +kernel
theorem dX3_best_9 : decode cX3_best 9 = .ok (.iload_n 1, 1) := by decide +kernel
theorem dX3_best_10 : decode cX3_best 10 = .ok (.isub, 1) := by decide +kernel
theorem dX3_best_11 : decode cX3_best 11 = .ok (.iload_n 2, 1) := by decide +kernel
theorem dX3_best_12 : decode cX3_best 12 = .ok (.invokevirtual 85, 3) := by decide +kernel
theorem dX3_best_15 : decode cX3_best 15 = .ok (.ifCond .ne 6, 3) := by decide +kernel
theorem dX3_best_18 : decode cX3_best 18 = .ok (.bipush (-2), 2) := by decide +kernel
theorem dX3_best_20 : decode cX3_best 20 = .ok (.ireturn, 1) := by decide +kernel
theorem dX3_best_21 : decode cX3_best 21 = .ok (.iconst 0, 1) := by decide +kernel
theorem dX3_best_22 : decode cX3_best 22 = .ok (.istore_n 3, 1) := by decide +kernel
theorem dX3_best_23 : decode cX3_best 23 = .ok (.aload_n 0, 1) := by decide +kernel
theorem dX3_best_24 : decode cX3_best 24 = .ok (.iload_n 1, 1) := by decide +kernel
theorem dX3_best_25 : decode cX3_best 25 = .ok (.iconst 0, 1) := by decide +kernel
theorem dX3_best_26 : decode cX3_best 26 = .ok (.iload_n 2, 1) := by decide +kernel
theorem dX3_best_27 : decode cX3_best 27 = .ok (.invokevirtual 150, 3) := by decide +kernel
theorem dX3_best_30 : decode cX3_best 30 = .ok (.lstore 4, 2) := by decide +kernel
theorem dX3_best_32 : decode cX3_best 32 = .ok (.iconst 1, 1) := by decide +kernel
theorem dX3_best_33 : decode cX3_best 33 = .ok (.istore 6, 2) := by decide +kernel
theorem dX3_best_35 : decode cX3_best 35 = .ok (.iload 6, 2) := by decide +kernel
theorem dX3_best_37 : decode cX3_best 37 = .ok (.aload_n 0, 1) := by decide +kernel
theorem dX3_best_38 : decode cX3_best 38 = .ok (.getfield 7, 3) := by decide +kernel
