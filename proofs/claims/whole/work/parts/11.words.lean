theorem m_0 : Cond.fieldLink RX0 9 "HardEnvoys$Envoy" "numbers" "[I" ∈ e_tbl := e_tbl_mem (List.mem_of_getElem? (i := 172) (by decide +kernel)) rfl
theorem m_1 : Cond.methodLink RX0 19 arraycopyName ∈ e_tbl := e_tbl_mem (by decide +kernel) rfl
theorem m_2 : Cond.native arraycopyName ∈ e_tbl := e_tbl_mem (by decide +kernel) rfl
theorem m_3 : Cond.static arraycopyName ∈ e_tbl := e_tbl_mem (by decide +kernel) rfl
theorem m_4 : Cond.initialized "java/lang/System" ∈ e_tbl := e_tbl_mem (List.mem_of_getElem? (i := 68) (by decide +kernel)) rfl
theorem m_5 : Cond.code yX0_wagesFor cX0_wagesFor 2 (some .int) ∈ e_tbl := e_tbl_mem (List.mem_of_getElem? (i := 271) (by decide +kernel)) rfl
theorem m_6 : Cond.selects RX0 yX0_wagesFor yX0_wagesFor ∈ e_tbl := e_tbl_mem (List.mem_of_getElem? (i := 270) (by decide +kernel)) rfl
theorem m_7 : Cond.methodLink RX0 25 yX0_wagesFor ∈ e_tbl := e_tbl_mem (List.mem_of_getElem? (i := 268) (by decide +kernel)) rfl
theorem m_8 : Cond.instanceMethod yX0_wagesFor ∈ e_tbl := e_tbl_mem (List.mem_of_getElem? (i := 269) (by decide +kernel)) rfl
theorem m_9 : Cond.initialized RX0 ∈ e_tbl := e_tbl_mem (List.mem_of_getElem? (i := 66) (by decide +kernel)) rfl
theorem m_10 : Cond.code yX0_worthOf cX0_worthOf 4 (some .int) ∈ e_tbl := e_tbl_mem (List.mem_of_getElem? (i := 267) (by decide +kernel)) rfl
theorem m_11 : Cond.selects RX0 yX0_worthOf yX0_worthOf ∈ e_tbl := e_tbl_mem (List.mem_of_getElem? (i := 266) (by decide +kernel)) rfl
theorem m_12 : Cond.methodLink RX0 29 yX0_worthOf ∈ e_tbl := e_tbl_mem (List.mem_of_getElem? (i := 280) (by decide +kernel)) rfl
theorem m_13 : Cond.instanceMethod yX0_worthOf ∈ e_tbl := e_tbl_mem (List.mem_of_getElem? (i := 265) (by decide +kernel)) rfl
theorem m_14 : Cond.constantLong RX0 33 (31) ∈ e_tbl := e_tbl_mem (List.mem_of_getElem? (i := 679) (by decide +kernel)) rfl
theorem m_15 : Cond.fieldLink RX0 15 "HardEnvoys$Envoy" "likely" "I" ∈ e_tbl := e_tbl_mem (List.mem_of_getElem? (i := 175) (by decide +kernel)) rfl
theorem m_16 : Cond.methodLink RX1 39 Lib.Math.min.name ∈ e_tbl := e_tbl_mem (by decide +kernel) rfl
theorem m_17 : Cond.static Lib.Math.min.name ∈ e_tbl := e_tbl_mem (by decide +kernel) rfl
theorem m_18 : Cond.initialized "java/lang/Math" ∈ e_tbl := e_tbl_mem (List.mem_of_getElem? (i := 71) (by decide +kernel)) rfl
theorem m_19 : Cond.code Lib.Math.min.name Lib.Math.min.code 2 (some .int) ∈ e_tbl := e_tbl_mem (by decide +kernel) rfl
theorem m_20 : Cond.fieldLink RX1 20 "HardEnvoys$Meeting" "steps" "I" ∈ e_tbl := e_tbl_mem (List.mem_of_getElem? (i := 137) (by decide +kernel)) rfl
theorem m_21 : Cond.fieldLink RX1 45 "HardEnvoys$Envoy" "numbers" "[I" ∈ e_tbl := e_tbl_mem (List.mem_of_getElem? (i := 174) (by decide +kernel)) rfl
theorem m_22 : Cond.fieldLink RX1 24 "HardEnvoys$Meeting" "firstWalk" "I" ∈ e_tbl := e_tbl_mem (List.mem_of_getElem? (i := 138) (by decide +kernel)) rfl
theorem m_23 : Cond.fieldLink RX1 27 "HardEnvoys$Meeting" "secondWalk" "I" ∈ e_tbl := e_tbl_mem (List.mem_of_getElem? (i := 139) (by decide +kernel)) rfl
theorem m_24 : Cond.fieldLink RX1 17 "HardEnvoys$Meeting" "gains" "[[I" ∈ e_tbl := e_tbl_mem (List.mem_of_getElem? (i := 135) (by decide +kernel)) rfl
theorem m_25 : Cond.code yX0_gainBy cX0_gainBy 3 (some .int) ∈ e_tbl := e_tbl_mem (List.mem_of_getElem? (i := 279) (by decide +kernel)) rfl
theorem m_26 : Cond.selects RX0 yX0_gainBy yX0_gainBy ∈ e_tbl := e_tbl_mem (List.mem_of_getElem? (i := 278) (by decide +kernel)) rfl
theorem m_27 : Cond.methodLink RX1 51 yX0_gainBy ∈ e_tbl := e_tbl_mem (List.mem_of_getElem? (i := 472) (by decide +kernel)) rfl
theorem m_28 : Cond.instanceMethod yX0_gainBy ∈ e_tbl := e_tbl_mem (List.mem_of_getElem? (i := 277) (by decide +kernel)) rfl
theorem m_29 : Cond.fieldLink RX1 9 "HardEnvoys$Meeting" "both" "[Z" ∈ e_tbl := e_tbl_mem (List.mem_of_getElem? (i := 133) (by decide +kernel)) rfl
theorem m_30 : Cond.code yX0_accepts cX0_accepts 3 (some .boolean) ∈ e_tbl := e_tbl_mem (List.mem_of_getElem? (i := 284) (by decide +kernel)) rfl
theorem m_31 : Cond.selects RX0 yX0_accepts yX0_accepts ∈ e_tbl := e_tbl_mem (List.mem_of_getElem? (i := 283) (by decide +kernel)) rfl
theorem m_32 : Cond.methodLink RX1 54 yX0_accepts ∈ e_tbl := e_tbl_mem (List.mem_of_getElem? (i := 473) (by decide +kernel)) rfl
theorem m_33 : Cond.instanceMethod yX0_accepts ∈ e_tbl := e_tbl_mem (List.mem_of_getElem? (i := 282) (by decide +kernel)) rfl
theorem m_34 : Cond.code yX1_agree cX1_agree 4 none ∈ e_tbl := e_tbl_mem (by decide +kernel) rfl
theorem m_35 : Cond.selects RX1 yX1_agree yX1_agree ∈ e_tbl := e_tbl_mem (List.mem_of_getElem? (i := 476) (by decide +kernel)) rfl
theorem m_36 : Cond.methodLink RX1 58 yX1_agree ∈ e_tbl := e_tbl_mem (List.mem_of_getElem? (i := 474) (by decide +kernel)) rfl
theorem m_37 : Cond.instanceMethod yX1_agree ∈ e_tbl := e_tbl_mem (List.mem_of_getElem? (i := 475) (by decide +kernel)) rfl
theorem m_38 : Cond.initialized RX1 ∈ e_tbl := e_tbl_mem (List.mem_of_getElem? (i := 65) (by decide +kernel)) rfl
theorem m_39 : Cond.fieldLink RX1 30 "HardEnvoys$Meeting" "share" "I" ∈ e_tbl := e_tbl_mem (List.mem_of_getElem? (i := 140) (by decide +kernel)) rfl
theorem m_40 : Cond.fieldLink RX1 33 "HardEnvoys$Meeting" "otherShare" "I" ∈ e_tbl := e_tbl_mem (List.mem_of_getElem? (i := 142) (by decide +kernel)) rfl
theorem m_41 : Cond.fieldLink RX1 36 "HardEnvoys$Meeting" "settledIn" "I" ∈ e_tbl := e_tbl_mem (List.mem_of_getElem? (i := 144) (by decide +kernel)) rfl
theorem m_42 : Cond.code yX1_byGoingOn cX1_byGoingOn 4 (some .int) ∈ e_tbl := e_tbl_mem (List.mem_of_getElem? (i := 489) (by decide +kernel)) rfl
theorem m_43 : Cond.selects RX1 yX1_byGoingOn yX1_byGoingOn ∈ e_tbl := e_tbl_mem (List.mem_of_getElem? (i := 488) (by decide +kernel)) rfl
theorem m_44 : Cond.methodLink RX1 62 yX1_byGoingOn ∈ e_tbl := e_tbl_mem (List.mem_of_getElem? (i := 486) (by decide +kernel)) rfl
theorem m_45 : Cond.instanceMethod yX1_byGoingOn ∈ e_tbl := e_tbl_mem (List.mem_of_getElem? (i := 487) (by decide +kernel)) rfl
theorem m_46 : Cond.code yX1_mostFor cX1_mostFor 7 (some .int) ∈ e_tbl := e_tbl_mem (List.mem_of_getElem? (i := 493) (by decide +kernel)) rfl
theorem m_47 : Cond.selects RX1 yX1_mostFor yX1_mostFor ∈ e_tbl := e_tbl_mem (List.mem_of_getElem? (i := 492) (by decide +kernel)) rfl
theorem m_48 : Cond.methodLink RX1 66 yX1_mostFor ∈ e_tbl := e_tbl_mem (List.mem_of_getElem? (i := 490) (by decide +kernel)) rfl
theorem m_49 : Cond.instanceMethod yX1_mostFor ∈ e_tbl := e_tbl_mem (List.mem_of_getElem? (i := 491) (by decide +kernel)) rfl
theorem m_50 : Cond.constant RX1 71 (-2147483648) ∈ e_tbl := e_tbl_mem (List.mem_of_getElem? (i := 498) (by decide +kernel)) rfl
theorem m_51 : Cond.fieldLink RX1 72 "HardEnvoys$Rule" "flaw" "I" ∈ e_tbl := e_tbl_mem (List.mem_of_getElem? (i := 95) (by decide +kernel)) rfl
theorem m_52 : Cond.code yX2_work cX2_work 11 (some .long) ∈ e_tbl := e_tbl_mem (List.mem_of_getElem? (i := 506) (by decide +kernel)) rfl
theorem m_53 : Cond.selects RX2 yX2_work yX2_work ∈ e_tbl := e_tbl_mem (List.mem_of_getElem? (i := 505) (by decide +kernel)) rfl
theorem m_54 : Cond.methodLink RX1 77 yX2_work ∈ e_tbl := e_tbl_mem (List.mem_of_getElem? (i := 503) (by decide +kernel)) rfl
theorem m_55 : Cond.instanceMethod yX2_work ∈ e_tbl := e_tbl_mem (List.mem_of_getElem? (i := 504) (by decide +kernel)) rfl
theorem m_56 : Cond.initialized RX2 ∈ e_tbl := e_tbl_mem (List.mem_of_getElem? (i := 64) (by decide +kernel)) rfl
theorem m_57 : Cond.code yX1_nearest cX1_nearest 6 (some .int) ∈ e_tbl := e_tbl_mem (List.mem_of_getElem? (i := 513) (by decide +kernel)) rfl
theorem m_58 : Cond.selects RX1 yX1_nearest yX1_nearest ∈ e_tbl := e_tbl_mem (List.mem_of_getElem? (i := 512) (by decide +kernel)) rfl
theorem m_59 : Cond.methodLink RX1 81 yX1_nearest ∈ e_tbl := e_tbl_mem (List.mem_of_getElem? (i := 510) (by decide +kernel)) rfl
theorem m_60 : Cond.instanceMethod yX1_nearest ∈ e_tbl := e_tbl_mem (List.mem_of_getElem? (i := 511) (by decide +kernel)) rfl
theorem m_61 : Cond.methodLink RX1 85 Lib.MathLoose.min_long.x ∈ e_tbl := e_tbl_mem (by decide +kernel) rfl
theorem m_62 : Cond.static Lib.MathLoose.min_long.x ∈ e_tbl := e_tbl_mem (by decide +kernel) rfl
theorem m_63 : Cond.code Lib.MathLoose.min_long.x Lib.MathLoose.min_long.code 4 (some .long) ∈ e_tbl := e_tbl_mem (by decide +kernel) rfl
theorem m_64 : Cond.methodLink RX1 88 Lib.MathLoose.max_long.x ∈ e_tbl := e_tbl_mem (by decide +kernel) rfl
theorem m_65 : Cond.static Lib.MathLoose.max_long.x ∈ e_tbl := e_tbl_mem (by decide +kernel) rfl
theorem m_66 : Cond.code Lib.MathLoose.max_long.x Lib.MathLoose.max_long.code 4 (some .long) ∈ e_tbl := e_tbl_mem (by decide +kernel) rfl
theorem m_67 : Cond.methodLink RX1 91 Lib.Math.abs.name ∈ e_tbl := e_tbl_mem (by decide +kernel) rfl
theorem m_68 : Cond.static Lib.Math.abs.name ∈ e_tbl := e_tbl_mem (by decide +kernel) rfl
theorem m_69 : Cond.code Lib.Math.abs.name Lib.Math.abs.code 1 (some .int) ∈ e_tbl := e_tbl_mem (by decide +kernel) rfl
theorem m_70 : Cond.fieldLink RX2 9 "HardEnvoys$Rule" "length" "I" ∈ e_tbl := e_tbl_mem (List.mem_of_getElem? (i := 92) (by decide +kernel)) rfl
theorem m_71 : Cond.fieldLink RX2 18 "HardEnvoys$Rule" "text" "[I" ∈ e_tbl := e_tbl_mem (List.mem_of_getElem? (i := 97) (by decide +kernel)) rfl
theorem m_72 : Cond.code yX2_compile cX2_compile 1 none ∈ e_tbl := e_tbl_mem (by decide +kernel) rfl
theorem m_73 : Cond.selects RX2 yX2_compile yX2_compile ∈ e_tbl := e_tbl_mem (by decide +kernel) rfl
theorem m_74 : Cond.methodLink RX2 41 yX2_compile ∈ e_tbl := e_tbl_mem (List.mem_of_getElem? (i := 313) (by decide +kernel)) rfl
theorem m_75 : Cond.instanceMethod yX2_compile ∈ e_tbl := e_tbl_mem (List.mem_of_getElem? (i := 315) (by decide +kernel)) rfl
theorem m_76 : Cond.constantLong RX2 44 (31) ∈ e_tbl := e_tbl_mem (List.mem_of_getElem? (i := 684) (by decide +kernel)) rfl
theorem m_77 : Cond.fieldLink RX2 35 "HardEnvoys$Rule" "size" "I" ∈ e_tbl := e_tbl_mem (List.mem_of_getElem? (i := 102) (by decide +kernel)) rfl
theorem m_78 : Cond.fieldLink RX2 38 "HardEnvoys$Rule" "place" "I" ∈ e_tbl := e_tbl_mem (List.mem_of_getElem? (i := 103) (by decide +kernel)) rfl
theorem m_79 : Cond.fieldLink RX2 15 "HardEnvoys$Rule" "flaw" "I" ∈ e_tbl := e_tbl_mem (List.mem_of_getElem? (i := 94) (by decide +kernel)) rfl
theorem m_80 : Cond.code yX2_readLevel cX2_readLevel 6 none ∈ e_tbl := e_tbl_mem (by decide +kernel) rfl
theorem m_81 : Cond.selects RX2 yX2_readLevel yX2_readLevel ∈ e_tbl := e_tbl_mem (by decide +kernel) rfl
theorem m_82 : Cond.methodLink RX2 46 yX2_readLevel ∈ e_tbl := e_tbl_mem (List.mem_of_getElem? (i := 317) (by decide +kernel)) rfl
theorem m_83 : Cond.instanceMethod yX2_readLevel ∈ e_tbl := e_tbl_mem (List.mem_of_getElem? (i := 319) (by decide +kernel)) rfl
theorem m_84 : Cond.code yX2_ahead cX2_ahead 1 (some .int) ∈ e_tbl := e_tbl_mem (List.mem_of_getElem? (i := 328) (by decide +kernel)) rfl
theorem m_85 : Cond.selects RX2 yX2_ahead yX2_ahead ∈ e_tbl := e_tbl_mem (by decide +kernel) rfl
theorem m_86 : Cond.methodLink RX2 50 yX2_ahead ∈ e_tbl := e_tbl_mem (List.mem_of_getElem? (i := 325) (by decide +kernel)) rfl
theorem m_87 : Cond.instanceMethod yX2_ahead ∈ e_tbl := e_tbl_mem (List.mem_of_getElem? (i := 327) (by decide +kernel)) rfl
theorem m_88 : Cond.code yX2_spoil cX2_spoil 3 none ∈ e_tbl := e_tbl_mem (by decide +kernel) rfl
theorem m_89 : Cond.selects RX2 yX2_spoil yX2_spoil ∈ e_tbl := e_tbl_mem (by decide +kernel) rfl
theorem m_90 : Cond.methodLink RX2 54 yX2_spoil ∈ e_tbl := e_tbl_mem (List.mem_of_getElem? (i := 340) (by decide +kernel)) rfl
theorem m_91 : Cond.instanceMethod yX2_spoil ∈ e_tbl := e_tbl_mem (List.mem_of_getElem? (i := 342) (by decide +kernel)) rfl
theorem m_92 : Cond.fieldLink RX2 22 "HardEnvoys$Rule" "codes" "[I" ∈ e_tbl := e_tbl_mem (List.mem_of_getElem? (i := 98) (by decide +kernel)) rfl
theorem m_93 : Cond.fieldLink RX2 25 "HardEnvoys$Rule" "operands" "[I" ∈ e_tbl := e_tbl_mem (List.mem_of_getElem? (i := 99) (by decide +kernel)) rfl
theorem m_94 : Cond.code yX2_readUnit cX2_readUnit 6 none ∈ e_tbl := e_tbl_mem (by decide +kernel) rfl
theorem m_95 : Cond.selects RX2 yX2_readUnit yX2_readUnit ∈ e_tbl := e_tbl_mem (by decide +kernel) rfl
theorem m_96 : Cond.methodLink RX2 57 yX2_readUnit ∈ e_tbl := e_tbl_mem (List.mem_of_getElem? (i := 321) (by decide +kernel)) rfl
theorem m_97 : Cond.instanceMethod yX2_readUnit ∈ e_tbl := e_tbl_mem (List.mem_of_getElem? (i := 323) (by decide +kernel)) rfl
theorem m_98 : Cond.code yX2_joins cX2_joins 2 (some .boolean) ∈ e_tbl := e_tbl_mem (List.mem_of_getElem? (i := 441) (by decide +kernel)) rfl
theorem m_99 : Cond.methodLink RX2 61 yX2_joins ∈ e_tbl := e_tbl_mem (List.mem_of_getElem? (i := 439) (by decide +kernel)) rfl
theorem m_100 : Cond.static yX2_joins ∈ e_tbl := e_tbl_mem (List.mem_of_getElem? (i := 440) (by decide +kernel)) rfl
theorem m_101 : Cond.code yX2_emit cX2_emit 3 none ∈ e_tbl := e_tbl_mem (by decide +kernel) rfl
theorem m_102 : Cond.selects RX2 yX2_emit yX2_emit ∈ e_tbl := e_tbl_mem (by decide +kernel) rfl
theorem m_103 : Cond.methodLink RX2 65 yX2_emit ∈ e_tbl := e_tbl_mem (List.mem_of_getElem? (i := 344) (by decide +kernel)) rfl
theorem m_104 : Cond.instanceMethod yX2_emit ∈ e_tbl := e_tbl_mem (List.mem_of_getElem? (i := 346) (by decide +kernel)) rfl
theorem m_105 : Cond.code yX2_readPlain cX2_readPlain 3 none ∈ e_tbl := e_tbl_mem (by decide +kernel) rfl
theorem m_106 : Cond.selects RX2 yX2_readPlain yX2_readPlain ∈ e_tbl := e_tbl_mem (by decide +kernel) rfl
theorem m_107 : Cond.methodLink RX2 68 yX2_readPlain ∈ e_tbl := e_tbl_mem (List.mem_of_getElem? (i := 329) (by decide +kernel)) rfl
theorem m_108 : Cond.instanceMethod yX2_readPlain ∈ e_tbl := e_tbl_mem (List.mem_of_getElem? (i := 331) (by decide +kernel)) rfl
theorem m_109 : Cond.code yX2_isDigit cX2_isDigit 1 (some .boolean) ∈ e_tbl := e_tbl_mem (List.mem_of_getElem? (i := 335) (by decide +kernel)) rfl
theorem m_110 : Cond.methodLink RX2 71 yX2_isDigit ∈ e_tbl := e_tbl_mem (List.mem_of_getElem? (i := 333) (by decide +kernel)) rfl
theorem m_111 : Cond.static yX2_isDigit ∈ e_tbl := e_tbl_mem (List.mem_of_getElem? (i := 334) (by decide +kernel)) rfl
theorem m_112 : Cond.code yX2_readNumber cX2_readNumber 3 none ∈ e_tbl := e_tbl_mem (by decide +kernel) rfl
theorem m_113 : Cond.selects RX2 yX2_readNumber yX2_readNumber ∈ e_tbl := e_tbl_mem (by decide +kernel) rfl
theorem m_114 : Cond.methodLink RX2 75 yX2_readNumber ∈ e_tbl := e_tbl_mem (List.mem_of_getElem? (i := 336) (by decide +kernel)) rfl
theorem m_115 : Cond.instanceMethod yX2_readNumber ∈ e_tbl := e_tbl_mem (List.mem_of_getElem? (i := 338) (by decide +kernel)) rfl
theorem m_116 : Cond.code yX2_readGroup cX2_readGroup 2 none ∈ e_tbl := e_tbl_mem (by decide +kernel) rfl
theorem m_117 : Cond.selects RX2 yX2_readGroup yX2_readGroup ∈ e_tbl := e_tbl_mem (by decide +kernel) rfl
theorem m_118 : Cond.methodLink RX2 78 yX2_readGroup ∈ e_tbl := e_tbl_mem (List.mem_of_getElem? (i := 348) (by decide +kernel)) rfl
theorem m_119 : Cond.instanceMethod yX2_readGroup ∈ e_tbl := e_tbl_mem (List.mem_of_getElem? (i := 350) (by decide +kernel)) rfl
theorem m_120 : Cond.code yJ0_indexOf_0f7a4 cJ0_indexOf_0f7a4 2 (some .int) ∈ e_tbl := e_tbl_mem (List.mem_of_getElem? (i := 356) (by decide +kernel)) rfl
theorem m_121 : Cond.selects RJ0 yJ0_indexOf_0f7a4 yJ0_indexOf_0f7a4 ∈ e_tbl := e_tbl_mem (List.mem_of_getElem? (i := 355) (by decide +kernel)) rfl
theorem m_122 : Cond.methodLink RX2 83 yJ0_indexOf_0f7a4 ∈ e_tbl := e_tbl_mem (List.mem_of_getElem? (i := 353) (by decide +kernel)) rfl
theorem m_123 : Cond.instanceMethod yJ0_indexOf_0f7a4 ∈ e_tbl := e_tbl_mem (List.mem_of_getElem? (i := 354) (by decide +kernel)) rfl
theorem m_124 : Cond.initialized RJ0 ∈ e_tbl := e_tbl_mem (List.mem_of_getElem? (i := 69) (by decide +kernel)) rfl
theorem m_125 : Cond.fieldLink RX2 32 "HardEnvoys$Rule" "letters" "[J" ∈ e_tbl := e_tbl_mem (List.mem_of_getElem? (i := 101) (by decide +kernel)) rfl
theorem m_126 : Cond.fieldLink RX2 28 "HardEnvoys$Rule" "stack" "[J" ∈ e_tbl := e_tbl_mem (List.mem_of_getElem? (i := 100) (by decide +kernel)) rfl
theorem m_127 : Cond.code yX2_join cX2_join 5 (some .long) ∈ e_tbl := e_tbl_mem (List.mem_of_getElem? (i := 509) (by decide +kernel)) rfl
theorem m_128 : Cond.methodLink RX2 89 yX2_join ∈ e_tbl := e_tbl_mem (List.mem_of_getElem? (i := 507) (by decide +kernel)) rfl
theorem m_129 : Cond.static yX2_join ∈ e_tbl := e_tbl_mem (List.mem_of_getElem? (i := 508) (by decide +kernel)) rfl
theorem m_130 : Cond.fieldLink RX3 43 "HardEnvoys" "wood" "I" ∈ e_tbl := e_tbl_mem (List.mem_of_getElem? (i := 188) (by decide +kernel)) rfl
theorem m_131 : Cond.code yX3_isSide cX3_isSide 1 (some .boolean) ∈ e_tbl := e_tbl_mem (List.mem_of_getElem? (i := 235) (by decide +kernel)) rfl
theorem m_132 : Cond.methodLink RX3 73 yX3_isSide ∈ e_tbl := e_tbl_mem (List.mem_of_getElem? (i := 233) (by decide +kernel)) rfl
theorem m_133 : Cond.static yX3_isSide ∈ e_tbl := e_tbl_mem (List.mem_of_getElem? (i := 234) (by decide +kernel)) rfl
theorem m_134 : Cond.initialized RX3 ∈ e_tbl := e_tbl_mem (List.mem_of_getElem? (i := 63) (by decide +kernel)) rfl
theorem m_135 : Cond.fieldLink RX3 7 "HardEnvoys" "counts" "[I" ∈ e_tbl := e_tbl_mem (List.mem_of_getElem? (i := 182) (by decide +kernel)) rfl
theorem m_136 : Cond.code yX3_envoyAt cX3_envoyAt 3 (some (.object "HardEnvoys$Envoy")) ∈ e_tbl := e_tbl_mem (List.mem_of_getElem? (i := 239) (by decide +kernel)) rfl
theorem m_137 : Cond.selects RX3 yX3_envoyAt yX3_envoyAt ∈ e_tbl := e_tbl_mem (by decide +kernel) rfl
theorem m_138 : Cond.methodLink RX3 77 yX3_envoyAt ∈ e_tbl := e_tbl_mem (List.mem_of_getElem? (i := 236) (by decide +kernel)) rfl
theorem m_139 : Cond.instanceMethod yX3_envoyAt ∈ e_tbl := e_tbl_mem (List.mem_of_getElem? (i := 238) (by decide +kernel)) rfl
theorem m_140 : Cond.code yX0_becomeLike cX0_becomeLike 2 none ∈ e_tbl := e_tbl_mem (by decide +kernel) rfl
theorem m_141 : Cond.selects RX0 yX0_becomeLike yX0_becomeLike ∈ e_tbl := e_tbl_mem (List.mem_of_getElem? (i := 242) (by decide +kernel)) rfl
theorem m_142 : Cond.methodLink RX3 81 yX0_becomeLike ∈ e_tbl := e_tbl_mem (List.mem_of_getElem? (i := 240) (by decide +kernel)) rfl
theorem m_143 : Cond.instanceMethod yX0_becomeLike ∈ e_tbl := e_tbl_mem (List.mem_of_getElem? (i := 241) (by decide +kernel)) rfl
theorem m_144 : Cond.code yX3_isEnvoy cX3_isEnvoy 3 (some .boolean) ∈ e_tbl := e_tbl_mem (List.mem_of_getElem? (i := 254) (by decide +kernel)) rfl
theorem m_145 : Cond.selects RX3 yX3_isEnvoy yX3_isEnvoy ∈ e_tbl := e_tbl_mem (by decide +kernel) rfl
theorem m_146 : Cond.methodLink RX3 85 yX3_isEnvoy ∈ e_tbl := e_tbl_mem (List.mem_of_getElem? (i := 251) (by decide +kernel)) rfl
theorem m_147 : Cond.instanceMethod yX3_isEnvoy ∈ e_tbl := e_tbl_mem (List.mem_of_getElem? (i := 253) (by decide +kernel)) rfl
theorem m_148 : Cond.fieldLink RX3 89 "HardEnvoys" "LEAST" "[I" ∈ e_tbl := e_tbl_mem (List.mem_of_getElem? (i := 255) (by decide +kernel)) rfl
theorem m_149 : Cond.fieldLink RX3 92 "HardEnvoys" "MOST" "[I" ∈ e_tbl := e_tbl_mem (List.mem_of_getElem? (i := 257) (by decide +kernel)) rfl
theorem m_150 : Cond.fieldLink RX3 70 "HardEnvoys$Envoy" "numbers" "[I" ∈ e_tbl := e_tbl_mem (List.mem_of_getElem? (i := 173) (by decide +kernel)) rfl
theorem m_151 : Cond.constant RX3 95 (-100000) ∈ e_tbl := e_tbl_mem (List.mem_of_getElem? (i := 263) (by decide +kernel)) rfl
theorem m_152 : Cond.methodLink RX3 96 yX0_worthOf ∈ e_tbl := e_tbl_mem (List.mem_of_getElem? (i := 264) (by decide +kernel)) rfl
theorem m_153 : Cond.methodLink RX3 100 yX0_gainBy ∈ e_tbl := e_tbl_mem (List.mem_of_getElem? (i := 276) (by decide +kernel)) rfl
theorem m_154 : Cond.methodLink RX3 103 yX0_accepts ∈ e_tbl := e_tbl_mem (List.mem_of_getElem? (i := 281) (by decide +kernel)) rfl
theorem m_155 : Cond.code yX3_changeWay cX3_changeWay 3 (some .int) ∈ e_tbl := e_tbl_mem (List.mem_of_getElem? (i := 292) (by decide +kernel)) rfl
theorem m_156 : Cond.selects RX3 yX3_changeWay yX3_changeWay ∈ e_tbl := e_tbl_mem (by decide +kernel) rfl
theorem m_157 : Cond.methodLink RX3 106 yX3_changeWay ∈ e_tbl := e_tbl_mem (List.mem_of_getElem? (i := 289) (by decide +kernel)) rfl
theorem m_158 : Cond.instanceMethod yX3_changeWay ∈ e_tbl := e_tbl_mem (List.mem_of_getElem? (i := 291) (by decide +kernel)) rfl
theorem m_159 : Cond.code yX3_changeRounds cX3_changeRounds 3 (some .int) ∈ e_tbl := e_tbl_mem (List.mem_of_getElem? (i := 296) (by decide +kernel)) rfl
theorem m_160 : Cond.selects RX3 yX3_changeRounds yX3_changeRounds ∈ e_tbl := e_tbl_mem (by decide +kernel) rfl
theorem m_161 : Cond.methodLink RX3 110 yX3_changeRounds ∈ e_tbl := e_tbl_mem (List.mem_of_getElem? (i := 293) (by decide +kernel)) rfl
theorem m_162 : Cond.instanceMethod yX3_changeRounds ∈ e_tbl := e_tbl_mem (List.mem_of_getElem? (i := 295) (by decide +kernel)) rfl
theorem m_163 : Cond.code yX3_changeDelay cX3_changeDelay 3 (some .int) ∈ e_tbl := e_tbl_mem (List.mem_of_getElem? (i := 300) (by decide +kernel)) rfl
theorem m_164 : Cond.selects RX3 yX3_changeDelay yX3_changeDelay ∈ e_tbl := e_tbl_mem (by decide +kernel) rfl
theorem m_165 : Cond.methodLink RX3 113 yX3_changeDelay ∈ e_tbl := e_tbl_mem (List.mem_of_getElem? (i := 297) (by decide +kernel)) rfl
theorem m_166 : Cond.instanceMethod yX3_changeDelay ∈ e_tbl := e_tbl_mem (List.mem_of_getElem? (i := 299) (by decide +kernel)) rfl
theorem m_167 : Cond.fieldLink RX3 56 "HardEnvoys" "oddsAbove" "I" ∈ e_tbl := e_tbl_mem (List.mem_of_getElem? (i := 192) (by decide +kernel)) rfl
theorem m_168 : Cond.fieldLink RX3 59 "HardEnvoys" "oddsBelow" "I" ∈ e_tbl := e_tbl_mem (List.mem_of_getElem? (i := 193) (by decide +kernel)) rfl
theorem m_169 : Cond.fieldLink RX3 22 "HardEnvoys" "rule" "LHardEnvoys$Rule;" ∈ e_tbl := e_tbl_mem (List.mem_of_getElem? (i := 184) (by decide +kernel)) rfl
theorem m_170 : Cond.fieldLink RX3 116 "HardEnvoys$Rule" "length" "I" ∈ e_tbl := e_tbl_mem (List.mem_of_getElem? (i := 93) (by decide +kernel)) rfl
theorem m_171 : Cond.code yX2_append cX2_append 2 none ∈ e_tbl := e_tbl_mem (by decide +kernel) rfl
theorem m_172 : Cond.selects RX2 yX2_append yX2_append ∈ e_tbl := e_tbl_mem (List.mem_of_getElem? (i := 311) (by decide +kernel)) rfl
theorem m_173 : Cond.methodLink RX3 119 yX2_append ∈ e_tbl := e_tbl_mem (List.mem_of_getElem? (i := 309) (by decide +kernel)) rfl
theorem m_174 : Cond.instanceMethod yX2_append ∈ e_tbl := e_tbl_mem (List.mem_of_getElem? (i := 310) (by decide +kernel)) rfl
theorem m_175 : Cond.code yX2_clear cX2_clear 1 none ∈ e_tbl := e_tbl_mem (by decide +kernel) rfl
theorem m_176 : Cond.selects RX2 yX2_clear yX2_clear ∈ e_tbl := e_tbl_mem (List.mem_of_getElem? (i := 449) (by decide +kernel)) rfl
theorem m_177 : Cond.methodLink RX3 123 yX2_clear ∈ e_tbl := e_tbl_mem (List.mem_of_getElem? (i := 447) (by decide +kernel)) rfl
theorem m_178 : Cond.instanceMethod yX2_clear ∈ e_tbl := e_tbl_mem (List.mem_of_getElem? (i := 448) (by decide +kernel)) rfl
theorem m_179 : Cond.fieldLink RX3 126 "HardEnvoys$Rule" "flaw" "I" ∈ e_tbl := e_tbl_mem (List.mem_of_getElem? (i := 96) (by decide +kernel)) rfl
theorem m_180 : Cond.code yX3_isPair cX3_isPair 3 (some .boolean) ∈ e_tbl := e_tbl_mem (List.mem_of_getElem? (i := 462) (by decide +kernel)) rfl
theorem m_181 : Cond.selects RX3 yX3_isPair yX3_isPair ∈ e_tbl := e_tbl_mem (by decide +kernel) rfl
theorem m_182 : Cond.methodLink RX3 129 yX3_isPair ∈ e_tbl := e_tbl_mem (List.mem_of_getElem? (i := 459) (by decide +kernel)) rfl
theorem m_183 : Cond.instanceMethod yX3_isPair ∈ e_tbl := e_tbl_mem (List.mem_of_getElem? (i := 461) (by decide +kernel)) rfl
theorem m_184 : Cond.code yX3_meet cX3_meet 3 (some .int) ∈ e_tbl := e_tbl_mem (List.mem_of_getElem? (i := 466) (by decide +kernel)) rfl
theorem m_185 : Cond.selects RX3 yX3_meet yX3_meet ∈ e_tbl := e_tbl_mem (by decide +kernel) rfl
theorem m_186 : Cond.methodLink RX3 132 yX3_meet ∈ e_tbl := e_tbl_mem (List.mem_of_getElem? (i := 463) (by decide +kernel)) rfl
theorem m_187 : Cond.instanceMethod yX3_meet ∈ e_tbl := e_tbl_mem (List.mem_of_getElem? (i := 465) (by decide +kernel)) rfl
theorem m_188 : Cond.fieldLink RX3 29 "HardEnvoys" "meeting" "LHardEnvoys$Meeting;" ∈ e_tbl := e_tbl_mem (List.mem_of_getElem? (i := 185) (by decide +kernel)) rfl
theorem m_189 : Cond.fieldLink RX3 135 "HardEnvoys$Meeting" "settledIn" "I" ∈ e_tbl := e_tbl_mem (List.mem_of_getElem? (i := 145) (by decide +kernel)) rfl
theorem m_190 : Cond.code yX3_holdsNow cX3_holdsNow 3 (some .long) ∈ e_tbl := e_tbl_mem (List.mem_of_getElem? (i := 541) (by decide +kernel)) rfl
theorem m_191 : Cond.selects RX3 yX3_holdsNow yX3_holdsNow ∈ e_tbl := e_tbl_mem (by decide +kernel) rfl
theorem m_192 : Cond.methodLink RX3 138 yX3_holdsNow ∈ e_tbl := e_tbl_mem (List.mem_of_getElem? (i := 538) (by decide +kernel)) rfl
theorem m_193 : Cond.instanceMethod yX3_holdsNow ∈ e_tbl := e_tbl_mem (List.mem_of_getElem? (i := 540) (by decide +kernel)) rfl
theorem m_194 : Cond.code yX3_scale cX3_scale 1 (some .int) ∈ e_tbl := e_tbl_mem (List.mem_of_getElem? (i := 549) (by decide +kernel)) rfl
theorem m_195 : Cond.selects RX3 yX3_scale yX3_scale ∈ e_tbl := e_tbl_mem (by decide +kernel) rfl
theorem m_196 : Cond.methodLink RX3 142 yX3_scale ∈ e_tbl := e_tbl_mem (List.mem_of_getElem? (i := 546) (by decide +kernel)) rfl
theorem m_197 : Cond.instanceMethod yX3_scale ∈ e_tbl := e_tbl_mem (List.mem_of_getElem? (i := 548) (by decide +kernel)) rfl
theorem m_198 : Cond.code yX3_tellFraction cX3_tellFraction 7 none ∈ e_tbl := e_tbl_mem (by decide +kernel) rfl
theorem m_199 : Cond.selects RX3 yX3_tellFraction yX3_tellFraction ∈ e_tbl := e_tbl_mem (by decide +kernel) rfl
theorem m_200 : Cond.methodLink RX3 146 yX3_tellFraction ∈ e_tbl := e_tbl_mem (List.mem_of_getElem? (i := 559) (by decide +kernel)) rfl
theorem m_201 : Cond.instanceMethod yX3_tellFraction ∈ e_tbl := e_tbl_mem (List.mem_of_getElem? (i := 561) (by decide +kernel)) rfl
theorem m_202 : Cond.code yX3_holdsAgainst cX3_holdsAgainst 4 (some .long) ∈ e_tbl := e_tbl_mem (List.mem_of_getElem? (i := 576) (by decide +kernel)) rfl
theorem m_203 : Cond.selects RX3 yX3_holdsAgainst yX3_holdsAgainst ∈ e_tbl := e_tbl_mem (by decide +kernel) rfl
theorem m_204 : Cond.methodLink RX3 150 yX3_holdsAgainst ∈ e_tbl := e_tbl_mem (List.mem_of_getElem? (i := 573) (by decide +kernel)) rfl
theorem m_205 : Cond.instanceMethod yX3_holdsAgainst ∈ e_tbl := e_tbl_mem (List.mem_of_getElem? (i := 575) (by decide +kernel)) rfl
theorem m_206 : Cond.code yX3_settleAll cX3_settleAll 3 none ∈ e_tbl := e_tbl_mem (by decide +kernel) rfl
theorem m_207 : Cond.selects RX3 yX3_settleAll yX3_settleAll ∈ e_tbl := e_tbl_mem (by decide +kernel) rfl
theorem m_208 : Cond.methodLink RX3 154 yX3_settleAll ∈ e_tbl := e_tbl_mem (List.mem_of_getElem? (i := 581) (by decide +kernel)) rfl
theorem m_209 : Cond.instanceMethod yX3_settleAll ∈ e_tbl := e_tbl_mem (List.mem_of_getElem? (i := 583) (by decide +kernel)) rfl
theorem m_210 : Cond.code yX3_holdAll cX3_holdAll 4 none ∈ e_tbl := e_tbl_mem (by decide +kernel) rfl
theorem m_211 : Cond.selects RX3 yX3_holdAll yX3_holdAll ∈ e_tbl := e_tbl_mem (by decide +kernel) rfl
theorem m_212 : Cond.methodLink RX3 157 yX3_holdAll ∈ e_tbl := e_tbl_mem (List.mem_of_getElem? (i := 585) (by decide +kernel)) rfl
theorem m_213 : Cond.instanceMethod yX3_holdAll ∈ e_tbl := e_tbl_mem (List.mem_of_getElem? (i := 587) (by decide +kernel)) rfl
theorem m_214 : Cond.code yX3_restAt cX3_restAt 5 (some .int) ∈ e_tbl := e_tbl_mem (List.mem_of_getElem? (i := 592) (by decide +kernel)) rfl
theorem m_215 : Cond.selects RX3 yX3_restAt yX3_restAt ∈ e_tbl := e_tbl_mem (by decide +kernel) rfl
theorem m_216 : Cond.methodLink RX3 160 yX3_restAt ∈ e_tbl := e_tbl_mem (List.mem_of_getElem? (i := 589) (by decide +kernel)) rfl
theorem m_217 : Cond.instanceMethod yX3_restAt ∈ e_tbl := e_tbl_mem (List.mem_of_getElem? (i := 591) (by decide +kernel)) rfl
theorem m_218 : Cond.code yX3_isLosingRest cX3_isLosingRest 3 (some .boolean) ∈ e_tbl := e_tbl_mem (List.mem_of_getElem? (i := 604) (by decide +kernel)) rfl
theorem m_219 : Cond.selects RX3 yX3_isLosingRest yX3_isLosingRest ∈ e_tbl := e_tbl_mem (by decide +kernel) rfl
theorem m_220 : Cond.methodLink RX3 163 yX3_isLosingRest ∈ e_tbl := e_tbl_mem (List.mem_of_getElem? (i := 601) (by decide +kernel)) rfl
theorem m_221 : Cond.instanceMethod yX3_isLosingRest ∈ e_tbl := e_tbl_mem (List.mem_of_getElem? (i := 603) (by decide +kernel)) rfl
theorem m_222 : Cond.fieldLink RX3 35 "HardEnvoys" "shares" "[[I" ∈ e_tbl := e_tbl_mem (List.mem_of_getElem? (i := 186) (by decide +kernel)) rfl
theorem m_223 : Cond.code yX3_cell cX3_cell 2 (some .int) ∈ e_tbl := e_tbl_mem (List.mem_of_getElem? (i := 529) (by decide +kernel)) rfl
theorem m_224 : Cond.methodLink RX3 166 yX3_cell ∈ e_tbl := e_tbl_mem (List.mem_of_getElem? (i := 527) (by decide +kernel)) rfl
theorem m_225 : Cond.static yX3_cell ∈ e_tbl := e_tbl_mem (List.mem_of_getElem? (i := 528) (by decide +kernel)) rfl
theorem m_226 : Cond.fieldLink RX3 169 "HardEnvoys$Envoy" "likely" "I" ∈ e_tbl := e_tbl_mem (List.mem_of_getElem? (i := 176) (by decide +kernel)) rfl
theorem m_227 : Cond.code yX3_sumOfWeights cX3_sumOfWeights 4 (some .int) ∈ e_tbl := e_tbl_mem (List.mem_of_getElem? (i := 616) (by decide +kernel)) rfl
theorem m_228 : Cond.selects RX3 yX3_sumOfWeights yX3_sumOfWeights ∈ e_tbl := e_tbl_mem (by decide +kernel) rfl
theorem m_229 : Cond.methodLink RX3 172 yX3_sumOfWeights ∈ e_tbl := e_tbl_mem (List.mem_of_getElem? (i := 613) (by decide +kernel)) rfl
theorem m_230 : Cond.instanceMethod yX3_sumOfWeights ∈ e_tbl := e_tbl_mem (List.mem_of_getElem? (i := 615) (by decide +kernel)) rfl
theorem m_231 : Cond.code yX3_weighed cX3_weighed 7 (some .long) ∈ e_tbl := e_tbl_mem (List.mem_of_getElem? (i := 620) (by decide +kernel)) rfl
theorem m_232 : Cond.selects RX3 yX3_weighed yX3_weighed ∈ e_tbl := e_tbl_mem (by decide +kernel) rfl
theorem m_233 : Cond.methodLink RX3 175 yX3_weighed ∈ e_tbl := e_tbl_mem (List.mem_of_getElem? (i := 617) (by decide +kernel)) rfl
theorem m_234 : Cond.instanceMethod yX3_weighed ∈ e_tbl := e_tbl_mem (List.mem_of_getElem? (i := 619) (by decide +kernel)) rfl
theorem m_235 : Cond.code yJ6_bitCount_0f7a4 cJ6_bitCount_0f7a4 1 (some .int) ∈ e_tbl := e_tbl_mem (List.mem_of_getElem? (i := 635) (by decide +kernel)) rfl
theorem m_236 : Cond.methodLink RX3 178 yJ6_bitCount_0f7a4 ∈ e_tbl := e_tbl_mem (List.mem_of_getElem? (i := 633) (by decide +kernel)) rfl
theorem m_237 : Cond.static yJ6_bitCount_0f7a4 ∈ e_tbl := e_tbl_mem (List.mem_of_getElem? (i := 634) (by decide +kernel)) rfl
theorem m_238 : Cond.initialized RJ6 ∈ e_tbl := e_tbl_mem (List.mem_of_getElem? (i := 75) (by decide +kernel)) rfl
theorem m_239 : Cond.code yX1_seat cX1_seat 5 none ∈ e_tbl := e_tbl_mem (by decide +kernel) rfl
theorem m_240 : Cond.selects RX1 yX1_seat yX1_seat ∈ e_tbl := e_tbl_mem (List.mem_of_getElem? (i := 469) (by decide +kernel)) rfl
theorem m_241 : Cond.methodLink RX3 183 yX1_seat ∈ e_tbl := e_tbl_mem (List.mem_of_getElem? (i := 467) (by decide +kernel)) rfl
theorem m_242 : Cond.instanceMethod yX1_seat ∈ e_tbl := e_tbl_mem (List.mem_of_getElem? (i := 468) (by decide +kernel)) rfl
theorem m_243 : Cond.fieldLink RX3 187 "HardEnvoys$Meeting" "gains" "[[I" ∈ e_tbl := e_tbl_mem (List.mem_of_getElem? (i := 136) (by decide +kernel)) rfl
theorem m_244 : Cond.fieldLink RX3 190 "HardEnvoys$Meeting" "both" "[Z" ∈ e_tbl := e_tbl_mem (List.mem_of_getElem? (i := 134) (by decide +kernel)) rfl
theorem m_245 : Cond.code yX3_votesFor cX3_votesFor 6 (some .int) ∈ e_tbl := e_tbl_mem (List.mem_of_getElem? (i := 642) (by decide +kernel)) rfl
theorem m_246 : Cond.selects RX3 yX3_votesFor yX3_votesFor ∈ e_tbl := e_tbl_mem (by decide +kernel) rfl
theorem m_247 : Cond.methodLink RX3 194 yX3_votesFor ∈ e_tbl := e_tbl_mem (List.mem_of_getElem? (i := 639) (by decide +kernel)) rfl
theorem m_248 : Cond.instanceMethod yX3_votesFor ∈ e_tbl := e_tbl_mem (List.mem_of_getElem? (i := 641) (by decide +kernel)) rfl
theorem m_249 : Cond.code yX3_conclude cX3_conclude 1 (some .int) ∈ e_tbl := e_tbl_mem (List.mem_of_getElem? (i := 481) (by decide +kernel)) rfl
theorem m_250 : Cond.selects RX3 yX3_conclude yX3_conclude ∈ e_tbl := e_tbl_mem (by decide +kernel) rfl
theorem m_251 : Cond.methodLink RX3 197 yX3_conclude ∈ e_tbl := e_tbl_mem (List.mem_of_getElem? (i := 478) (by decide +kernel)) rfl
theorem m_252 : Cond.instanceMethod yX3_conclude ∈ e_tbl := e_tbl_mem (List.mem_of_getElem? (i := 480) (by decide +kernel)) rfl
theorem m_253 : Cond.fieldLink RX3 47 "HardEnvoys" "way" "I" ∈ e_tbl := e_tbl_mem (List.mem_of_getElem? (i := 189) (by decide +kernel)) rfl
theorem m_254 : Cond.code yX3_holdsUnsettled cX3_holdsUnsettled 3 (some .int) ∈ e_tbl := e_tbl_mem (List.mem_of_getElem? (i := 553) (by decide +kernel)) rfl
theorem m_255 : Cond.selects RX3 yX3_holdsUnsettled yX3_holdsUnsettled ∈ e_tbl := e_tbl_mem (by decide +kernel) rfl
theorem m_256 : Cond.methodLink RX3 200 yX3_holdsUnsettled ∈ e_tbl := e_tbl_mem (List.mem_of_getElem? (i := 550) (by decide +kernel)) rfl
theorem m_257 : Cond.instanceMethod yX3_holdsUnsettled ∈ e_tbl := e_tbl_mem (List.mem_of_getElem? (i := 552) (by decide +kernel)) rfl
theorem m_258 : Cond.fieldLink RX3 204 "HardEnvoys$Meeting" "share" "I" ∈ e_tbl := e_tbl_mem (List.mem_of_getElem? (i := 141) (by decide +kernel)) rfl
theorem m_259 : Cond.code yX3_holdsBy cX3_holdsBy 5 (some .int) ∈ e_tbl := e_tbl_mem (List.mem_of_getElem? (i := 557) (by decide +kernel)) rfl
theorem m_260 : Cond.selects RX3 yX3_holdsBy yX3_holdsBy ∈ e_tbl := e_tbl_mem (by decide +kernel) rfl
theorem m_261 : Cond.methodLink RX3 207 yX3_holdsBy ∈ e_tbl := e_tbl_mem (List.mem_of_getElem? (i := 554) (by decide +kernel)) rfl
theorem m_262 : Cond.instanceMethod yX3_holdsBy ∈ e_tbl := e_tbl_mem (List.mem_of_getElem? (i := 556) (by decide +kernel)) rfl
theorem m_263 : Cond.methodLink RX3 211 Lib.Math.max.name ∈ e_tbl := e_tbl_mem (by decide +kernel) rfl
theorem m_264 : Cond.static Lib.Math.max.name ∈ e_tbl := e_tbl_mem (by decide +kernel) rfl
theorem m_265 : Cond.code Lib.Math.max.name Lib.Math.max.code 2 (some .int) ∈ e_tbl := e_tbl_mem (by decide +kernel) rfl
theorem m_266 : Cond.code yX3_settleItself cX3_settleItself 3 none ∈ e_tbl := e_tbl_mem (by decide +kernel) rfl
theorem m_267 : Cond.selects RX3 yX3_settleItself yX3_settleItself ∈ e_tbl := e_tbl_mem (by decide +kernel) rfl
theorem m_268 : Cond.methodLink RX3 216 yX3_settleItself ∈ e_tbl := e_tbl_mem (List.mem_of_getElem? (i := 656) (by decide +kernel)) rfl
theorem m_269 : Cond.instanceMethod yX3_settleItself ∈ e_tbl := e_tbl_mem (List.mem_of_getElem? (i := 658) (by decide +kernel)) rfl
theorem m_270 : Cond.constantLong RX3 219 (-1000000) ∈ e_tbl := e_tbl_mem (List.mem_of_getElem? (i := 664) (by decide +kernel)) rfl
theorem m_271 : Cond.fieldLink RX3 62 "HardEnvoys" "above" "J" ∈ e_tbl := e_tbl_mem (List.mem_of_getElem? (i := 194) (by decide +kernel)) rfl
theorem m_272 : Cond.fieldLink RX3 66 "HardEnvoys" "below" "J" ∈ e_tbl := e_tbl_mem (List.mem_of_getElem? (i := 195) (by decide +kernel)) rfl
theorem m_273 : Cond.constantLong RX3 221 (463) ∈ e_tbl := e_tbl_mem (List.mem_of_getElem? (i := 673) (by decide +kernel)) rfl
theorem m_274 : Cond.constantLong RX3 223 (31) ∈ e_tbl := e_tbl_mem (List.mem_of_getElem? (i := 674) (by decide +kernel)) rfl
theorem m_275 : Cond.code yX0_mixInto cX0_mixInto 6 (some .long) ∈ e_tbl := e_tbl_mem (List.mem_of_getElem? (i := 678) (by decide +kernel)) rfl
theorem m_276 : Cond.selects RX0 yX0_mixInto yX0_mixInto ∈ e_tbl := e_tbl_mem (List.mem_of_getElem? (i := 677) (by decide +kernel)) rfl
theorem m_277 : Cond.methodLink RX3 225 yX0_mixInto ∈ e_tbl := e_tbl_mem (List.mem_of_getElem? (i := 675) (by decide +kernel)) rfl
theorem m_278 : Cond.instanceMethod yX0_mixInto ∈ e_tbl := e_tbl_mem (List.mem_of_getElem? (i := 676) (by decide +kernel)) rfl
theorem m_279 : Cond.fieldLink RX3 50 "HardEnvoys" "rounds" "I" ∈ e_tbl := e_tbl_mem (List.mem_of_getElem? (i := 190) (by decide +kernel)) rfl
theorem m_280 : Cond.fieldLink RX3 53 "HardEnvoys" "delay" "I" ∈ e_tbl := e_tbl_mem (List.mem_of_getElem? (i := 191) (by decide +kernel)) rfl
theorem m_281 : Cond.code yX2_mixInto cX2_mixInto 6 (some .long) ∈ e_tbl := e_tbl_mem (List.mem_of_getElem? (i := 683) (by decide +kernel)) rfl
theorem m_282 : Cond.selects RX2 yX2_mixInto yX2_mixInto ∈ e_tbl := e_tbl_mem (List.mem_of_getElem? (i := 682) (by decide +kernel)) rfl
theorem m_283 : Cond.methodLink RX3 229 yX2_mixInto ∈ e_tbl := e_tbl_mem (List.mem_of_getElem? (i := 680) (by decide +kernel)) rfl
theorem m_284 : Cond.instanceMethod yX2_mixInto ∈ e_tbl := e_tbl_mem (List.mem_of_getElem? (i := 681) (by decide +kernel)) rfl
theorem m_285 : Cond.fieldLink RX3 15 "HardEnvoys" "envoys" "[LHardEnvoys$Envoy;" ∈ e_tbl := e_tbl_mem (List.mem_of_getElem? (i := 183) (by decide +kernel)) rfl
theorem m_286 : Cond.fieldLink RX3 230 "HardEnvoys$Meeting" "otherShare" "I" ∈ e_tbl := e_tbl_mem (List.mem_of_getElem? (i := 143) (by decide +kernel)) rfl
theorem m_287 : Cond.code yX1_offerInTurns cX1_offerInTurns 6 none ∈ e_tbl := e_tbl_mem (by decide +kernel) rfl
theorem m_288 : Cond.selects RX1 yX1_offerInTurns yX1_offerInTurns ∈ e_tbl := e_tbl_mem (List.mem_of_getElem? (i := 484) (by decide +kernel)) rfl
theorem m_289 : Cond.methodLink RX3 233 yX1_offerInTurns ∈ e_tbl := e_tbl_mem (List.mem_of_getElem? (i := 482) (by decide +kernel)) rfl
theorem m_290 : Cond.instanceMethod yX1_offerInTurns ∈ e_tbl := e_tbl_mem (List.mem_of_getElem? (i := 483) (by decide +kernel)) rfl
theorem m_291 : Cond.code yX1_drawLots cX1_drawLots 1 none ∈ e_tbl := e_tbl_mem (by decide +kernel) rfl
theorem m_292 : Cond.selects RX1 yX1_drawLots yX1_drawLots ∈ e_tbl := e_tbl_mem (List.mem_of_getElem? (i := 496) (by decide +kernel)) rfl
theorem m_293 : Cond.methodLink RX3 237 yX1_drawLots ∈ e_tbl := e_tbl_mem (List.mem_of_getElem? (i := 494) (by decide +kernel)) rfl
theorem m_294 : Cond.instanceMethod yX1_drawLots ∈ e_tbl := e_tbl_mem (List.mem_of_getElem? (i := 495) (by decide +kernel)) rfl
theorem m_295 : Cond.code yX1_follow cX1_follow 5 none ∈ e_tbl := e_tbl_mem (by decide +kernel) rfl
theorem m_296 : Cond.selects RX1 yX1_follow yX1_follow ∈ e_tbl := e_tbl_mem (List.mem_of_getElem? (i := 501) (by decide +kernel)) rfl
theorem m_297 : Cond.methodLink RX3 240 yX1_follow ∈ e_tbl := e_tbl_mem (List.mem_of_getElem? (i := 499) (by decide +kernel)) rfl
theorem m_298 : Cond.instanceMethod yX1_follow ∈ e_tbl := e_tbl_mem (List.mem_of_getElem? (i := 500) (by decide +kernel)) rfl
theorem m_299 : Cond.code yX1_multiplyGains cX1_multiplyGains 7 none ∈ e_tbl := e_tbl_mem (by decide +kernel) rfl
theorem m_300 : Cond.selects RX1 yX1_multiplyGains yX1_multiplyGains ∈ e_tbl := e_tbl_mem (List.mem_of_getElem? (i := 525) (by decide +kernel)) rfl
theorem m_301 : Cond.methodLink RX3 244 yX1_multiplyGains ∈ e_tbl := e_tbl_mem (List.mem_of_getElem? (i := 523) (by decide +kernel)) rfl
theorem m_302 : Cond.instanceMethod yX1_multiplyGains ∈ e_tbl := e_tbl_mem (List.mem_of_getElem? (i := 524) (by decide +kernel)) rfl
theorem m_303 : Cond.methodLink RX3 247 yX0_wagesFor ∈ e_tbl := e_tbl_mem (List.mem_of_getElem? (i := 558) (by decide +kernel)) rfl
theorem m_304 : Cond.code yX3_holds cX3_holds 7 (some .long) ∈ e_tbl := e_tbl_mem (List.mem_of_getElem? (i := 545) (by decide +kernel)) rfl
theorem m_305 : Cond.selects RX3 yX3_holds yX3_holds ∈ e_tbl := e_tbl_mem (by decide +kernel) rfl
theorem m_306 : Cond.methodLink RX3 250 yX3_holds ∈ e_tbl := e_tbl_mem (List.mem_of_getElem? (i := 542) (by decide +kernel)) rfl
theorem m_307 : Cond.instanceMethod yX3_holds ∈ e_tbl := e_tbl_mem (List.mem_of_getElem? (i := 544) (by decide +kernel)) rfl
theorem m_308 : Cond.fieldLink RX3 40 "HardEnvoys" "held" "[[J" ∈ e_tbl := e_tbl_mem (List.mem_of_getElem? (i := 187) (by decide +kernel)) rfl
theorem m_309 : Cond.code yX3_isRest cX3_isRest 4 (some .boolean) ∈ e_tbl := e_tbl_mem (List.mem_of_getElem? (i := 596) (by decide +kernel)) rfl
theorem m_310 : Cond.selects RX3 yX3_isRest yX3_isRest ∈ e_tbl := e_tbl_mem (by decide +kernel) rfl
theorem m_311 : Cond.methodLink RX3 254 yX3_isRest ∈ e_tbl := e_tbl_mem (List.mem_of_getElem? (i := 593) (by decide +kernel)) rfl
theorem m_312 : Cond.instanceMethod yX3_isRest ∈ e_tbl := e_tbl_mem (List.mem_of_getElem? (i := 595) (by decide +kernel)) rfl
theorem m_313 : Cond.methodLink RX3 257 Lib.MathLoose.abs_long.x ∈ e_tbl := e_tbl_mem (by decide +kernel) rfl
theorem m_314 : Cond.static Lib.MathLoose.abs_long.x ∈ e_tbl := e_tbl_mem (by decide +kernel) rfl
theorem m_315 : Cond.code Lib.MathLoose.abs_long.x Lib.MathLoose.abs_long.code 2 (some .long) ∈ e_tbl := e_tbl_mem (by decide +kernel) rfl
theorem m_316 : Cond.code yX3_greatestDivisor cX3_greatestDivisor 11 (some .long) ∈ e_tbl := e_tbl_mem (List.mem_of_getElem? (i := 568) (by decide +kernel)) rfl
theorem m_317 : Cond.methodLink RX3 260 yX3_greatestDivisor ∈ e_tbl := e_tbl_mem (List.mem_of_getElem? (i := 566) (by decide +kernel)) rfl
theorem m_318 : Cond.static yX3_greatestDivisor ∈ e_tbl := e_tbl_mem (List.mem_of_getElem? (i := 567) (by decide +kernel)) rfl
theorem m_319 : Cond.code yX4_in cX4_in 6 (some .boolean) ∈ e_tbl := e_tbl_mem (List.mem_of_getElem? (i := 789) (by decide +kernel)) rfl
theorem m_320 : Cond.methodLink RX4 65 yX4_in ∈ e_tbl := e_tbl_mem (List.mem_of_getElem? (i := 787) (by decide +kernel)) rfl
theorem m_321 : Cond.static yX4_in ∈ e_tbl := e_tbl_mem (List.mem_of_getElem? (i := 788) (by decide +kernel)) rfl
theorem m_322 : Cond.initialized RX4 ∈ e_tbl := e_tbl_mem (List.mem_of_getElem? (i := 67) (by decide +kernel)) rfl
theorem m_323 : Cond.code yX4_isSide cX4_isSide 1 (some .boolean) ∈ e_tbl := e_tbl_mem (List.mem_of_getElem? (i := 796) (by decide +kernel)) rfl
theorem m_324 : Cond.methodLink RX4 69 yX4_isSide ∈ e_tbl := e_tbl_mem (List.mem_of_getElem? (i := 794) (by decide +kernel)) rfl
theorem m_325 : Cond.static yX4_isSide ∈ e_tbl := e_tbl_mem (List.mem_of_getElem? (i := 795) (by decide +kernel)) rfl
theorem m_326 : Cond.fieldLink RX4 20 "HardEnvoysModel" "many" "[I" ∈ e_tbl := e_tbl_mem (List.mem_of_getElem? (i := 694) (by decide +kernel)) rfl
theorem m_327 : Cond.fieldLink RX4 13 "HardEnvoysModel" "men" "[I" ∈ e_tbl := e_tbl_mem (List.mem_of_getElem? (i := 692) (by decide +kernel)) rfl
theorem m_328 : Cond.constantLong RX4 73 (24) ∈ e_tbl := e_tbl_mem (List.mem_of_getElem? (i := 786) (by decide +kernel)) rfl
theorem m_329 : Cond.fieldLink RX4 7 "HardEnvoysModel" "n" "I" ∈ e_tbl := e_tbl_mem (List.mem_of_getElem? (i := 691) (by decide +kernel)) rfl
theorem m_330 : Cond.code yX4_of cX4_of 4 (some .int) ∈ e_tbl := e_tbl_mem (List.mem_of_getElem? (i := 800) (by decide +kernel)) rfl
theorem m_331 : Cond.selects RX4 yX4_of yX4_of ∈ e_tbl := e_tbl_mem (by decide +kernel) rfl
theorem m_332 : Cond.methodLink RX4 75 yX4_of ∈ e_tbl := e_tbl_mem (List.mem_of_getElem? (i := 797) (by decide +kernel)) rfl
theorem m_333 : Cond.instanceMethod yX4_of ∈ e_tbl := e_tbl_mem (List.mem_of_getElem? (i := 799) (by decide +kernel)) rfl
theorem m_334 : Cond.fieldLink RX4 17 "HardEnvoysModel" "weights" "[I" ∈ e_tbl := e_tbl_mem (List.mem_of_getElem? (i := 693) (by decide +kernel)) rfl
theorem m_335 : Cond.constantLong RX4 79 (60) ∈ e_tbl := e_tbl_mem (List.mem_of_getElem? (i := 812) (by decide +kernel)) rfl
theorem m_336 : Cond.constantLong RX4 81 (200) ∈ e_tbl := e_tbl_mem (List.mem_of_getElem? (i := 813) (by decide +kernel)) rfl
theorem m_337 : Cond.constantLong RX4 83 (-500) ∈ e_tbl := e_tbl_mem (List.mem_of_getElem? (i := 814) (by decide +kernel)) rfl
theorem m_338 : Cond.constantLong RX4 85 (500) ∈ e_tbl := e_tbl_mem (List.mem_of_getElem? (i := 815) (by decide +kernel)) rfl
theorem m_339 : Cond.code yX4_isMan cX4_isMan 3 (some .boolean) ∈ e_tbl := e_tbl_mem (List.mem_of_getElem? (i := 808) (by decide +kernel)) rfl
theorem m_340 : Cond.selects RX4 yX4_isMan yX4_isMan ∈ e_tbl := e_tbl_mem (by decide +kernel) rfl
theorem m_341 : Cond.methodLink RX4 87 yX4_isMan ∈ e_tbl := e_tbl_mem (List.mem_of_getElem? (i := 805) (by decide +kernel)) rfl
theorem m_342 : Cond.instanceMethod yX4_isMan ∈ e_tbl := e_tbl_mem (List.mem_of_getElem? (i := 807) (by decide +kernel)) rfl
theorem m_343 : Cond.code yX4_isNumber cX4_isNumber 2 (some .boolean) ∈ e_tbl := e_tbl_mem (List.mem_of_getElem? (i := 811) (by decide +kernel)) rfl
theorem m_344 : Cond.methodLink RX4 91 yX4_isNumber ∈ e_tbl := e_tbl_mem (List.mem_of_getElem? (i := 809) (by decide +kernel)) rfl
theorem m_345 : Cond.static yX4_isNumber ∈ e_tbl := e_tbl_mem (List.mem_of_getElem? (i := 810) (by decide +kernel)) rfl
theorem m_346 : Cond.code yX4_paidTo cX4_paidTo 5 (some .int) ∈ e_tbl := e_tbl_mem (List.mem_of_getElem? (i := 827) (by decide +kernel)) rfl
theorem m_347 : Cond.selects RX4 yX4_paidTo yX4_paidTo ∈ e_tbl := e_tbl_mem (by decide +kernel) rfl
theorem m_348 : Cond.methodLink RX4 94 yX4_paidTo ∈ e_tbl := e_tbl_mem (List.mem_of_getElem? (i := 824) (by decide +kernel)) rfl
theorem m_349 : Cond.instanceMethod yX4_paidTo ∈ e_tbl := e_tbl_mem (List.mem_of_getElem? (i := 826) (by decide +kernel)) rfl
theorem m_350 : Cond.code yX4_worthOf cX4_worthOf 5 (some .int) ∈ e_tbl := e_tbl_mem (List.mem_of_getElem? (i := 823) (by decide +kernel)) rfl
theorem m_351 : Cond.selects RX4 yX4_worthOf yX4_worthOf ∈ e_tbl := e_tbl_mem (by decide +kernel) rfl
theorem m_352 : Cond.methodLink RX4 97 yX4_worthOf ∈ e_tbl := e_tbl_mem (List.mem_of_getElem? (i := 820) (by decide +kernel)) rfl
theorem m_353 : Cond.instanceMethod yX4_worthOf ∈ e_tbl := e_tbl_mem (List.mem_of_getElem? (i := 822) (by decide +kernel)) rfl
theorem m_354 : Cond.constant RX4 100 (-100000) ∈ e_tbl := e_tbl_mem (List.mem_of_getElem? (i := 828) (by decide +kernel)) rfl
theorem m_355 : Cond.code yX4_doesTake cX4_doesTake 4 (some .boolean) ∈ e_tbl := e_tbl_mem (List.mem_of_getElem? (i := 836) (by decide +kernel)) rfl
theorem m_356 : Cond.selects RX4 yX4_doesTake yX4_doesTake ∈ e_tbl := e_tbl_mem (by decide +kernel) rfl
theorem m_357 : Cond.methodLink RX4 101 yX4_doesTake ∈ e_tbl := e_tbl_mem (List.mem_of_getElem? (i := 833) (by decide +kernel)) rfl
theorem m_358 : Cond.instanceMethod yX4_doesTake ∈ e_tbl := e_tbl_mem (List.mem_of_getElem? (i := 835) (by decide +kernel)) rfl
theorem m_359 : Cond.constantLong RX4 105 (3) ∈ e_tbl := e_tbl_mem (List.mem_of_getElem? (i := 841) (by decide +kernel)) rfl
theorem m_360 : Cond.constantLong RX4 107 (9) ∈ e_tbl := e_tbl_mem (List.mem_of_getElem? (i := 842) (by decide +kernel)) rfl
theorem m_361 : Cond.constantLong RX4 109 (50) ∈ e_tbl := e_tbl_mem (List.mem_of_getElem? (i := 843) (by decide +kernel)) rfl
theorem m_362 : Cond.fieldLink RX4 111 "HardEnvoysModel" "way" "I" ∈ e_tbl := e_tbl_mem (List.mem_of_getElem? (i := 695) (by decide +kernel)) rfl
theorem m_363 : Cond.fieldLink RX4 23 "HardEnvoysModel" "rounds" "I" ∈ e_tbl := e_tbl_mem (List.mem_of_getElem? (i := 696) (by decide +kernel)) rfl
theorem m_364 : Cond.fieldLink RX4 114 "HardEnvoysModel" "delay" "I" ∈ e_tbl := e_tbl_mem (List.mem_of_getElem? (i := 697) (by decide +kernel)) rfl
theorem m_365 : Cond.fieldLink RX4 26 "HardEnvoysModel" "lotA" "I" ∈ e_tbl := e_tbl_mem (List.mem_of_getElem? (i := 698) (by decide +kernel)) rfl
theorem m_366 : Cond.fieldLink RX4 29 "HardEnvoysModel" "lotB" "I" ∈ e_tbl := e_tbl_mem (List.mem_of_getElem? (i := 699) (by decide +kernel)) rfl
theorem m_367 : Cond.constantLong RX4 117 (127) ∈ e_tbl := e_tbl_mem (List.mem_of_getElem? (i := 852) (by decide +kernel)) rfl
theorem m_368 : Cond.fieldLink RX4 119 "HardEnvoysModel" "ruleLong" "I" ∈ e_tbl := e_tbl_mem (List.mem_of_getElem? (i := 701) (by decide +kernel)) rfl
theorem m_369 : Cond.fieldLink RX4 32 "HardEnvoysModel" "rule" "[I" ∈ e_tbl := e_tbl_mem (List.mem_of_getElem? (i := 700) (by decide +kernel)) rfl
theorem m_370 : Cond.fieldLink RX4 122 "HardEnvoysModel" "at" "I" ∈ e_tbl := e_tbl_mem (List.mem_of_getElem? (i := 704) (by decide +kernel)) rfl
theorem m_371 : Cond.fieldLink RX4 125 "HardEnvoysModel" "signMany" "I" ∈ e_tbl := e_tbl_mem (List.mem_of_getElem? (i := 709) (by decide +kernel)) rfl
theorem m_372 : Cond.fieldLink RX4 128 "HardEnvoysModel" "valueMany" "I" ∈ e_tbl := e_tbl_mem (List.mem_of_getElem? (i := 707) (by decide +kernel)) rfl
theorem m_373 : Cond.fieldLink RX4 39 "HardEnvoysModel" "values" "[J" ∈ e_tbl := e_tbl_mem (List.mem_of_getElem? (i := 706) (by decide +kernel)) rfl
theorem m_374 : Cond.fieldLink RX4 43 "HardEnvoysModel" "signs" "[I" ∈ e_tbl := e_tbl_mem (List.mem_of_getElem? (i := 708) (by decide +kernel)) rfl
theorem m_375 : Cond.code yX4_rank cX4_rank 1 (some .int) ∈ e_tbl := e_tbl_mem (List.mem_of_getElem? (i := 889) (by decide +kernel)) rfl
theorem m_376 : Cond.methodLink RX4 131 yX4_rank ∈ e_tbl := e_tbl_mem (List.mem_of_getElem? (i := 887) (by decide +kernel)) rfl
theorem m_377 : Cond.static yX4_rank ∈ e_tbl := e_tbl_mem (List.mem_of_getElem? (i := 888) (by decide +kernel)) rfl
theorem m_378 : Cond.code yX4_workOut cX4_workOut 7 none ∈ e_tbl := e_tbl_mem (by decide +kernel) rfl
theorem m_379 : Cond.selects RX4 yX4_workOut yX4_workOut ∈ e_tbl := e_tbl_mem (by decide +kernel) rfl
theorem m_380 : Cond.methodLink RX4 135 yX4_workOut ∈ e_tbl := e_tbl_mem (List.mem_of_getElem? (i := 890) (by decide +kernel)) rfl
theorem m_381 : Cond.instanceMethod yX4_workOut ∈ e_tbl := e_tbl_mem (List.mem_of_getElem? (i := 892) (by decide +kernel)) rfl
theorem m_382 : Cond.constantLong RX4 138 (48) ∈ e_tbl := e_tbl_mem (List.mem_of_getElem? (i := 869) (by decide +kernel)) rfl
theorem m_383 : Cond.constantLong RX4 140 (57) ∈ e_tbl := e_tbl_mem (List.mem_of_getElem? (i := 870) (by decide +kernel)) rfl
theorem m_384 : Cond.fieldLink RX4 142 "HardEnvoysModel" "fault" "I" ∈ e_tbl := e_tbl_mem (List.mem_of_getElem? (i := 705) (by decide +kernel)) rfl
theorem m_385 : Cond.constantLong RX4 145 (10) ∈ e_tbl := e_tbl_mem (List.mem_of_getElem? (i := 875) (by decide +kernel)) rfl
theorem m_386 : Cond.code yX4_ahead cX4_ahead 1 (some .int) ∈ e_tbl := e_tbl_mem (List.mem_of_getElem? (i := 868) (by decide +kernel)) rfl
theorem m_387 : Cond.selects RX4 yX4_ahead yX4_ahead ∈ e_tbl := e_tbl_mem (by decide +kernel) rfl
theorem m_388 : Cond.methodLink RX4 147 yX4_ahead ∈ e_tbl := e_tbl_mem (List.mem_of_getElem? (i := 865) (by decide +kernel)) rfl
theorem m_389 : Cond.instanceMethod yX4_ahead ∈ e_tbl := e_tbl_mem (List.mem_of_getElem? (i := 867) (by decide +kernel)) rfl
theorem m_390 : Cond.code yX4_digits cX4_digits 4 (some .long) ∈ e_tbl := e_tbl_mem (List.mem_of_getElem? (i := 874) (by decide +kernel)) rfl
theorem m_391 : Cond.selects RX4 yX4_digits yX4_digits ∈ e_tbl := e_tbl_mem (by decide +kernel) rfl
theorem m_392 : Cond.methodLink RX4 151 yX4_digits ∈ e_tbl := e_tbl_mem (List.mem_of_getElem? (i := 871) (by decide +kernel)) rfl
theorem m_393 : Cond.instanceMethod yX4_digits ∈ e_tbl := e_tbl_mem (List.mem_of_getElem? (i := 873) (by decide +kernel)) rfl
theorem m_394 : Cond.code yX4_stands cX4_stands 5 none ∈ e_tbl := e_tbl_mem (by decide +kernel) rfl
theorem m_395 : Cond.selects RX4 yX4_stands yX4_stands ∈ e_tbl := e_tbl_mem (by decide +kernel) rfl
theorem m_396 : Cond.methodLink RX4 155 yX4_stands ∈ e_tbl := e_tbl_mem (List.mem_of_getElem? (i := 876) (by decide +kernel)) rfl
theorem m_397 : Cond.instanceMethod yX4_stands ∈ e_tbl := e_tbl_mem (List.mem_of_getElem? (i := 878) (by decide +kernel)) rfl
theorem m_398 : Cond.code yX4_nameOf cX4_nameOf 1 (some .int) ∈ e_tbl := e_tbl_mem (List.mem_of_getElem? (i := 882) (by decide +kernel)) rfl
theorem m_399 : Cond.methodLink RX4 159 yX4_nameOf ∈ e_tbl := e_tbl_mem (List.mem_of_getElem? (i := 880) (by decide +kernel)) rfl
theorem m_400 : Cond.static yX4_nameOf ∈ e_tbl := e_tbl_mem (List.mem_of_getElem? (i := 881) (by decide +kernel)) rfl
theorem m_401 : Cond.fieldLink RX4 46 "HardEnvoysModel" "names" "[J" ∈ e_tbl := e_tbl_mem (List.mem_of_getElem? (i := 710) (by decide +kernel)) rfl
theorem m_402 : Cond.code yX4_workDown cX4_workDown 2 none ∈ e_tbl := e_tbl_mem (by decide +kernel) rfl
theorem m_403 : Cond.selects RX4 yX4_workDown yX4_workDown ∈ e_tbl := e_tbl_mem (by decide +kernel) rfl
theorem m_404 : Cond.methodLink RX4 162 yX4_workDown ∈ e_tbl := e_tbl_mem (List.mem_of_getElem? (i := 883) (by decide +kernel)) rfl
theorem m_405 : Cond.instanceMethod yX4_workDown ∈ e_tbl := e_tbl_mem (List.mem_of_getElem? (i := 885) (by decide +kernel)) rfl
theorem m_406 : Cond.fieldLink RX4 166 "HardEnvoysModel" "told" "J" ∈ e_tbl := e_tbl_mem (List.mem_of_getElem? (i := 711) (by decide +kernel)) rfl
theorem m_407 : Cond.code yX4_reads cX4_reads 5 (some .boolean) ∈ e_tbl := e_tbl_mem (List.mem_of_getElem? (i := 864) (by decide +kernel)) rfl
theorem m_408 : Cond.selects RX4 yX4_reads yX4_reads ∈ e_tbl := e_tbl_mem (by decide +kernel) rfl
theorem m_409 : Cond.methodLink RX4 169 yX4_reads ∈ e_tbl := e_tbl_mem (List.mem_of_getElem? (i := 861) (by decide +kernel)) rfl
theorem m_410 : Cond.instanceMethod yX4_reads ∈ e_tbl := e_tbl_mem (List.mem_of_getElem? (i := 863) (by decide +kernel)) rfl
theorem m_411 : Cond.fieldLink RX4 49 "HardEnvoysModel" "both" "[Z" ∈ e_tbl := e_tbl_mem (List.mem_of_getElem? (i := 712) (by decide +kernel)) rfl
theorem m_412 : Cond.fieldLink RX4 53 "HardEnvoysModel" "gain0" "[I" ∈ e_tbl := e_tbl_mem (List.mem_of_getElem? (i := 713) (by decide +kernel)) rfl
theorem m_413 : Cond.fieldLink RX4 56 "HardEnvoysModel" "gain1" "[I" ∈ e_tbl := e_tbl_mem (List.mem_of_getElem? (i := 714) (by decide +kernel)) rfl
theorem m_414 : Cond.code yX4_layOut cX4_layOut 4 none ∈ e_tbl := e_tbl_mem (by decide +kernel) rfl
theorem m_415 : Cond.selects RX4 yX4_layOut yX4_layOut ∈ e_tbl := e_tbl_mem (by decide +kernel) rfl
theorem m_416 : Cond.methodLink RX4 173 yX4_layOut ∈ e_tbl := e_tbl_mem (List.mem_of_getElem? (i := 906) (by decide +kernel)) rfl
theorem m_417 : Cond.instanceMethod yX4_layOut ∈ e_tbl := e_tbl_mem (List.mem_of_getElem? (i := 908) (by decide +kernel)) rfl
theorem m_418 : Cond.code yX4_settleBy cX4_settleBy 3 none ∈ e_tbl := e_tbl_mem (by decide +kernel) rfl
theorem m_419 : Cond.selects RX4 yX4_settleBy yX4_settleBy ∈ e_tbl := e_tbl_mem (by decide +kernel) rfl
theorem m_420 : Cond.methodLink RX4 177 yX4_settleBy ∈ e_tbl := e_tbl_mem (List.mem_of_getElem? (i := 910) (by decide +kernel)) rfl
theorem m_421 : Cond.instanceMethod yX4_settleBy ∈ e_tbl := e_tbl_mem (List.mem_of_getElem? (i := 912) (by decide +kernel)) rfl
theorem m_422 : Cond.fieldLink RX4 180 "HardEnvoysModel" "share" "I" ∈ e_tbl := e_tbl_mem (List.mem_of_getElem? (i := 715) (by decide +kernel)) rfl
theorem m_423 : Cond.fieldLink RX4 183 "HardEnvoysModel" "other" "I" ∈ e_tbl := e_tbl_mem (List.mem_of_getElem? (i := 716) (by decide +kernel)) rfl
theorem m_424 : Cond.fieldLink RX4 186 "HardEnvoysModel" "inRound" "I" ∈ e_tbl := e_tbl_mem (List.mem_of_getElem? (i := 717) (by decide +kernel)) rfl
theorem m_425 : Cond.code yX4_byProducts cX4_byProducts 6 none ∈ e_tbl := e_tbl_mem (by decide +kernel) rfl
theorem m_426 : Cond.selects RX4 yX4_byProducts yX4_byProducts ∈ e_tbl := e_tbl_mem (by decide +kernel) rfl
theorem m_427 : Cond.methodLink RX4 189 yX4_byProducts ∈ e_tbl := e_tbl_mem (List.mem_of_getElem? (i := 914) (by decide +kernel)) rfl
theorem m_428 : Cond.instanceMethod yX4_byProducts ∈ e_tbl := e_tbl_mem (List.mem_of_getElem? (i := 916) (by decide +kernel)) rfl
theorem m_429 : Cond.code yX4_byOffers cX4_byOffers 6 none ∈ e_tbl := e_tbl_mem (by decide +kernel) rfl
theorem m_430 : Cond.selects RX4 yX4_byOffers yX4_byOffers ∈ e_tbl := e_tbl_mem (by decide +kernel) rfl
theorem m_431 : Cond.methodLink RX4 192 yX4_byOffers ∈ e_tbl := e_tbl_mem (List.mem_of_getElem? (i := 918) (by decide +kernel)) rfl
theorem m_432 : Cond.instanceMethod yX4_byOffers ∈ e_tbl := e_tbl_mem (List.mem_of_getElem? (i := 920) (by decide +kernel)) rfl
theorem m_433 : Cond.constant RX4 195 (-1000000) ∈ e_tbl := e_tbl_mem (List.mem_of_getElem? (i := 930) (by decide +kernel)) rfl
theorem m_434 : Cond.code yX4_bestFor cX4_bestFor 5 (some .int) ∈ e_tbl := e_tbl_mem (List.mem_of_getElem? (i := 925) (by decide +kernel)) rfl
theorem m_435 : Cond.selects RX4 yX4_bestFor yX4_bestFor ∈ e_tbl := e_tbl_mem (by decide +kernel) rfl
theorem m_436 : Cond.methodLink RX4 196 yX4_bestFor ∈ e_tbl := e_tbl_mem (List.mem_of_getElem? (i := 922) (by decide +kernel)) rfl
theorem m_437 : Cond.instanceMethod yX4_bestFor ∈ e_tbl := e_tbl_mem (List.mem_of_getElem? (i := 924) (by decide +kernel)) rfl
theorem m_438 : Cond.code yX4_byRule cX4_byRule 9 none ∈ e_tbl := e_tbl_mem (by decide +kernel) rfl
theorem m_439 : Cond.selects RX4 yX4_byRule yX4_byRule ∈ e_tbl := e_tbl_mem (by decide +kernel) rfl
theorem m_440 : Cond.methodLink RX4 200 yX4_byRule ∈ e_tbl := e_tbl_mem (List.mem_of_getElem? (i := 931) (by decide +kernel)) rfl
theorem m_441 : Cond.instanceMethod yX4_byRule ∈ e_tbl := e_tbl_mem (List.mem_of_getElem? (i := 933) (by decide +kernel)) rfl
theorem m_442 : Cond.code yX4_gainOf cX4_gainOf 3 (some .int) ∈ e_tbl := e_tbl_mem (List.mem_of_getElem? (i := 929) (by decide +kernel)) rfl
theorem m_443 : Cond.selects RX4 yX4_gainOf yX4_gainOf ∈ e_tbl := e_tbl_mem (by decide +kernel) rfl
theorem m_444 : Cond.methodLink RX4 203 yX4_gainOf ∈ e_tbl := e_tbl_mem (List.mem_of_getElem? (i := 926) (by decide +kernel)) rfl
theorem m_445 : Cond.instanceMethod yX4_gainOf ∈ e_tbl := e_tbl_mem (List.mem_of_getElem? (i := 928) (by decide +kernel)) rfl
theorem m_446 : Cond.constantLong RX4 206 (-1) ∈ e_tbl := e_tbl_mem (List.mem_of_getElem? (i := 935) (by decide +kernel)) rfl
theorem m_447 : Cond.code yX4_far cX4_far 2 (some .int) ∈ e_tbl := e_tbl_mem (List.mem_of_getElem? (i := 938) (by decide +kernel)) rfl
theorem m_448 : Cond.methodLink RX4 208 yX4_far ∈ e_tbl := e_tbl_mem (List.mem_of_getElem? (i := 936) (by decide +kernel)) rfl
theorem m_449 : Cond.static yX4_far ∈ e_tbl := e_tbl_mem (List.mem_of_getElem? (i := 937) (by decide +kernel)) rfl
theorem m_450 : Cond.code yX4_arePair cX4_arePair 3 (some .boolean) ∈ e_tbl := e_tbl_mem (List.mem_of_getElem? (i := 901) (by decide +kernel)) rfl
theorem m_451 : Cond.selects RX4 yX4_arePair yX4_arePair ∈ e_tbl := e_tbl_mem (by decide +kernel) rfl
theorem m_452 : Cond.methodLink RX4 211 yX4_arePair ∈ e_tbl := e_tbl_mem (List.mem_of_getElem? (i := 898) (by decide +kernel)) rfl
theorem m_453 : Cond.instanceMethod yX4_arePair ∈ e_tbl := e_tbl_mem (List.mem_of_getElem? (i := 900) (by decide +kernel)) rfl
theorem m_454 : Cond.code yX4_settleTwo cX4_settleTwo 3 none ∈ e_tbl := e_tbl_mem (by decide +kernel) rfl
theorem m_455 : Cond.selects RX4 yX4_settleTwo yX4_settleTwo ∈ e_tbl := e_tbl_mem (by decide +kernel) rfl
theorem m_456 : Cond.methodLink RX4 214 yX4_settleTwo ∈ e_tbl := e_tbl_mem (List.mem_of_getElem? (i := 902) (by decide +kernel)) rfl
theorem m_457 : Cond.instanceMethod yX4_settleTwo ∈ e_tbl := e_tbl_mem (List.mem_of_getElem? (i := 904) (by decide +kernel)) rfl
theorem m_458 : Cond.code yX4_hasBy cX4_hasBy 5 (some .int) ∈ e_tbl := e_tbl_mem (List.mem_of_getElem? (i := 954) (by decide +kernel)) rfl
theorem m_459 : Cond.selects RX4 yX4_hasBy yX4_hasBy ∈ e_tbl := e_tbl_mem (by decide +kernel) rfl
theorem m_460 : Cond.methodLink RX4 217 yX4_hasBy ∈ e_tbl := e_tbl_mem (List.mem_of_getElem? (i := 951) (by decide +kernel)) rfl
theorem m_461 : Cond.instanceMethod yX4_hasBy ∈ e_tbl := e_tbl_mem (List.mem_of_getElem? (i := 953) (by decide +kernel)) rfl
theorem m_462 : Cond.fieldLink RX4 220 "HardEnvoysModel" "above" "J" ∈ e_tbl := e_tbl_mem (List.mem_of_getElem? (i := 702) (by decide +kernel)) rfl
theorem m_463 : Cond.fieldLink RX4 35 "HardEnvoysModel" "below" "J" ∈ e_tbl := e_tbl_mem (List.mem_of_getElem? (i := 703) (by decide +kernel)) rfl
theorem m_464 : Cond.code yX4_hasOf cX4_hasOf 6 (some .int) ∈ e_tbl := e_tbl_mem (List.mem_of_getElem? (i := 950) (by decide +kernel)) rfl
theorem m_465 : Cond.selects RX4 yX4_hasOf yX4_hasOf ∈ e_tbl := e_tbl_mem (by decide +kernel) rfl
theorem m_466 : Cond.methodLink RX4 223 yX4_hasOf ∈ e_tbl := e_tbl_mem (List.mem_of_getElem? (i := 947) (by decide +kernel)) rfl
theorem m_467 : Cond.instanceMethod yX4_hasOf ∈ e_tbl := e_tbl_mem (List.mem_of_getElem? (i := 949) (by decide +kernel)) rfl
theorem m_468 : Cond.code yX4_under cX4_under 1 (some .int) ∈ e_tbl := e_tbl_mem (List.mem_of_getElem? (i := 958) (by decide +kernel)) rfl
theorem m_469 : Cond.selects RX4 yX4_under yX4_under ∈ e_tbl := e_tbl_mem (by decide +kernel) rfl
theorem m_470 : Cond.methodLink RX4 226 yX4_under ∈ e_tbl := e_tbl_mem (List.mem_of_getElem? (i := 955) (by decide +kernel)) rfl
theorem m_471 : Cond.instanceMethod yX4_under ∈ e_tbl := e_tbl_mem (List.mem_of_getElem? (i := 957) (by decide +kernel)) rfl
theorem m_472 : Cond.code yX4_tell cX4_tell 11 none ∈ e_tbl := e_tbl_mem (by decide +kernel) rfl
theorem m_473 : Cond.selects RX4 yX4_tell yX4_tell ∈ e_tbl := e_tbl_mem (by decide +kernel) rfl
theorem m_474 : Cond.methodLink RX4 229 yX4_tell ∈ e_tbl := e_tbl_mem (List.mem_of_getElem? (i := 959) (by decide +kernel)) rfl
theorem m_475 : Cond.instanceMethod yX4_tell ∈ e_tbl := e_tbl_mem (List.mem_of_getElem? (i := 961) (by decide +kernel)) rfl
theorem m_476 : Cond.code yX4_hasAgainst cX4_hasAgainst 4 (some .int) ∈ e_tbl := e_tbl_mem (List.mem_of_getElem? (i := 974) (by decide +kernel)) rfl
theorem m_477 : Cond.selects RX4 yX4_hasAgainst yX4_hasAgainst ∈ e_tbl := e_tbl_mem (by decide +kernel) rfl
theorem m_478 : Cond.methodLink RX4 233 yX4_hasAgainst ∈ e_tbl := e_tbl_mem (List.mem_of_getElem? (i := 971) (by decide +kernel)) rfl
theorem m_479 : Cond.instanceMethod yX4_hasAgainst ∈ e_tbl := e_tbl_mem (List.mem_of_getElem? (i := 973) (by decide +kernel)) rfl
theorem m_480 : Cond.code yX4_bestMan cX4_bestMan 7 (some .int) ∈ e_tbl := e_tbl_mem (List.mem_of_getElem? (i := 970) (by decide +kernel)) rfl
theorem m_481 : Cond.selects RX4 yX4_bestMan yX4_bestMan ∈ e_tbl := e_tbl_mem (by decide +kernel) rfl
theorem m_482 : Cond.methodLink RX4 236 yX4_bestMan ∈ e_tbl := e_tbl_mem (List.mem_of_getElem? (i := 967) (by decide +kernel)) rfl
theorem m_483 : Cond.instanceMethod yX4_bestMan ∈ e_tbl := e_tbl_mem (List.mem_of_getElem? (i := 969) (by decide +kernel)) rfl
theorem m_484 : Cond.fieldLink RX4 239 "HardEnvoysModel" "nothings" "I" ∈ e_tbl := e_tbl_mem (List.mem_of_getElem? (i := 720) (by decide +kernel)) rfl
theorem m_485 : Cond.fieldLink RX4 59 "HardEnvoysModel" "table0" "[I" ∈ e_tbl := e_tbl_mem (List.mem_of_getElem? (i := 718) (by decide +kernel)) rfl
theorem m_486 : Cond.fieldLink RX4 62 "HardEnvoysModel" "table1" "[I" ∈ e_tbl := e_tbl_mem (List.mem_of_getElem? (i := 719) (by decide +kernel)) rfl
theorem m_487 : Cond.code yX4_layTable cX4_layTable 3 none ∈ e_tbl := e_tbl_mem (by decide +kernel) rfl
theorem m_488 : Cond.selects RX4 yX4_layTable yX4_layTable ∈ e_tbl := e_tbl_mem (by decide +kernel) rfl
theorem m_489 : Cond.methodLink RX4 242 yX4_layTable ∈ e_tbl := e_tbl_mem (List.mem_of_getElem? (i := 983) (by decide +kernel)) rfl
theorem m_490 : Cond.instanceMethod yX4_layTable ∈ e_tbl := e_tbl_mem (List.mem_of_getElem? (i := 985) (by decide +kernel)) rfl
theorem m_491 : Cond.code yX4_isRest cX4_isRest 5 (some .boolean) ∈ e_tbl := e_tbl_mem (List.mem_of_getElem? (i := 990) (by decide +kernel)) rfl
theorem m_492 : Cond.selects RX4 yX4_isRest yX4_isRest ∈ e_tbl := e_tbl_mem (by decide +kernel) rfl
theorem m_493 : Cond.methodLink RX4 245 yX4_isRest ∈ e_tbl := e_tbl_mem (List.mem_of_getElem? (i := 987) (by decide +kernel)) rfl
theorem m_494 : Cond.instanceMethod yX4_isRest ∈ e_tbl := e_tbl_mem (List.mem_of_getElem? (i := 989) (by decide +kernel)) rfl
theorem m_495 : Cond.code yX4_restOf cX4_restOf 5 (some .int) ∈ e_tbl := e_tbl_mem (List.mem_of_getElem? (i := 982) (by decide +kernel)) rfl
theorem m_496 : Cond.selects RX4 yX4_restOf yX4_restOf ∈ e_tbl := e_tbl_mem (by decide +kernel) rfl
theorem m_497 : Cond.methodLink RX4 248 yX4_restOf ∈ e_tbl := e_tbl_mem (List.mem_of_getElem? (i := 979) (by decide +kernel)) rfl
theorem m_498 : Cond.instanceMethod yX4_restOf ∈ e_tbl := e_tbl_mem (List.mem_of_getElem? (i := 981) (by decide +kernel)) rfl
theorem m_499 : Cond.constantLong RX4 251 (-1000000) ∈ e_tbl := e_tbl_mem (List.mem_of_getElem? (i := 1031) (by decide +kernel)) rfl
theorem m_500 : Cond.constantLong RX4 253 (31) ∈ e_tbl := e_tbl_mem (List.mem_of_getElem? (i := 1040) (by decide +kernel)) rfl
theorem m_501 : Cond.constantLong RX4 255 (14353) ∈ e_tbl := e_tbl_mem (List.mem_of_getElem? (i := 1041) (by decide +kernel)) rfl
theorem m_502 : Cond.code yJ0_indexOf_7cf53 cJ0_indexOf_7cf53 3 (some .int) ∈ e_tbl := e_tbl_mem (List.mem_of_getElem? (i := 360) (by decide +kernel)) rfl
theorem m_503 : Cond.selects RJ0 yJ0_indexOf_7cf53 yJ0_indexOf_7cf53 ∈ e_tbl := e_tbl_mem (List.mem_of_getElem? (i := 359) (by decide +kernel)) rfl
theorem m_504 : Cond.methodLink RJ0 633 yJ0_indexOf_7cf53 ∈ e_tbl := e_tbl_mem (List.mem_of_getElem? (i := 357) (by decide +kernel)) rfl
theorem m_505 : Cond.instanceMethod yJ0_indexOf_7cf53 ∈ e_tbl := e_tbl_mem (List.mem_of_getElem? (i := 358) (by decide +kernel)) rfl
theorem m_506 : Cond.code yJ0_isLatin1_aae02 cJ0_isLatin1_aae02 1 (some .boolean) ∈ e_tbl := e_tbl_mem (List.mem_of_getElem? (i := 364) (by decide +kernel)) rfl
theorem m_507 : Cond.selects RJ0 yJ0_isLatin1_aae02 yJ0_isLatin1_aae02 ∈ e_tbl := e_tbl_mem (List.mem_of_getElem? (i := 363) (by decide +kernel)) rfl
theorem m_508 : Cond.methodLink RJ0 492 yJ0_isLatin1_aae02 ∈ e_tbl := e_tbl_mem (List.mem_of_getElem? (i := 361) (by decide +kernel)) rfl
theorem m_509 : Cond.instanceMethod yJ0_isLatin1_aae02 ∈ e_tbl := e_tbl_mem (List.mem_of_getElem? (i := 362) (by decide +kernel)) rfl
theorem m_510 : Cond.fieldLink RJ0 9 "java/lang/String" "value" "[B" ∈ e_tbl := e_tbl_mem (List.mem_of_getElem? (i := 1043) (by decide +kernel)) rfl
theorem m_511 : Cond.code yJ0_length_8abf5 cJ0_length_8abf5 1 (some .int) ∈ e_tbl := e_tbl_mem (List.mem_of_getElem? (i := 370) (by decide +kernel)) rfl
theorem m_512 : Cond.selects RJ0 yJ0_length_8abf5 yJ0_length_8abf5 ∈ e_tbl := e_tbl_mem (List.mem_of_getElem? (i := 369) (by decide +kernel)) rfl
theorem m_513 : Cond.methodLink RJ0 505 yJ0_length_8abf5 ∈ e_tbl := e_tbl_mem (List.mem_of_getElem? (i := 367) (by decide +kernel)) rfl
theorem m_514 : Cond.instanceMethod yJ0_length_8abf5 ∈ e_tbl := e_tbl_mem (List.mem_of_getElem? (i := 368) (by decide +kernel)) rfl
theorem m_515 : Cond.code yJ1_indexOf_4cfef cJ1_indexOf_4cfef 4 (some .int) ∈ e_tbl := e_tbl_mem (List.mem_of_getElem? (i := 377) (by decide +kernel)) rfl
theorem m_516 : Cond.methodLink RJ0 637 yJ1_indexOf_4cfef ∈ e_tbl := e_tbl_mem (List.mem_of_getElem? (i := 375) (by decide +kernel)) rfl
theorem m_517 : Cond.static yJ1_indexOf_4cfef ∈ e_tbl := e_tbl_mem (List.mem_of_getElem? (i := 376) (by decide +kernel)) rfl
theorem m_518 : Cond.initialized RJ1 ∈ e_tbl := e_tbl_mem (List.mem_of_getElem? (i := 70) (by decide +kernel)) rfl
theorem m_519 : Cond.fieldLink RJ0 38 "java/lang/String" "COMPACT_STRINGS" "Z" ∈ e_tbl := e_tbl_mem (List.mem_of_getElem? (i := 365) (by decide +kernel)) rfl
theorem m_520 : Cond.fieldLink RJ0 15 "java/lang/String" "coder" "B" ∈ e_tbl := e_tbl_mem (List.mem_of_getElem? (i := 1042) (by decide +kernel)) rfl
theorem m_521 : Cond.code yJ0_coder_7d493 cJ0_coder_7d493 1 (some .byte) ∈ e_tbl := e_tbl_mem (List.mem_of_getElem? (i := 374) (by decide +kernel)) rfl
theorem m_522 : Cond.selects RJ0 yJ0_coder_7d493 yJ0_coder_7d493 ∈ e_tbl := e_tbl_mem (List.mem_of_getElem? (i := 373) (by decide +kernel)) rfl
theorem m_523 : Cond.methodLink RJ0 335 yJ0_coder_7d493 ∈ e_tbl := e_tbl_mem (List.mem_of_getElem? (i := 371) (by decide +kernel)) rfl
theorem m_524 : Cond.instanceMethod yJ0_coder_7d493 ∈ e_tbl := e_tbl_mem (List.mem_of_getElem? (i := 372) (by decide +kernel)) rfl
theorem m_525 : Cond.code yJ1_canEncode_9a6ad cJ1_canEncode_9a6ad 1 (some .boolean) ∈ e_tbl := e_tbl_mem (List.mem_of_getElem? (i := 380) (by decide +kernel)) rfl
theorem m_526 : Cond.methodLink RJ1 88 yJ1_canEncode_9a6ad ∈ e_tbl := e_tbl_mem (List.mem_of_getElem? (i := 378) (by decide +kernel)) rfl
theorem m_527 : Cond.static yJ1_canEncode_9a6ad ∈ e_tbl := e_tbl_mem (List.mem_of_getElem? (i := 379) (by decide +kernel)) rfl
theorem m_528 : Cond.methodLink RJ1 92 Lib.Math.max.name ∈ e_tbl := e_tbl_mem (by decide +kernel) rfl
theorem m_529 : Cond.methodLink RJ1 38 Lib.Math.min.name ∈ e_tbl := e_tbl_mem (by decide +kernel) rfl
theorem m_530 : Cond.code yJ1_indexOfChar_4cfef cJ1_indexOfChar_4cfef 6 (some .int) ∈ e_tbl := e_tbl_mem (List.mem_of_getElem? (i := 389) (by decide +kernel)) rfl
theorem m_531 : Cond.methodLink RJ1 95 yJ1_indexOfChar_4cfef ∈ e_tbl := e_tbl_mem (List.mem_of_getElem? (i := 387) (by decide +kernel)) rfl
theorem m_532 : Cond.static yJ1_indexOfChar_4cfef ∈ e_tbl := e_tbl_mem (List.mem_of_getElem? (i := 388) (by decide +kernel)) rfl
theorem m_533 : Cond.constant RJ6 265 (1431655765) ∈ e_tbl := e_tbl_mem (List.mem_of_getElem? (i := 636) (by decide +kernel)) rfl
theorem m_534 : Cond.constant RJ6 266 (858993459) ∈ e_tbl := e_tbl_mem (List.mem_of_getElem? (i := 637) (by decide +kernel)) rfl
theorem m_535 : Cond.constant RJ6 267 (252645135) ∈ e_tbl := e_tbl_mem (List.mem_of_getElem? (i := 638) (by decide +kernel)) rfl
theorem m_536 : Cond.code yX3_steps cX3_steps 3 (some .int) ∈ e_tbl := e_tbl_mem (List.mem_of_getElem? (i := 228) (by decide +kernel)) rfl
theorem m_537 : Cond.code yX3_envoy cX3_envoy 3 (some .int) ∈ e_tbl := e_tbl_mem (List.mem_of_getElem? (i := 232) (by decide +kernel)) rfl
theorem m_538 : Cond.code yX3_put cX3_put 7 (some .int) ∈ e_tbl := e_tbl_mem (List.mem_of_getElem? (i := 250) (by decide +kernel)) rfl
theorem m_539 : Cond.code yX3_worth cX3_worth 4 (some .int) ∈ e_tbl := e_tbl_mem (List.mem_of_getElem? (i := 262) (by decide +kernel)) rfl
theorem m_540 : Cond.code yX3_takes cX3_takes 5 (some .int) ∈ e_tbl := e_tbl_mem (List.mem_of_getElem? (i := 275) (by decide +kernel)) rfl
theorem m_541 : Cond.code yX3_set cX3_set 3 (some .int) ∈ e_tbl := e_tbl_mem (List.mem_of_getElem? (i := 288) (by decide +kernel)) rfl
theorem m_542 : Cond.code yX3_lot cX3_lot 3 (some .int) ∈ e_tbl := e_tbl_mem (List.mem_of_getElem? (i := 304) (by decide +kernel)) rfl
theorem m_543 : Cond.code yX3_write cX3_write 2 (some .int) ∈ e_tbl := e_tbl_mem (List.mem_of_getElem? (i := 308) (by decide +kernel)) rfl
theorem m_544 : Cond.code yX3_erase cX3_erase 2 (some .int) ∈ e_tbl := e_tbl_mem (List.mem_of_getElem? (i := 446) (by decide +kernel)) rfl
theorem m_545 : Cond.code yX3_fault cX3_fault 1 (some .int) ∈ e_tbl := e_tbl_mem (List.mem_of_getElem? (i := 454) (by decide +kernel)) rfl
theorem m_546 : Cond.code yX3_settle cX3_settle 3 (some .int) ∈ e_tbl := e_tbl_mem (List.mem_of_getElem? (i := 458) (by decide +kernel)) rfl
theorem m_547 : Cond.code yX3_round cX3_round 3 (some .int) ∈ e_tbl := e_tbl_mem (List.mem_of_getElem? (i := 533) (by decide +kernel)) rfl
theorem m_548 : Cond.code yX3_has cX3_has 4 (some .int) ∈ e_tbl := e_tbl_mem (List.mem_of_getElem? (i := 537) (by decide +kernel)) rfl
theorem m_549 : Cond.code yX3_best cX3_best 9 (some .int) ∈ e_tbl := e_tbl_mem (List.mem_of_getElem? (i := 572) (by decide +kernel)) rfl
theorem m_550 : Cond.code yX3_rest cX3_rest 2 (some .int) ∈ e_tbl := e_tbl_mem (List.mem_of_getElem? (i := 580) (by decide +kernel)) rfl
theorem m_551 : Cond.code yX3_lose cX3_lose 5 (some .int) ∈ e_tbl := e_tbl_mem (List.mem_of_getElem? (i := 600) (by decide +kernel)) rfl
theorem m_552 : Cond.code yX3_weight cX3_weight 6 (some .int) ∈ e_tbl := e_tbl_mem (List.mem_of_getElem? (i := 608) (by decide +kernel)) rfl
theorem m_553 : Cond.code yX3_thought cX3_thought 9 (some .int) ∈ e_tbl := e_tbl_mem (List.mem_of_getElem? (i := 612) (by decide +kernel)) rfl
theorem m_554 : Cond.code yX3_paid cX3_paid 14 (some .int) ∈ e_tbl := e_tbl_mem (List.mem_of_getElem? (i := 624) (by decide +kernel)) rfl
theorem m_555 : Cond.code yX3_hard cX3_hard 8 (some .int) ∈ e_tbl := e_tbl_mem (List.mem_of_getElem? (i := 628) (by decide +kernel)) rfl
theorem m_556 : Cond.code yX3_committee cX3_committee 6 (some .int) ∈ e_tbl := e_tbl_mem (List.mem_of_getElem? (i := 632) (by decide +kernel)) rfl
theorem m_557 : Cond.code yX3_recall cX3_recall 5 (some .int) ∈ e_tbl := e_tbl_mem (List.mem_of_getElem? (i := 646) (by decide +kernel)) rfl
theorem m_558 : Cond.code yX3_middle cX3_middle 10 (some .int) ∈ e_tbl := e_tbl_mem (List.mem_of_getElem? (i := 651) (by decide +kernel)) rfl
theorem m_559 : Cond.code yX3_edge cX3_edge 7 (some .int) ∈ e_tbl := e_tbl_mem (List.mem_of_getElem? (i := 655) (by decide +kernel)) rfl
theorem m_560 : Cond.code yX3_part cX3_part 2 (some .long) ∈ e_tbl := e_tbl_mem (List.mem_of_getElem? (i := 663) (by decide +kernel)) rfl
theorem m_561 : Cond.code yX3_count cX3_count 2 (some .int) ∈ e_tbl := e_tbl_mem (List.mem_of_getElem? (i := 668) (by decide +kernel)) rfl
theorem m_562 : Cond.code yX3_digest cX3_digest 5 (some .long) ∈ e_tbl := e_tbl_mem (List.mem_of_getElem? (i := 672) (by decide +kernel)) rfl
theorem m_563 : Cond.code yX4_steps cX4_steps 3 (some .int) ∈ e_tbl := e_tbl_mem (List.mem_of_getElem? (i := 785) (by decide +kernel)) rfl
theorem m_564 : Cond.code yX4_envoy cX4_envoy 4 (some .int) ∈ e_tbl := e_tbl_mem (List.mem_of_getElem? (i := 793) (by decide +kernel)) rfl
theorem m_565 : Cond.code yX4_put cX4_put 6 (some .int) ∈ e_tbl := e_tbl_mem (List.mem_of_getElem? (i := 804) (by decide +kernel)) rfl
theorem m_566 : Cond.code yX4_worth cX4_worth 4 (some .int) ∈ e_tbl := e_tbl_mem (List.mem_of_getElem? (i := 819) (by decide +kernel)) rfl
theorem m_567 : Cond.code yX4_takes cX4_takes 4 (some .int) ∈ e_tbl := e_tbl_mem (List.mem_of_getElem? (i := 832) (by decide +kernel)) rfl
theorem m_568 : Cond.code yX4_set cX4_set 5 (some .int) ∈ e_tbl := e_tbl_mem (List.mem_of_getElem? (i := 840) (by decide +kernel)) rfl
theorem m_569 : Cond.code yX4_lot cX4_lot 3 (some .int) ∈ e_tbl := e_tbl_mem (List.mem_of_getElem? (i := 847) (by decide +kernel)) rfl
theorem m_570 : Cond.code yX4_write cX4_write 2 (some .int) ∈ e_tbl := e_tbl_mem (List.mem_of_getElem? (i := 851) (by decide +kernel)) rfl
theorem m_571 : Cond.code yX4_erase cX4_erase 2 (some .int) ∈ e_tbl := e_tbl_mem (List.mem_of_getElem? (i := 856) (by decide +kernel)) rfl
theorem m_572 : Cond.code yX4_fault cX4_fault 2 (some .int) ∈ e_tbl := e_tbl_mem (List.mem_of_getElem? (i := 860) (by decide +kernel)) rfl
theorem m_573 : Cond.code yX4_settle cX4_settle 3 (some .int) ∈ e_tbl := e_tbl_mem (List.mem_of_getElem? (i := 897) (by decide +kernel)) rfl
theorem m_574 : Cond.code yX4_round cX4_round 3 (some .int) ∈ e_tbl := e_tbl_mem (List.mem_of_getElem? (i := 942) (by decide +kernel)) rfl
theorem m_575 : Cond.code yX4_has cX4_has 4 (some .int) ∈ e_tbl := e_tbl_mem (List.mem_of_getElem? (i := 946) (by decide +kernel)) rfl
theorem m_576 : Cond.code yX4_best cX4_best 3 (some .int) ∈ e_tbl := e_tbl_mem (List.mem_of_getElem? (i := 966) (by decide +kernel)) rfl
theorem m_577 : Cond.code yX4_rest cX4_rest 2 (some .int) ∈ e_tbl := e_tbl_mem (List.mem_of_getElem? (i := 978) (by decide +kernel)) rfl
theorem m_578 : Cond.code yX4_lose cX4_lose 5 (some .int) ∈ e_tbl := e_tbl_mem (List.mem_of_getElem? (i := 994) (by decide +kernel)) rfl
theorem m_579 : Cond.code yX4_weight cX4_weight 5 (some .int) ∈ e_tbl := e_tbl_mem (List.mem_of_getElem? (i := 998) (by decide +kernel)) rfl
theorem m_580 : Cond.code yX4_thought cX4_thought 10 (some .int) ∈ e_tbl := e_tbl_mem (List.mem_of_getElem? (i := 1002) (by decide +kernel)) rfl
theorem m_581 : Cond.code yX4_paid cX4_paid 12 (some .int) ∈ e_tbl := e_tbl_mem (List.mem_of_getElem? (i := 1006) (by decide +kernel)) rfl
theorem m_582 : Cond.code yX4_hard cX4_hard 8 (some .int) ∈ e_tbl := e_tbl_mem (List.mem_of_getElem? (i := 1010) (by decide +kernel)) rfl
theorem m_583 : Cond.code yX4_committee cX4_committee 8 (some .int) ∈ e_tbl := e_tbl_mem (List.mem_of_getElem? (i := 1014) (by decide +kernel)) rfl
theorem m_584 : Cond.code yX4_recall cX4_recall 6 (some .int) ∈ e_tbl := e_tbl_mem (List.mem_of_getElem? (i := 1018) (by decide +kernel)) rfl
theorem m_585 : Cond.code yX4_middle cX4_middle 8 (some .int) ∈ e_tbl := e_tbl_mem (List.mem_of_getElem? (i := 1022) (by decide +kernel)) rfl
theorem m_586 : Cond.code yX4_edge cX4_edge 6 (some .int) ∈ e_tbl := e_tbl_mem (List.mem_of_getElem? (i := 1026) (by decide +kernel)) rfl
theorem m_587 : Cond.code yX4_part cX4_part 2 (some .long) ∈ e_tbl := e_tbl_mem (List.mem_of_getElem? (i := 1030) (by decide +kernel)) rfl
theorem m_588 : Cond.code yX4_count cX4_count 2 (some .int) ∈ e_tbl := e_tbl_mem (List.mem_of_getElem? (i := 1035) (by decide +kernel)) rfl
theorem m_589 : Cond.code yX4_digest cX4_digest 6 (some .long) ∈ e_tbl := e_tbl_mem (List.mem_of_getElem? (i := 1039) (by decide +kernel)) rfl
theorem inE0 : ∀ w ∈ wsX00, w ∈ e_tbl := by decide +kernel
theorem inE1 : ∀ w ∈ wsX10, w ∈ e_tbl := by decide +kernel
theorem inE2 : ∀ w ∈ wsX20, w ∈ e_tbl := by decide +kernel
theorem inE3 : ∀ w ∈ wsX30, w ∈ e_tbl := by decide +kernel
theorem inE4 : ∀ w ∈ wsX40, w ∈ e_tbl := by decide +kernel
theorem g_X0_becomeLike : yX0_becomeLike.cls ≠ "java/lang/invoke/MethodHandle" ∧ yX0_becomeLike.cls ≠ "java/lang/invoke/VarHandle" ∧ (parseMethodDescriptor yX0_becomeLike.desc).map (fun d => d.parameters.length) = some 1 := by decide +kernel
theorem g_X0_worthOf : yX0_worthOf.cls ≠ "java/lang/invoke/MethodHandle" ∧ yX0_worthOf.cls ≠ "java/lang/invoke/VarHandle" ∧ (parseMethodDescriptor yX0_worthOf.desc).map (fun d => d.parameters.length) = some 2 := by decide +kernel
theorem g_X0_wagesFor : yX0_wagesFor.cls ≠ "java/lang/invoke/MethodHandle" ∧ yX0_wagesFor.cls ≠ "java/lang/invoke/VarHandle" ∧ (parseMethodDescriptor yX0_wagesFor.desc).map (fun d => d.parameters.length) = some 1 := by decide +kernel
theorem g_X0_gainBy : yX0_gainBy.cls ≠ "java/lang/invoke/MethodHandle" ∧ yX0_gainBy.cls ≠ "java/lang/invoke/VarHandle" ∧ (parseMethodDescriptor yX0_gainBy.desc).map (fun d => d.parameters.length) = some 2 := by decide +kernel
theorem g_X0_accepts : yX0_accepts.cls ≠ "java/lang/invoke/MethodHandle" ∧ yX0_accepts.cls ≠ "java/lang/invoke/VarHandle" ∧ (parseMethodDescriptor yX0_accepts.desc).map (fun d => d.parameters.length) = some 2 := by decide +kernel
theorem g_X0_mixInto : yX0_mixInto.cls ≠ "java/lang/invoke/MethodHandle" ∧ yX0_mixInto.cls ≠ "java/lang/invoke/VarHandle" ∧ (parseMethodDescriptor yX0_mixInto.desc).map (fun d => d.parameters.length) = some 1 := by decide +kernel
theorem g_X1_seat : yX1_seat.cls ≠ "java/lang/invoke/MethodHandle" ∧ yX1_seat.cls ≠ "java/lang/invoke/VarHandle" ∧ (parseMethodDescriptor yX1_seat.desc).map (fun d => d.parameters.length) = some 3 := by decide +kernel
theorem g_X1_agree : yX1_agree.cls ≠ "java/lang/invoke/MethodHandle" ∧ yX1_agree.cls ≠ "java/lang/invoke/VarHandle" ∧ (parseMethodDescriptor yX1_agree.desc).map (fun d => d.parameters.length) = some 3 := by decide +kernel
theorem g_X1_multiplyGains : yX1_multiplyGains.cls ≠ "java/lang/invoke/MethodHandle" ∧ yX1_multiplyGains.cls ≠ "java/lang/invoke/VarHandle" ∧ (parseMethodDescriptor yX1_multiplyGains.desc).map (fun d => d.parameters.length) = some 0 := by decide +kernel
theorem g_X1_offerInTurns : yX1_offerInTurns.cls ≠ "java/lang/invoke/MethodHandle" ∧ yX1_offerInTurns.cls ≠ "java/lang/invoke/VarHandle" ∧ (parseMethodDescriptor yX1_offerInTurns.desc).map (fun d => d.parameters.length) = some 2 := by decide +kernel
theorem g_X1_byGoingOn : yX1_byGoingOn.cls ≠ "java/lang/invoke/MethodHandle" ∧ yX1_byGoingOn.cls ≠ "java/lang/invoke/VarHandle" ∧ (parseMethodDescriptor yX1_byGoingOn.desc).map (fun d => d.parameters.length) = some 3 := by decide +kernel
theorem g_X1_drawLots : yX1_drawLots.cls ≠ "java/lang/invoke/MethodHandle" ∧ yX1_drawLots.cls ≠ "java/lang/invoke/VarHandle" ∧ (parseMethodDescriptor yX1_drawLots.desc).map (fun d => d.parameters.length) = some 0 := by decide +kernel
theorem g_X1_mostFor : yX1_mostFor.cls ≠ "java/lang/invoke/MethodHandle" ∧ yX1_mostFor.cls ≠ "java/lang/invoke/VarHandle" ∧ (parseMethodDescriptor yX1_mostFor.desc).map (fun d => d.parameters.length) = some 2 := by decide +kernel
theorem g_X1_follow : yX1_follow.cls ≠ "java/lang/invoke/MethodHandle" ∧ yX1_follow.cls ≠ "java/lang/invoke/VarHandle" ∧ (parseMethodDescriptor yX1_follow.desc).map (fun d => d.parameters.length) = some 1 := by decide +kernel
theorem g_X1_nearest : yX1_nearest.cls ≠ "java/lang/invoke/MethodHandle" ∧ yX1_nearest.cls ≠ "java/lang/invoke/VarHandle" ∧ (parseMethodDescriptor yX1_nearest.desc).map (fun d => d.parameters.length) = some 1 := by decide +kernel
theorem g_X2_append : yX2_append.cls ≠ "java/lang/invoke/MethodHandle" ∧ yX2_append.cls ≠ "java/lang/invoke/VarHandle" ∧ (parseMethodDescriptor yX2_append.desc).map (fun d => d.parameters.length) = some 1 := by decide +kernel
theorem g_X2_clear : yX2_clear.cls ≠ "java/lang/invoke/MethodHandle" ∧ yX2_clear.cls ≠ "java/lang/invoke/VarHandle" ∧ (parseMethodDescriptor yX2_clear.desc).map (fun d => d.parameters.length) = some 0 := by decide +kernel
theorem g_X2_mixInto : yX2_mixInto.cls ≠ "java/lang/invoke/MethodHandle" ∧ yX2_mixInto.cls ≠ "java/lang/invoke/VarHandle" ∧ (parseMethodDescriptor yX2_mixInto.desc).map (fun d => d.parameters.length) = some 1 := by decide +kernel
theorem g_X2_compile : yX2_compile.cls ≠ "java/lang/invoke/MethodHandle" ∧ yX2_compile.cls ≠ "java/lang/invoke/VarHandle" ∧ (parseMethodDescriptor yX2_compile.desc).map (fun d => d.parameters.length) = some 0 := by decide +kernel
theorem g_X2_spoil : yX2_spoil.cls ≠ "java/lang/invoke/MethodHandle" ∧ yX2_spoil.cls ≠ "java/lang/invoke/VarHandle" ∧ (parseMethodDescriptor yX2_spoil.desc).map (fun d => d.parameters.length) = some 2 := by decide +kernel
theorem g_X2_emit : yX2_emit.cls ≠ "java/lang/invoke/MethodHandle" ∧ yX2_emit.cls ≠ "java/lang/invoke/VarHandle" ∧ (parseMethodDescriptor yX2_emit.desc).map (fun d => d.parameters.length) = some 2 := by decide +kernel
theorem g_X2_ahead : yX2_ahead.cls ≠ "java/lang/invoke/MethodHandle" ∧ yX2_ahead.cls ≠ "java/lang/invoke/VarHandle" ∧ (parseMethodDescriptor yX2_ahead.desc).map (fun d => d.parameters.length) = some 0 := by decide +kernel
theorem g_X2_readLevel : yX2_readLevel.cls ≠ "java/lang/invoke/MethodHandle" ∧ yX2_readLevel.cls ≠ "java/lang/invoke/VarHandle" ∧ (parseMethodDescriptor yX2_readLevel.desc).map (fun d => d.parameters.length) = some 2 := by decide +kernel
theorem g_X2_joins : yX2_joins.cls ≠ "java/lang/invoke/MethodHandle" ∧ yX2_joins.cls ≠ "java/lang/invoke/VarHandle" ∧ (parseMethodDescriptor yX2_joins.desc).map (fun d => d.parameters.length) = some 2 := by decide +kernel
theorem g_X2_readUnit : yX2_readUnit.cls ≠ "java/lang/invoke/MethodHandle" ∧ yX2_readUnit.cls ≠ "java/lang/invoke/VarHandle" ∧ (parseMethodDescriptor yX2_readUnit.desc).map (fun d => d.parameters.length) = some 1 := by decide +kernel
theorem g_X2_readPlain : yX2_readPlain.cls ≠ "java/lang/invoke/MethodHandle" ∧ yX2_readPlain.cls ≠ "java/lang/invoke/VarHandle" ∧ (parseMethodDescriptor yX2_readPlain.desc).map (fun d => d.parameters.length) = some 2 := by decide +kernel
theorem g_X2_isDigit : yX2_isDigit.cls ≠ "java/lang/invoke/MethodHandle" ∧ yX2_isDigit.cls ≠ "java/lang/invoke/VarHandle" ∧ (parseMethodDescriptor yX2_isDigit.desc).map (fun d => d.parameters.length) = some 1 := by decide +kernel
theorem g_X2_readNumber : yX2_readNumber.cls ≠ "java/lang/invoke/MethodHandle" ∧ yX2_readNumber.cls ≠ "java/lang/invoke/VarHandle" ∧ (parseMethodDescriptor yX2_readNumber.desc).map (fun d => d.parameters.length) = some 0 := by decide +kernel
theorem g_X2_readGroup : yX2_readGroup.cls ≠ "java/lang/invoke/MethodHandle" ∧ yX2_readGroup.cls ≠ "java/lang/invoke/VarHandle" ∧ (parseMethodDescriptor yX2_readGroup.desc).map (fun d => d.parameters.length) = some 1 := by decide +kernel
theorem g_X2_work : yX2_work.cls ≠ "java/lang/invoke/MethodHandle" ∧ yX2_work.cls ≠ "java/lang/invoke/VarHandle" ∧ (parseMethodDescriptor yX2_work.desc).map (fun d => d.parameters.length) = some 5 := by decide +kernel
theorem g_X2_join : yX2_join.cls ≠ "java/lang/invoke/MethodHandle" ∧ yX2_join.cls ≠ "java/lang/invoke/VarHandle" ∧ (parseMethodDescriptor yX2_join.desc).map (fun d => d.parameters.length) = some 3 := by decide +kernel
theorem g_X3_steps : yX3_steps.cls ≠ "java/lang/invoke/MethodHandle" ∧ yX3_steps.cls ≠ "java/lang/invoke/VarHandle" ∧ (parseMethodDescriptor yX3_steps.desc).map (fun d => d.parameters.length) = some 1 := by decide +kernel
theorem g_X3_envoy : yX3_envoy.cls ≠ "java/lang/invoke/MethodHandle" ∧ yX3_envoy.cls ≠ "java/lang/invoke/VarHandle" ∧ (parseMethodDescriptor yX3_envoy.desc).map (fun d => d.parameters.length) = some 1 := by decide +kernel
theorem g_X3_put : yX3_put.cls ≠ "java/lang/invoke/MethodHandle" ∧ yX3_put.cls ≠ "java/lang/invoke/VarHandle" ∧ (parseMethodDescriptor yX3_put.desc).map (fun d => d.parameters.length) = some 4 := by decide +kernel
theorem g_X3_worth : yX3_worth.cls ≠ "java/lang/invoke/MethodHandle" ∧ yX3_worth.cls ≠ "java/lang/invoke/VarHandle" ∧ (parseMethodDescriptor yX3_worth.desc).map (fun d => d.parameters.length) = some 3 := by decide +kernel
theorem g_X3_takes : yX3_takes.cls ≠ "java/lang/invoke/MethodHandle" ∧ yX3_takes.cls ≠ "java/lang/invoke/VarHandle" ∧ (parseMethodDescriptor yX3_takes.desc).map (fun d => d.parameters.length) = some 3 := by decide +kernel
theorem g_X3_set : yX3_set.cls ≠ "java/lang/invoke/MethodHandle" ∧ yX3_set.cls ≠ "java/lang/invoke/VarHandle" ∧ (parseMethodDescriptor yX3_set.desc).map (fun d => d.parameters.length) = some 2 := by decide +kernel
theorem g_X3_lot : yX3_lot.cls ≠ "java/lang/invoke/MethodHandle" ∧ yX3_lot.cls ≠ "java/lang/invoke/VarHandle" ∧ (parseMethodDescriptor yX3_lot.desc).map (fun d => d.parameters.length) = some 2 := by decide +kernel
theorem g_X3_write : yX3_write.cls ≠ "java/lang/invoke/MethodHandle" ∧ yX3_write.cls ≠ "java/lang/invoke/VarHandle" ∧ (parseMethodDescriptor yX3_write.desc).map (fun d => d.parameters.length) = some 1 := by decide +kernel
theorem g_X3_erase : yX3_erase.cls ≠ "java/lang/invoke/MethodHandle" ∧ yX3_erase.cls ≠ "java/lang/invoke/VarHandle" ∧ (parseMethodDescriptor yX3_erase.desc).map (fun d => d.parameters.length) = some 0 := by decide +kernel
theorem g_X3_fault : yX3_fault.cls ≠ "java/lang/invoke/MethodHandle" ∧ yX3_fault.cls ≠ "java/lang/invoke/VarHandle" ∧ (parseMethodDescriptor yX3_fault.desc).map (fun d => d.parameters.length) = some 0 := by decide +kernel
theorem g_X3_settle : yX3_settle.cls ≠ "java/lang/invoke/MethodHandle" ∧ yX3_settle.cls ≠ "java/lang/invoke/VarHandle" ∧ (parseMethodDescriptor yX3_settle.desc).map (fun d => d.parameters.length) = some 2 := by decide +kernel
theorem g_X3_round : yX3_round.cls ≠ "java/lang/invoke/MethodHandle" ∧ yX3_round.cls ≠ "java/lang/invoke/VarHandle" ∧ (parseMethodDescriptor yX3_round.desc).map (fun d => d.parameters.length) = some 2 := by decide +kernel
theorem g_X3_has : yX3_has.cls ≠ "java/lang/invoke/MethodHandle" ∧ yX3_has.cls ≠ "java/lang/invoke/VarHandle" ∧ (parseMethodDescriptor yX3_has.desc).map (fun d => d.parameters.length) = some 3 := by decide +kernel
theorem g_X3_best : yX3_best.cls ≠ "java/lang/invoke/MethodHandle" ∧ yX3_best.cls ≠ "java/lang/invoke/VarHandle" ∧ (parseMethodDescriptor yX3_best.desc).map (fun d => d.parameters.length) = some 2 := by decide +kernel
theorem g_X3_rest : yX3_rest.cls ≠ "java/lang/invoke/MethodHandle" ∧ yX3_rest.cls ≠ "java/lang/invoke/VarHandle" ∧ (parseMethodDescriptor yX3_rest.desc).map (fun d => d.parameters.length) = some 1 := by decide +kernel
theorem g_X3_lose : yX3_lose.cls ≠ "java/lang/invoke/MethodHandle" ∧ yX3_lose.cls ≠ "java/lang/invoke/VarHandle" ∧ (parseMethodDescriptor yX3_lose.desc).map (fun d => d.parameters.length) = some 1 := by decide +kernel
theorem g_X3_weight : yX3_weight.cls ≠ "java/lang/invoke/MethodHandle" ∧ yX3_weight.cls ≠ "java/lang/invoke/VarHandle" ∧ (parseMethodDescriptor yX3_weight.desc).map (fun d => d.parameters.length) = some 3 := by decide +kernel
theorem g_X3_thought : yX3_thought.cls ≠ "java/lang/invoke/MethodHandle" ∧ yX3_thought.cls ≠ "java/lang/invoke/VarHandle" ∧ (parseMethodDescriptor yX3_thought.desc).map (fun d => d.parameters.length) = some 1 := by decide +kernel
theorem g_X3_paid : yX3_paid.cls ≠ "java/lang/invoke/MethodHandle" ∧ yX3_paid.cls ≠ "java/lang/invoke/VarHandle" ∧ (parseMethodDescriptor yX3_paid.desc).map (fun d => d.parameters.length) = some 3 := by decide +kernel
theorem g_X3_hard : yX3_hard.cls ≠ "java/lang/invoke/MethodHandle" ∧ yX3_hard.cls ≠ "java/lang/invoke/VarHandle" ∧ (parseMethodDescriptor yX3_hard.desc).map (fun d => d.parameters.length) = some 3 := by decide +kernel
theorem g_X3_committee : yX3_committee.cls ≠ "java/lang/invoke/MethodHandle" ∧ yX3_committee.cls ≠ "java/lang/invoke/VarHandle" ∧ (parseMethodDescriptor yX3_committee.desc).map (fun d => d.parameters.length) = some 3 := by decide +kernel
theorem g_X3_recall : yX3_recall.cls ≠ "java/lang/invoke/MethodHandle" ∧ yX3_recall.cls ≠ "java/lang/invoke/VarHandle" ∧ (parseMethodDescriptor yX3_recall.desc).map (fun d => d.parameters.length) = some 3 := by decide +kernel
theorem g_X3_middle : yX3_middle.cls ≠ "java/lang/invoke/MethodHandle" ∧ yX3_middle.cls ≠ "java/lang/invoke/VarHandle" ∧ (parseMethodDescriptor yX3_middle.desc).map (fun d => d.parameters.length) = some 3 := by decide +kernel
theorem g_X3_edge : yX3_edge.cls ≠ "java/lang/invoke/MethodHandle" ∧ yX3_edge.cls ≠ "java/lang/invoke/VarHandle" ∧ (parseMethodDescriptor yX3_edge.desc).map (fun d => d.parameters.length) = some 1 := by decide +kernel
theorem g_X3_part : yX3_part.cls ≠ "java/lang/invoke/MethodHandle" ∧ yX3_part.cls ≠ "java/lang/invoke/VarHandle" ∧ (parseMethodDescriptor yX3_part.desc).map (fun d => d.parameters.length) = some 1 := by decide +kernel
theorem g_X3_count : yX3_count.cls ≠ "java/lang/invoke/MethodHandle" ∧ yX3_count.cls ≠ "java/lang/invoke/VarHandle" ∧ (parseMethodDescriptor yX3_count.desc).map (fun d => d.parameters.length) = some 1 := by decide +kernel
theorem g_X3_digest : yX3_digest.cls ≠ "java/lang/invoke/MethodHandle" ∧ yX3_digest.cls ≠ "java/lang/invoke/VarHandle" ∧ (parseMethodDescriptor yX3_digest.desc).map (fun d => d.parameters.length) = some 0 := by decide +kernel
theorem g_X3_isSide : yX3_isSide.cls ≠ "java/lang/invoke/MethodHandle" ∧ yX3_isSide.cls ≠ "java/lang/invoke/VarHandle" ∧ (parseMethodDescriptor yX3_isSide.desc).map (fun d => d.parameters.length) = some 1 := by decide +kernel
theorem g_X3_isEnvoy : yX3_isEnvoy.cls ≠ "java/lang/invoke/MethodHandle" ∧ yX3_isEnvoy.cls ≠ "java/lang/invoke/VarHandle" ∧ (parseMethodDescriptor yX3_isEnvoy.desc).map (fun d => d.parameters.length) = some 2 := by decide +kernel
theorem g_X3_isPair : yX3_isPair.cls ≠ "java/lang/invoke/MethodHandle" ∧ yX3_isPair.cls ≠ "java/lang/invoke/VarHandle" ∧ (parseMethodDescriptor yX3_isPair.desc).map (fun d => d.parameters.length) = some 2 := by decide +kernel
theorem g_X3_envoyAt : yX3_envoyAt.cls ≠ "java/lang/invoke/MethodHandle" ∧ yX3_envoyAt.cls ≠ "java/lang/invoke/VarHandle" ∧ (parseMethodDescriptor yX3_envoyAt.desc).map (fun d => d.parameters.length) = some 2 := by decide +kernel
theorem g_X3_cell : yX3_cell.cls ≠ "java/lang/invoke/MethodHandle" ∧ yX3_cell.cls ≠ "java/lang/invoke/VarHandle" ∧ (parseMethodDescriptor yX3_cell.desc).map (fun d => d.parameters.length) = some 2 := by decide +kernel
theorem g_X3_changeWay : yX3_changeWay.cls ≠ "java/lang/invoke/MethodHandle" ∧ yX3_changeWay.cls ≠ "java/lang/invoke/VarHandle" ∧ (parseMethodDescriptor yX3_changeWay.desc).map (fun d => d.parameters.length) = some 1 := by decide +kernel
theorem g_X3_changeRounds : yX3_changeRounds.cls ≠ "java/lang/invoke/MethodHandle" ∧ yX3_changeRounds.cls ≠ "java/lang/invoke/VarHandle" ∧ (parseMethodDescriptor yX3_changeRounds.desc).map (fun d => d.parameters.length) = some 1 := by decide +kernel
theorem g_X3_changeDelay : yX3_changeDelay.cls ≠ "java/lang/invoke/MethodHandle" ∧ yX3_changeDelay.cls ≠ "java/lang/invoke/VarHandle" ∧ (parseMethodDescriptor yX3_changeDelay.desc).map (fun d => d.parameters.length) = some 1 := by decide +kernel
theorem g_X3_meet : yX3_meet.cls ≠ "java/lang/invoke/MethodHandle" ∧ yX3_meet.cls ≠ "java/lang/invoke/VarHandle" ∧ (parseMethodDescriptor yX3_meet.desc).map (fun d => d.parameters.length) = some 2 := by decide +kernel
theorem g_X3_conclude : yX3_conclude.cls ≠ "java/lang/invoke/MethodHandle" ∧ yX3_conclude.cls ≠ "java/lang/invoke/VarHandle" ∧ (parseMethodDescriptor yX3_conclude.desc).map (fun d => d.parameters.length) = some 0 := by decide +kernel
theorem g_X3_votesFor : yX3_votesFor.cls ≠ "java/lang/invoke/MethodHandle" ∧ yX3_votesFor.cls ≠ "java/lang/invoke/VarHandle" ∧ (parseMethodDescriptor yX3_votesFor.desc).map (fun d => d.parameters.length) = some 2 := by decide +kernel
theorem g_X3_settleAll : yX3_settleAll.cls ≠ "java/lang/invoke/MethodHandle" ∧ yX3_settleAll.cls ≠ "java/lang/invoke/VarHandle" ∧ (parseMethodDescriptor yX3_settleAll.desc).map (fun d => d.parameters.length) = some 0 := by decide +kernel
theorem g_X3_settleItself : yX3_settleItself.cls ≠ "java/lang/invoke/MethodHandle" ∧ yX3_settleItself.cls ≠ "java/lang/invoke/VarHandle" ∧ (parseMethodDescriptor yX3_settleItself.desc).map (fun d => d.parameters.length) = some 1 := by decide +kernel
theorem g_X3_scale : yX3_scale.cls ≠ "java/lang/invoke/MethodHandle" ∧ yX3_scale.cls ≠ "java/lang/invoke/VarHandle" ∧ (parseMethodDescriptor yX3_scale.desc).map (fun d => d.parameters.length) = some 0 := by decide +kernel
theorem g_X3_holdsUnsettled : yX3_holdsUnsettled.cls ≠ "java/lang/invoke/MethodHandle" ∧ yX3_holdsUnsettled.cls ≠ "java/lang/invoke/VarHandle" ∧ (parseMethodDescriptor yX3_holdsUnsettled.desc).map (fun d => d.parameters.length) = some 2 := by decide +kernel
theorem g_X3_holdsBy : yX3_holdsBy.cls ≠ "java/lang/invoke/MethodHandle" ∧ yX3_holdsBy.cls ≠ "java/lang/invoke/VarHandle" ∧ (parseMethodDescriptor yX3_holdsBy.desc).map (fun d => d.parameters.length) = some 3 := by decide +kernel
theorem g_X3_holds : yX3_holds.cls ≠ "java/lang/invoke/MethodHandle" ∧ yX3_holds.cls ≠ "java/lang/invoke/VarHandle" ∧ (parseMethodDescriptor yX3_holds.desc).map (fun d => d.parameters.length) = some 4 := by decide +kernel
theorem g_X3_holdsNow : yX3_holdsNow.cls ≠ "java/lang/invoke/MethodHandle" ∧ yX3_holdsNow.cls ≠ "java/lang/invoke/VarHandle" ∧ (parseMethodDescriptor yX3_holdsNow.desc).map (fun d => d.parameters.length) = some 2 := by decide +kernel
theorem g_X3_holdsAgainst : yX3_holdsAgainst.cls ≠ "java/lang/invoke/MethodHandle" ∧ yX3_holdsAgainst.cls ≠ "java/lang/invoke/VarHandle" ∧ (parseMethodDescriptor yX3_holdsAgainst.desc).map (fun d => d.parameters.length) = some 3 := by decide +kernel
theorem g_X3_holdAll : yX3_holdAll.cls ≠ "java/lang/invoke/MethodHandle" ∧ yX3_holdAll.cls ≠ "java/lang/invoke/VarHandle" ∧ (parseMethodDescriptor yX3_holdAll.desc).map (fun d => d.parameters.length) = some 0 := by decide +kernel
theorem g_X3_isRest : yX3_isRest.cls ≠ "java/lang/invoke/MethodHandle" ∧ yX3_isRest.cls ≠ "java/lang/invoke/VarHandle" ∧ (parseMethodDescriptor yX3_isRest.desc).map (fun d => d.parameters.length) = some 2 := by decide +kernel
theorem g_X3_isLosingRest : yX3_isLosingRest.cls ≠ "java/lang/invoke/MethodHandle" ∧ yX3_isLosingRest.cls ≠ "java/lang/invoke/VarHandle" ∧ (parseMethodDescriptor yX3_isLosingRest.desc).map (fun d => d.parameters.length) = some 2 := by decide +kernel
theorem g_X3_restAt : yX3_restAt.cls ≠ "java/lang/invoke/MethodHandle" ∧ yX3_restAt.cls ≠ "java/lang/invoke/VarHandle" ∧ (parseMethodDescriptor yX3_restAt.desc).map (fun d => d.parameters.length) = some 1 := by decide +kernel
theorem g_X3_sumOfWeights : yX3_sumOfWeights.cls ≠ "java/lang/invoke/MethodHandle" ∧ yX3_sumOfWeights.cls ≠ "java/lang/invoke/VarHandle" ∧ (parseMethodDescriptor yX3_sumOfWeights.desc).map (fun d => d.parameters.length) = some 1 := by decide +kernel
theorem g_X3_weighed : yX3_weighed.cls ≠ "java/lang/invoke/MethodHandle" ∧ yX3_weighed.cls ≠ "java/lang/invoke/VarHandle" ∧ (parseMethodDescriptor yX3_weighed.desc).map (fun d => d.parameters.length) = some 2 := by decide +kernel
theorem g_X3_tellFraction : yX3_tellFraction.cls ≠ "java/lang/invoke/MethodHandle" ∧ yX3_tellFraction.cls ≠ "java/lang/invoke/VarHandle" ∧ (parseMethodDescriptor yX3_tellFraction.desc).map (fun d => d.parameters.length) = some 2 := by decide +kernel
theorem g_X3_greatestDivisor : yX3_greatestDivisor.cls ≠ "java/lang/invoke/MethodHandle" ∧ yX3_greatestDivisor.cls ≠ "java/lang/invoke/VarHandle" ∧ (parseMethodDescriptor yX3_greatestDivisor.desc).map (fun d => d.parameters.length) = some 2 := by decide +kernel
theorem g_X4_in : yX4_in.cls ≠ "java/lang/invoke/MethodHandle" ∧ yX4_in.cls ≠ "java/lang/invoke/VarHandle" ∧ (parseMethodDescriptor yX4_in.desc).map (fun d => d.parameters.length) = some 3 := by decide +kernel
theorem g_X4_isSide : yX4_isSide.cls ≠ "java/lang/invoke/MethodHandle" ∧ yX4_isSide.cls ≠ "java/lang/invoke/VarHandle" ∧ (parseMethodDescriptor yX4_isSide.desc).map (fun d => d.parameters.length) = some 1 := by decide +kernel
theorem g_X4_isMan : yX4_isMan.cls ≠ "java/lang/invoke/MethodHandle" ∧ yX4_isMan.cls ≠ "java/lang/invoke/VarHandle" ∧ (parseMethodDescriptor yX4_isMan.desc).map (fun d => d.parameters.length) = some 2 := by decide +kernel
theorem g_X4_of : yX4_of.cls ≠ "java/lang/invoke/MethodHandle" ∧ yX4_of.cls ≠ "java/lang/invoke/VarHandle" ∧ (parseMethodDescriptor yX4_of.desc).map (fun d => d.parameters.length) = some 3 := by decide +kernel
theorem g_X4_steps : yX4_steps.cls ≠ "java/lang/invoke/MethodHandle" ∧ yX4_steps.cls ≠ "java/lang/invoke/VarHandle" ∧ (parseMethodDescriptor yX4_steps.desc).map (fun d => d.parameters.length) = some 1 := by decide +kernel
theorem g_X4_envoy : yX4_envoy.cls ≠ "java/lang/invoke/MethodHandle" ∧ yX4_envoy.cls ≠ "java/lang/invoke/VarHandle" ∧ (parseMethodDescriptor yX4_envoy.desc).map (fun d => d.parameters.length) = some 1 := by decide +kernel
theorem g_X4_isNumber : yX4_isNumber.cls ≠ "java/lang/invoke/MethodHandle" ∧ yX4_isNumber.cls ≠ "java/lang/invoke/VarHandle" ∧ (parseMethodDescriptor yX4_isNumber.desc).map (fun d => d.parameters.length) = some 2 := by decide +kernel
theorem g_X4_put : yX4_put.cls ≠ "java/lang/invoke/MethodHandle" ∧ yX4_put.cls ≠ "java/lang/invoke/VarHandle" ∧ (parseMethodDescriptor yX4_put.desc).map (fun d => d.parameters.length) = some 4 := by decide +kernel
theorem g_X4_worthOf : yX4_worthOf.cls ≠ "java/lang/invoke/MethodHandle" ∧ yX4_worthOf.cls ≠ "java/lang/invoke/VarHandle" ∧ (parseMethodDescriptor yX4_worthOf.desc).map (fun d => d.parameters.length) = some 3 := by decide +kernel
theorem g_X4_paidTo : yX4_paidTo.cls ≠ "java/lang/invoke/MethodHandle" ∧ yX4_paidTo.cls ≠ "java/lang/invoke/VarHandle" ∧ (parseMethodDescriptor yX4_paidTo.desc).map (fun d => d.parameters.length) = some 3 := by decide +kernel
theorem g_X4_doesTake : yX4_doesTake.cls ≠ "java/lang/invoke/MethodHandle" ∧ yX4_doesTake.cls ≠ "java/lang/invoke/VarHandle" ∧ (parseMethodDescriptor yX4_doesTake.desc).map (fun d => d.parameters.length) = some 3 := by decide +kernel
theorem g_X4_worth : yX4_worth.cls ≠ "java/lang/invoke/MethodHandle" ∧ yX4_worth.cls ≠ "java/lang/invoke/VarHandle" ∧ (parseMethodDescriptor yX4_worth.desc).map (fun d => d.parameters.length) = some 3 := by decide +kernel
theorem g_X4_takes : yX4_takes.cls ≠ "java/lang/invoke/MethodHandle" ∧ yX4_takes.cls ≠ "java/lang/invoke/VarHandle" ∧ (parseMethodDescriptor yX4_takes.desc).map (fun d => d.parameters.length) = some 3 := by decide +kernel
theorem g_X4_set : yX4_set.cls ≠ "java/lang/invoke/MethodHandle" ∧ yX4_set.cls ≠ "java/lang/invoke/VarHandle" ∧ (parseMethodDescriptor yX4_set.desc).map (fun d => d.parameters.length) = some 2 := by decide +kernel
theorem g_X4_lot : yX4_lot.cls ≠ "java/lang/invoke/MethodHandle" ∧ yX4_lot.cls ≠ "java/lang/invoke/VarHandle" ∧ (parseMethodDescriptor yX4_lot.desc).map (fun d => d.parameters.length) = some 2 := by decide +kernel
theorem g_X4_write : yX4_write.cls ≠ "java/lang/invoke/MethodHandle" ∧ yX4_write.cls ≠ "java/lang/invoke/VarHandle" ∧ (parseMethodDescriptor yX4_write.desc).map (fun d => d.parameters.length) = some 1 := by decide +kernel
theorem g_X4_erase : yX4_erase.cls ≠ "java/lang/invoke/MethodHandle" ∧ yX4_erase.cls ≠ "java/lang/invoke/VarHandle" ∧ (parseMethodDescriptor yX4_erase.desc).map (fun d => d.parameters.length) = some 0 := by decide +kernel
theorem g_X4_ahead : yX4_ahead.cls ≠ "java/lang/invoke/MethodHandle" ∧ yX4_ahead.cls ≠ "java/lang/invoke/VarHandle" ∧ (parseMethodDescriptor yX4_ahead.desc).map (fun d => d.parameters.length) = some 0 := by decide +kernel
theorem g_X4_rank : yX4_rank.cls ≠ "java/lang/invoke/MethodHandle" ∧ yX4_rank.cls ≠ "java/lang/invoke/VarHandle" ∧ (parseMethodDescriptor yX4_rank.desc).map (fun d => d.parameters.length) = some 1 := by decide +kernel
theorem g_X4_workOut : yX4_workOut.cls ≠ "java/lang/invoke/MethodHandle" ∧ yX4_workOut.cls ≠ "java/lang/invoke/VarHandle" ∧ (parseMethodDescriptor yX4_workOut.desc).map (fun d => d.parameters.length) = some 0 := by decide +kernel
theorem g_X4_workDown : yX4_workDown.cls ≠ "java/lang/invoke/MethodHandle" ∧ yX4_workDown.cls ≠ "java/lang/invoke/VarHandle" ∧ (parseMethodDescriptor yX4_workDown.desc).map (fun d => d.parameters.length) = some 1 := by decide +kernel
theorem g_X4_stands : yX4_stands.cls ≠ "java/lang/invoke/MethodHandle" ∧ yX4_stands.cls ≠ "java/lang/invoke/VarHandle" ∧ (parseMethodDescriptor yX4_stands.desc).map (fun d => d.parameters.length) = some 1 := by decide +kernel
theorem g_X4_nameOf : yX4_nameOf.cls ≠ "java/lang/invoke/MethodHandle" ∧ yX4_nameOf.cls ≠ "java/lang/invoke/VarHandle" ∧ (parseMethodDescriptor yX4_nameOf.desc).map (fun d => d.parameters.length) = some 1 := by decide +kernel
theorem g_X4_digits : yX4_digits.cls ≠ "java/lang/invoke/MethodHandle" ∧ yX4_digits.cls ≠ "java/lang/invoke/VarHandle" ∧ (parseMethodDescriptor yX4_digits.desc).map (fun d => d.parameters.length) = some 0 := by decide +kernel
theorem g_X4_reads : yX4_reads.cls ≠ "java/lang/invoke/MethodHandle" ∧ yX4_reads.cls ≠ "java/lang/invoke/VarHandle" ∧ (parseMethodDescriptor yX4_reads.desc).map (fun d => d.parameters.length) = some 0 := by decide +kernel
theorem g_X4_fault : yX4_fault.cls ≠ "java/lang/invoke/MethodHandle" ∧ yX4_fault.cls ≠ "java/lang/invoke/VarHandle" ∧ (parseMethodDescriptor yX4_fault.desc).map (fun d => d.parameters.length) = some 0 := by decide +kernel
theorem g_X4_layOut : yX4_layOut.cls ≠ "java/lang/invoke/MethodHandle" ∧ yX4_layOut.cls ≠ "java/lang/invoke/VarHandle" ∧ (parseMethodDescriptor yX4_layOut.desc).map (fun d => d.parameters.length) = some 2 := by decide +kernel
theorem g_X4_settleTwo : yX4_settleTwo.cls ≠ "java/lang/invoke/MethodHandle" ∧ yX4_settleTwo.cls ≠ "java/lang/invoke/VarHandle" ∧ (parseMethodDescriptor yX4_settleTwo.desc).map (fun d => d.parameters.length) = some 2 := by decide +kernel
theorem g_X4_settleBy : yX4_settleBy.cls ≠ "java/lang/invoke/MethodHandle" ∧ yX4_settleBy.cls ≠ "java/lang/invoke/VarHandle" ∧ (parseMethodDescriptor yX4_settleBy.desc).map (fun d => d.parameters.length) = some 2 := by decide +kernel
theorem g_X4_byProducts : yX4_byProducts.cls ≠ "java/lang/invoke/MethodHandle" ∧ yX4_byProducts.cls ≠ "java/lang/invoke/VarHandle" ∧ (parseMethodDescriptor yX4_byProducts.desc).map (fun d => d.parameters.length) = some 0 := by decide +kernel
theorem g_X4_gainOf : yX4_gainOf.cls ≠ "java/lang/invoke/MethodHandle" ∧ yX4_gainOf.cls ≠ "java/lang/invoke/VarHandle" ∧ (parseMethodDescriptor yX4_gainOf.desc).map (fun d => d.parameters.length) = some 2 := by decide +kernel
theorem g_X4_bestFor : yX4_bestFor.cls ≠ "java/lang/invoke/MethodHandle" ∧ yX4_bestFor.cls ≠ "java/lang/invoke/VarHandle" ∧ (parseMethodDescriptor yX4_bestFor.desc).map (fun d => d.parameters.length) = some 2 := by decide +kernel
theorem g_X4_byOffers : yX4_byOffers.cls ≠ "java/lang/invoke/MethodHandle" ∧ yX4_byOffers.cls ≠ "java/lang/invoke/VarHandle" ∧ (parseMethodDescriptor yX4_byOffers.desc).map (fun d => d.parameters.length) = some 0 := by decide +kernel
theorem g_X4_byRule : yX4_byRule.cls ≠ "java/lang/invoke/MethodHandle" ∧ yX4_byRule.cls ≠ "java/lang/invoke/VarHandle" ∧ (parseMethodDescriptor yX4_byRule.desc).map (fun d => d.parameters.length) = some 2 := by decide +kernel
theorem g_X4_far : yX4_far.cls ≠ "java/lang/invoke/MethodHandle" ∧ yX4_far.cls ≠ "java/lang/invoke/VarHandle" ∧ (parseMethodDescriptor yX4_far.desc).map (fun d => d.parameters.length) = some 2 := by decide +kernel
theorem g_X4_arePair : yX4_arePair.cls ≠ "java/lang/invoke/MethodHandle" ∧ yX4_arePair.cls ≠ "java/lang/invoke/VarHandle" ∧ (parseMethodDescriptor yX4_arePair.desc).map (fun d => d.parameters.length) = some 2 := by decide +kernel
theorem g_X4_settle : yX4_settle.cls ≠ "java/lang/invoke/MethodHandle" ∧ yX4_settle.cls ≠ "java/lang/invoke/VarHandle" ∧ (parseMethodDescriptor yX4_settle.desc).map (fun d => d.parameters.length) = some 2 := by decide +kernel
theorem g_X4_round : yX4_round.cls ≠ "java/lang/invoke/MethodHandle" ∧ yX4_round.cls ≠ "java/lang/invoke/VarHandle" ∧ (parseMethodDescriptor yX4_round.desc).map (fun d => d.parameters.length) = some 2 := by decide +kernel
theorem g_X4_under : yX4_under.cls ≠ "java/lang/invoke/MethodHandle" ∧ yX4_under.cls ≠ "java/lang/invoke/VarHandle" ∧ (parseMethodDescriptor yX4_under.desc).map (fun d => d.parameters.length) = some 0 := by decide +kernel
theorem g_X4_hasBy : yX4_hasBy.cls ≠ "java/lang/invoke/MethodHandle" ∧ yX4_hasBy.cls ≠ "java/lang/invoke/VarHandle" ∧ (parseMethodDescriptor yX4_hasBy.desc).map (fun d => d.parameters.length) = some 3 := by decide +kernel
theorem g_X4_hasOf : yX4_hasOf.cls ≠ "java/lang/invoke/MethodHandle" ∧ yX4_hasOf.cls ≠ "java/lang/invoke/VarHandle" ∧ (parseMethodDescriptor yX4_hasOf.desc).map (fun d => d.parameters.length) = some 3 := by decide +kernel
theorem g_X4_tell : yX4_tell.cls ≠ "java/lang/invoke/MethodHandle" ∧ yX4_tell.cls ≠ "java/lang/invoke/VarHandle" ∧ (parseMethodDescriptor yX4_tell.desc).map (fun d => d.parameters.length) = some 2 := by decide +kernel
theorem g_X4_has : yX4_has.cls ≠ "java/lang/invoke/MethodHandle" ∧ yX4_has.cls ≠ "java/lang/invoke/VarHandle" ∧ (parseMethodDescriptor yX4_has.desc).map (fun d => d.parameters.length) = some 3 := by decide +kernel
theorem g_X4_hasAgainst : yX4_hasAgainst.cls ≠ "java/lang/invoke/MethodHandle" ∧ yX4_hasAgainst.cls ≠ "java/lang/invoke/VarHandle" ∧ (parseMethodDescriptor yX4_hasAgainst.desc).map (fun d => d.parameters.length) = some 3 := by decide +kernel
theorem g_X4_bestMan : yX4_bestMan.cls ≠ "java/lang/invoke/MethodHandle" ∧ yX4_bestMan.cls ≠ "java/lang/invoke/VarHandle" ∧ (parseMethodDescriptor yX4_bestMan.desc).map (fun d => d.parameters.length) = some 2 := by decide +kernel
theorem g_X4_best : yX4_best.cls ≠ "java/lang/invoke/MethodHandle" ∧ yX4_best.cls ≠ "java/lang/invoke/VarHandle" ∧ (parseMethodDescriptor yX4_best.desc).map (fun d => d.parameters.length) = some 2 := by decide +kernel
theorem g_X4_layTable : yX4_layTable.cls ≠ "java/lang/invoke/MethodHandle" ∧ yX4_layTable.cls ≠ "java/lang/invoke/VarHandle" ∧ (parseMethodDescriptor yX4_layTable.desc).map (fun d => d.parameters.length) = some 0 := by decide +kernel
theorem g_X4_isRest : yX4_isRest.cls ≠ "java/lang/invoke/MethodHandle" ∧ yX4_isRest.cls ≠ "java/lang/invoke/VarHandle" ∧ (parseMethodDescriptor yX4_isRest.desc).map (fun d => d.parameters.length) = some 2 := by decide +kernel
theorem g_X4_restOf : yX4_restOf.cls ≠ "java/lang/invoke/MethodHandle" ∧ yX4_restOf.cls ≠ "java/lang/invoke/VarHandle" ∧ (parseMethodDescriptor yX4_restOf.desc).map (fun d => d.parameters.length) = some 1 := by decide +kernel
theorem g_X4_rest : yX4_rest.cls ≠ "java/lang/invoke/MethodHandle" ∧ yX4_rest.cls ≠ "java/lang/invoke/VarHandle" ∧ (parseMethodDescriptor yX4_rest.desc).map (fun d => d.parameters.length) = some 1 := by decide +kernel
theorem g_X4_lose : yX4_lose.cls ≠ "java/lang/invoke/MethodHandle" ∧ yX4_lose.cls ≠ "java/lang/invoke/VarHandle" ∧ (parseMethodDescriptor yX4_lose.desc).map (fun d => d.parameters.length) = some 1 := by decide +kernel
theorem g_X4_weight : yX4_weight.cls ≠ "java/lang/invoke/MethodHandle" ∧ yX4_weight.cls ≠ "java/lang/invoke/VarHandle" ∧ (parseMethodDescriptor yX4_weight.desc).map (fun d => d.parameters.length) = some 3 := by decide +kernel
theorem g_X4_thought : yX4_thought.cls ≠ "java/lang/invoke/MethodHandle" ∧ yX4_thought.cls ≠ "java/lang/invoke/VarHandle" ∧ (parseMethodDescriptor yX4_thought.desc).map (fun d => d.parameters.length) = some 1 := by decide +kernel
theorem g_X4_paid : yX4_paid.cls ≠ "java/lang/invoke/MethodHandle" ∧ yX4_paid.cls ≠ "java/lang/invoke/VarHandle" ∧ (parseMethodDescriptor yX4_paid.desc).map (fun d => d.parameters.length) = some 3 := by decide +kernel
theorem g_X4_hard : yX4_hard.cls ≠ "java/lang/invoke/MethodHandle" ∧ yX4_hard.cls ≠ "java/lang/invoke/VarHandle" ∧ (parseMethodDescriptor yX4_hard.desc).map (fun d => d.parameters.length) = some 3 := by decide +kernel
theorem g_X4_committee : yX4_committee.cls ≠ "java/lang/invoke/MethodHandle" ∧ yX4_committee.cls ≠ "java/lang/invoke/VarHandle" ∧ (parseMethodDescriptor yX4_committee.desc).map (fun d => d.parameters.length) = some 3 := by decide +kernel
theorem g_X4_recall : yX4_recall.cls ≠ "java/lang/invoke/MethodHandle" ∧ yX4_recall.cls ≠ "java/lang/invoke/VarHandle" ∧ (parseMethodDescriptor yX4_recall.desc).map (fun d => d.parameters.length) = some 3 := by decide +kernel
theorem g_X4_middle : yX4_middle.cls ≠ "java/lang/invoke/MethodHandle" ∧ yX4_middle.cls ≠ "java/lang/invoke/VarHandle" ∧ (parseMethodDescriptor yX4_middle.desc).map (fun d => d.parameters.length) = some 3 := by decide +kernel
theorem g_X4_edge : yX4_edge.cls ≠ "java/lang/invoke/MethodHandle" ∧ yX4_edge.cls ≠ "java/lang/invoke/VarHandle" ∧ (parseMethodDescriptor yX4_edge.desc).map (fun d => d.parameters.length) = some 1 := by decide +kernel
theorem g_X4_part : yX4_part.cls ≠ "java/lang/invoke/MethodHandle" ∧ yX4_part.cls ≠ "java/lang/invoke/VarHandle" ∧ (parseMethodDescriptor yX4_part.desc).map (fun d => d.parameters.length) = some 1 := by decide +kernel
theorem g_X4_count : yX4_count.cls ≠ "java/lang/invoke/MethodHandle" ∧ yX4_count.cls ≠ "java/lang/invoke/VarHandle" ∧ (parseMethodDescriptor yX4_count.desc).map (fun d => d.parameters.length) = some 1 := by decide +kernel
theorem g_X4_digest : yX4_digest.cls ≠ "java/lang/invoke/MethodHandle" ∧ yX4_digest.cls ≠ "java/lang/invoke/VarHandle" ∧ (parseMethodDescriptor yX4_digest.desc).map (fun d => d.parameters.length) = some 0 := by decide +kernel
theorem g_J0_indexOf_0f7a4 : yJ0_indexOf_0f7a4.cls ≠ "java/lang/invoke/MethodHandle" ∧ yJ0_indexOf_0f7a4.cls ≠ "java/lang/invoke/VarHandle" ∧ (parseMethodDescriptor yJ0_indexOf_0f7a4.desc).map (fun d => d.parameters.length) = some 1 := by decide +kernel
theorem g_J0_indexOf_7cf53 : yJ0_indexOf_7cf53.cls ≠ "java/lang/invoke/MethodHandle" ∧ yJ0_indexOf_7cf53.cls ≠ "java/lang/invoke/VarHandle" ∧ (parseMethodDescriptor yJ0_indexOf_7cf53.desc).map (fun d => d.parameters.length) = some 2 := by decide +kernel
theorem g_J0_isLatin1_aae02 : yJ0_isLatin1_aae02.cls ≠ "java/lang/invoke/MethodHandle" ∧ yJ0_isLatin1_aae02.cls ≠ "java/lang/invoke/VarHandle" ∧ (parseMethodDescriptor yJ0_isLatin1_aae02.desc).map (fun d => d.parameters.length) = some 0 := by decide +kernel
theorem g_J0_length_8abf5 : yJ0_length_8abf5.cls ≠ "java/lang/invoke/MethodHandle" ∧ yJ0_length_8abf5.cls ≠ "java/lang/invoke/VarHandle" ∧ (parseMethodDescriptor yJ0_length_8abf5.desc).map (fun d => d.parameters.length) = some 0 := by decide +kernel
theorem g_J0_coder_7d493 : yJ0_coder_7d493.cls ≠ "java/lang/invoke/MethodHandle" ∧ yJ0_coder_7d493.cls ≠ "java/lang/invoke/VarHandle" ∧ (parseMethodDescriptor yJ0_coder_7d493.desc).map (fun d => d.parameters.length) = some 0 := by decide +kernel
theorem g_J1_canEncode_9a6ad : yJ1_canEncode_9a6ad.cls ≠ "java/lang/invoke/MethodHandle" ∧ yJ1_canEncode_9a6ad.cls ≠ "java/lang/invoke/VarHandle" ∧ (parseMethodDescriptor yJ1_canEncode_9a6ad.desc).map (fun d => d.parameters.length) = some 1 := by decide +kernel
theorem g_J1_indexOf_4cfef : yJ1_indexOf_4cfef.cls ≠ "java/lang/invoke/MethodHandle" ∧ yJ1_indexOf_4cfef.cls ≠ "java/lang/invoke/VarHandle" ∧ (parseMethodDescriptor yJ1_indexOf_4cfef.desc).map (fun d => d.parameters.length) = some 4 := by decide +kernel
theorem g_J1_indexOfChar_4cfef : yJ1_indexOfChar_4cfef.cls ≠ "java/lang/invoke/MethodHandle" ∧ yJ1_indexOfChar_4cfef.cls ≠ "java/lang/invoke/VarHandle" ∧ (parseMethodDescriptor yJ1_indexOfChar_4cfef.desc).map (fun d => d.parameters.length) = some 4 := by decide +kernel
theorem g_J6_bitCount_0f7a4 : yJ6_bitCount_0f7a4.cls ≠ "java/lang/invoke/MethodHandle" ∧ yJ6_bitCount_0f7a4.cls ≠ "java/lang/invoke/VarHandle" ∧ (parseMethodDescriptor yJ6_bitCount_0f7a4.desc).map (fun d => d.parameters.length) = some 1 := by decide +kernel
