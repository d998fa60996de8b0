theorem dL_validate_21 : decode cL_validate 21 = .ok (.iconst 0, 1) := by decide +kernel
theorem dL_validate_22 : decode cL_validate 22 = .ok (.ireturn, 1) := by decide +kernel
theorem dH_validate_0 : decode cH_validate 0 = .ok (.iload_n 3, 1) := by decide +kernel
theorem dH_validate_1 : decode cH_validate 1 = .ok (.ifCond .lt 20, 3) := by decide +kernel
theorem dH_validate_4 : decode cH_validate 4 = .ok (.iload_n 3, 1) := by decide +kernel
theorem dH_validate_5 : decode cH_validate 5 = .ok (.bipush 7, 2) := by decide +kernel
theorem dH_validate_7 : decode cH_validate 7 = .ok (.if_icmp .gt 14, 3) := by decide +kernel
theorem dH_validate_10 : decode cH_validate 10 = .ok (.iload 4, 2) := by decide +kernel
theorem dH_validate_12 : decode cH_validate 12 = .ok (.ifCond .lt 9, 3) := by decide +kernel
theorem dH_validate_15 : decode cH_validate 15 = .ok (.iload 4, 2) := by decide +kernel
theorem dH_validate_17 : decode cH_validate 17 = .ok (.iconst 5, 1) := by decide +kernel
theorem dH_validate_18 : decode cH_validate 18 = .ok (.if_icmp .le 13, 3) := by decide +kernel
theorem dH_validate_21 : decode cH_validate 21 = .ok (.new 51, 3) := by decide +kernel
theorem dH_validate_24 : decode cH_validate 24 = .ok (.dup, 1) := by decide +kernel
theorem dH_validate_25 : decode cH_validate 25 = .ok (.ldc 171, 2) := by decide +kernel
theorem dH_validate_27 : decode cH_validate 27 = .ok (.invokespecial 55, 3) := by decide +kernel
theorem dH_validate_30 : decode cH_validate 30 = .ok (.athrow, 1) := by decide +kernel
theorem dH_validate_31 : decode cH_validate 31 = .ok (.aload_n 0, 1) := by decide +kernel
theorem dH_validate_32 : decode cH_validate 32 = .ok (.iload_n 1, 1) := by decide +kernel
theorem dH_validate_33 : decode cH_validate 33 = .ok (.invokevirtual 153, 3) := by decide +kernel
theorem dH_validate_36 : decode cH_validate 36 = .ok (.astore 5, 2) := by decide +kernel
theorem dH_validate_38 : decode cH_validate 38 = .ok (.aload 5, 2) := by decide +kernel
theorem dH_validate_40 : decode cH_validate 40 = .ok (.ifnull 11, 3) := by decide +kernel
theorem dH_validate_43 : decode cH_validate 43 = .ok (.aload_n 0, 1) := by decide +kernel
theorem dH_validate_44 : decode cH_validate 44 = .ok (.iload_n 2, 1) := by decide +kernel
theorem dH_validate_45 : decode cH_validate 45 = .ok (.invokevirtual 120, 3) := by decide +kernel
theorem dH_validate_48 : decode cH_validate 48 = .ok (.ifCond .ne 10, 3) := by decide +kernel
theorem dH_validate_51 : decode cH_validate 51 = .ok (.aload_n 0, 1) := by decide +kernel
theorem dH_validate_52 : decode cH_validate 52 = .ok (.iconst 1, 1) := by decide +kernel
theorem dH_validate_53 : decode cH_validate 53 = .ok (.iload_n 1, 1) := by decide +kernel
theorem dH_validate_54 : decode cH_validate 54 = .ok (.invokevirtual 173, 3) := by decide +kernel
theorem dH_validate_57 : decode cH_validate 57 = .ok (.ireturn, 1) := by decide +kernel
theorem dH_validate_58 : decode cH_validate 58 = .ok (.aload 5, 2) := by decide +kernel
theorem dH_validate_60 : decode cH_validate 60 = .ok (.iload_n 2, 1) := by decide +kernel
theorem dH_validate_61 : decode cH_validate 61 = .ok (.iload_n 3, 1) := by decide +kernel
theorem dH_validate_62 : decode cH_validate 62 = .ok (.aload_n 0, 1) := by decide +kernel
theorem dH_validate_63 : decode cH_validate 63 = .ok (.getfield 106, 3) := by decide +kernel
theorem dH_validate_66 : decode cH_validate 66 = .ok (.invokevirtual 176, 3) := by decide +kernel
theorem dH_validate_69 : decode cH_validate 69 = .ok (.istore 6, 2) := by decide +kernel
theorem dH_validate_71 : decode cH_validate 71 = .ok (.iload 6, 2) := by decide +kernel
theorem dH_validate_73 : decode cH_validate 73 = .ok (.iconst 2, 1) := by decide +kernel
theorem dH_validate_74 : decode cH_validate 74 = .ok (.if_icmp .ne 11, 3) := by decide +kernel
theorem dH_validate_77 : decode cH_validate 77 = .ok (.aload_n 0, 1) := by decide +kernel
theorem dH_validate_78 : decode cH_validate 78 = .ok (.iload 6, 2) := by decide +kernel
theorem dH_validate_80 : decode cH_validate 80 = .ok (.iload_n 1, 1) := by decide +kernel
theorem dH_validate_81 : decode cH_validate 81 = .ok (.invokevirtual 173, 3) := by decide +kernel
theorem dH_validate_84 : decode cH_validate 84 = .ok (.ireturn, 1) := by decide +kernel
theorem dH_validate_85 : decode cH_validate 85 = .ok (.aload 5, 2) := by decide +kernel
theorem dH_validate_87 : decode cH_validate 87 = .ok (.iconst 1, 1) := by decide +kernel
theorem dH_validate_88 : decode cH_validate 88 = .ok (.putfield 180, 3) := by decide +kernel
theorem dH_validate_91 : decode cH_validate 91 = .ok (.iload 6, 2) := by decide +kernel
theorem dH_validate_93 : decode cH_validate 93 = .ok (.ifCond .eq 11, 3) := by decide +kernel
theorem dH_validate_96 : decode cH_validate 96 = .ok (.aload_n 0, 1) := by decide +kernel
theorem dH_validate_97 : decode cH_validate 97 = .ok (.iload 6, 2) := by decide +kernel
theorem dH_validate_99 : decode cH_validate 99 = .ok (.iload_n 1, 1) := by decide +kernel
theorem dH_validate_100 : decode cH_validate 100 = .ok (.invokevirtual 173, 3) := by decide +kernel
theorem dH_validate_103 : decode cH_validate 103 = .ok (.ireturn, 1) := by decide +kernel
theorem dH_validate_104 : decode cH_validate 104 = .ok (.aload 5, 2) := by decide +kernel
theorem dH_validate_106 : decode cH_validate 106 = .ok (.getfield 167, 3) := by decide +kernel
theorem dH_validate_109 : decode cH_validate 109 = .ok (.aload_n 0, 1) := by decide +kernel
theorem dH_validate_110 : decode cH_validate 110 = .ok (.getfield 106, 3) := by decide +kernel
theorem dH_validate_113 : decode cH_validate 113 = .ok (.putfield 150, 3) := by decide +kernel
theorem dH_validate_116 : decode cH_validate 116 = .ok (.aload_n 0, 1) := by decide +kernel
theorem dH_validate_117 : decode cH_validate 117 = .ok (.aload 5, 2) := by decide +kernel
theorem dH_validate_119 : decode cH_validate 119 = .ok (.iload_n 3, 1) := by decide +kernel
theorem dH_validate_120 : decode cH_validate 120 = .ok (.iconst 4, 1) := by decide +kernel
theorem dH_validate_121 : decode cH_validate 121 = .ok (.iand, 1) := by decide +kernel
theorem dH_validate_122 : decode cH_validate 122 = .ok (.ifCond .eq 7, 3) := by decide +kernel
theorem dH_validate_125 : decode cH_validate 125 = .ok (.iconst 1, 1) := by decide +kernel
theorem dH_validate_126 : decode cH_validate 126 = .ok (.goto 4, 3) := by decide +kernel
theorem dH_validate_129 : decode cH_validate 129 = .ok (.iconst 0, 1) := by decide +kernel
theorem dH_validate_130 : decode cH_validate 130 = .ok (.aload_n 0, 1) := by decide +kernel
theorem dH_validate_131 : decode cH_validate 131 = .ok (.aload 5, 2) := by decide +kernel
theorem dH_validate_133 : decode cH_validate 133 = .ok (.iload 4, 2) := by decide +kernel
theorem dH_validate_135 : decode cH_validate 135 = .ok (.invokevirtual 183, 3) := by decide +kernel
theorem dH_validate_138 : decode cH_validate 138 = .ok (.invokevirtual 187, 3) := by decide +kernel
theorem dH_validate_141 : decode cH_validate 141 = .ok (.iconst 0, 1) := by decide +kernel
theorem dH_validate_142 : decode cH_validate 142 = .ok (.ireturn, 1) := by decide +kernel
theorem dH_refuse_0 : decode cH_refuse 0 = .ok (.aload_n 0, 1) := by decide +kernel
theorem dH_refuse_1 : decode cH_refuse 1 = .ok (.getfield 47, 3) := by decide +kernel
theorem dH_refuse_4 : decode cH_refuse 4 = .ok (.invokevirtual 85, 3) := by decide +kernel
theorem dH_refuse_7 : decode cH_refuse 7 = .ok (.aload_n 0, 1) := by decide +kernel
theorem dH_refuse_8 : decode cH_refuse 8 = .ok (.getfield 47, 3) := by decide +kernel
theorem dH_refuse_11 : decode cH_refuse 11 = .ok (.ldc_w 261, 3) := by decide +kernel
theorem dH_refuse_14 : decode cH_refuse 14 = .ok (.invokevirtual 263, 3) := by decide +kernel
theorem dH_refuse_17 : decode cH_refuse 17 = .ok (.aload_n 0, 1) := by decide +kernel
theorem dH_refuse_18 : decode cH_refuse 18 = .ok (.getfield 47, 3) := by decide +kernel
theorem dH_refuse_21 : decode cH_refuse 21 = .ok (.iload_n 1, 1) := by decide +kernel
theorem dH_refuse_22 : decode cH_refuse 22 = .ok (.invokevirtual 266, 3) := by decide +kernel
theorem dH_refuse_25 : decode cH_refuse 25 = .ok (.aload_n 0, 1) := by decide +kernel
theorem dH_refuse_26 : decode cH_refuse 26 = .ok (.getfield 47, 3) := by decide +kernel
theorem dH_refuse_29 : decode cH_refuse 29 = .ok (.ldc_w 269, 3) := by decide +kernel
theorem dH_refuse_32 : decode cH_refuse 32 = .ok (.invokevirtual 263, 3) := by decide +kernel
theorem dH_refuse_35 : decode cH_refuse 35 = .ok (.aload_n 0, 1) := by decide +kernel
theorem dH_refuse_36 : decode cH_refuse 36 = .ok (.getfield 47, 3) := by decide +kernel
theorem dH_refuse_39 : decode cH_refuse 39 = .ok (.iload_n 2, 1) := by decide +kernel
theorem dH_refuse_40 : decode cH_refuse 40 = .ok (.invokevirtual 266, 3) := by decide +kernel
theorem dH_refuse_43 : decode cH_refuse 43 = .ok (.aload_n 0, 1) := by decide +kernel
theorem dH_refuse_44 : decode cH_refuse 44 = .ok (.getfield 47, 3) := by decide +kernel
theorem dH_refuse_47 : decode cH_refuse 47 = .ok (.ldc_w 271, 3) := by decide +kernel
theorem dH_refuse_50 : decode cH_refuse 50 = .ok (.invokevirtual 263, 3) := by decide +kernel
theorem dH_refuse_53 : decode cH_refuse 53 = .ok (.iload_n 1, 1) := by decide +kernel
theorem dH_refuse_54 : decode cH_refuse 54 = .ok (.ireturn, 1) := by decide +kernel
theorem dT_addAll_0 : decode cT_addAll 0 = .ok (.iconst 0, 1) := by decide +kernel
theorem dT_addAll_1 : decode cT_addAll 1 = .ok (.istore_n 2, 1) := by decide +kernel
theorem dT_addAll_2 : decode cT_addAll 2 = .ok (.iload_n 2, 1) := by decide +kernel
theorem dT_addAll_3 : decode cT_addAll 3 = .ok (.aload_n 1, 1) := by decide +kernel
theorem dT_addAll_4 : decode cT_addAll 4 = .ok (.invokevirtual 19, 3) := by decide +kernel
theorem dT_addAll_7 : decode cT_addAll 7 = .ok (.if_icmp .ge 18, 3) := by decide +kernel
theorem dT_addAll_10 : decode cT_addAll 10 = .ok (.aload_n 0, 1) := by decide +kernel
theorem dT_addAll_11 : decode cT_addAll 11 = .ok (.aload_n 1, 1) := by decide +kernel
theorem dT_addAll_12 : decode cT_addAll 12 = .ok (.iload_n 2, 1) := by decide +kernel
theorem dT_addAll_13 : decode cT_addAll 13 = .ok (.invokevirtual 24, 3) := by decide +kernel
theorem dT_addAll_16 : decode cT_addAll 16 = .ok (.invokevirtual 28, 3) := by decide +kernel
theorem dT_addAll_19 : decode cT_addAll 19 = .ok (.iinc 2 1, 3) := by decide +kernel
theorem dT_addAll_22 : decode cT_addAll 22 = .ok (.goto (-20), 3) := by decide +kernel
theorem dT_addAll_25 : decode cT_addAll 25 = .ok (.return_, 1) := by decide +kernel
theorem dT_addNumber_0 : decode cT_addNumber 0 = .ok (.iload_n 1, 1) := by decide +kernel
theorem dT_addNumber_1 : decode cT_addNumber 1 = .ok (.ifCond .ge 7, 3) := by decide +kernel
theorem dT_addNumber_4 : decode cT_addNumber 4 = .ok (.iload_n 1, 1) := by decide +kernel
theorem dT_addNumber_5 : decode cT_addNumber 5 = .ok (.goto 5, 3) := by decide +kernel
theorem dT_addNumber_8 : decode cT_addNumber 8 = .ok (.iload_n 1, 1) := by decide +kernel
theorem dT_addNumber_9 : decode cT_addNumber 9 = .ok (.ineg, 1) := by decide +kernel
theorem dT_addNumber_10 : decode cT_addNumber 10 = .ok (.istore_n 2, 1) := by decide +kernel
theorem dT_addNumber_11 : decode cT_addNumber 11 = .ok (.iload_n 1, 1) := by decide +kernel
theorem dT_addNumber_12 : decode cT_addNumber 12 = .ok (.ifCond .ge 9, 3) := by decide +kernel
theorem dT_addNumber_15 : decode cT_addNumber 15 = .ok (.aload_n 0, 1) := by decide +kernel
theorem dT_addNumber_16 : decode cT_addNumber 16 = .ok (.bipush 45, 2) := by decide +kernel
theorem dT_addNumber_18 : decode cT_addNumber 18 = .ok (.invokevirtual 28, 3) := by decide +kernel
theorem dT_addNumber_21 : decode cT_addNumber 21 = .ok (.aload_n 0, 1) := by decide +kernel
theorem dT_addNumber_22 : decode cT_addNumber 22 = .ok (.getfield 15, 3) := by decide +kernel
theorem dT_addNumber_25 : decode cT_addNumber 25 = .ok (.istore_n 3, 1) := by decide +kernel
theorem dT_addNumber_26 : decode cT_addNumber 26 = .ok (.iconst 0, 1) := by decide +kernel
theorem dT_addNumber_27 : decode cT_addNumber 27 = .ok (.istore 4, 2) := by decide +kernel
theorem dT_addNumber_29 : decode cT_addNumber 29 = .ok (.iload 4, 2) := by decide +kernel
theorem dT_addNumber_31 : decode cT_addNumber 31 = .ok (.bipush 10, 2) := by decide +kernel
theorem dT_addNumber_33 : decode cT_addNumber 33 = .ok (.if_icmp .ge 35, 3) := by decide +kernel
theorem dT_addNumber_36 : decode cT_addNumber 36 = .ok (.iload 4, 2) := by decide +kernel
theorem dT_addNumber_38 : decode cT_addNumber 38 = .ok (.ifCond .eq 7, 3) := by decide +kernel
theorem dT_addNumber_41 : decode cT_addNumber 41 = .ok (.iload_n 2, 1) := by decide +kernel
theorem dT_addNumber_42 : decode cT_addNumber 42 = .ok (.ifCond .eq 26, 3) := by decide +kernel
theorem dT_addNumber_45 : decode cT_addNumber 45 = .ok (.aload_n 0, 1) := by decide +kernel
theorem dT_addNumber_46 : decode cT_addNumber 46 = .ok (.bipush 48, 2) := by decide +kernel
theorem dT_addNumber_48 : decode cT_addNumber 48 = .ok (.iload_n 2, 1) := by decide +kernel
theorem dT_addNumber_49 : decode cT_addNumber 49 = .ok (.bipush 10, 2) := by decide +kernel
theorem dT_addNumber_51 : decode cT_addNumber 51 = .ok (.irem, 1) := by decide +kernel
theorem dT_addNumber_52 : decode cT_addNumber 52 = .ok (.isub, 1) := by decide +kernel
theorem dT_addNumber_53 : decode cT_addNumber 53 = .ok (.i2c, 1) := by decide +kernel
theorem dT_addNumber_54 : decode cT_addNumber 54 = .ok (.invokevirtual 28, 3) := by decide +kernel
theorem dT_addNumber_57 : decode cT_addNumber 57 = .ok (.iload_n 2, 1) := by decide +kernel
theorem dT_addNumber_58 : decode cT_addNumber 58 = .ok (.bipush 10, 2) := by decide +kernel
theorem dT_addNumber_60 : decode cT_addNumber 60 = .ok (.idiv, 1) := by decide +kernel
theorem dT_addNumber_61 : decode cT_addNumber 61 = .ok (.istore_n 2, 1) := by decide +kernel
theorem dT_addNumber_62 : decode cT_addNumber 62 = .ok (.iinc 4 1, 3) := by decide +kernel
theorem dT_addNumber_65 : decode cT_addNumber 65 = .ok (.goto (-36), 3) := by decide +kernel
theorem dT_addNumber_68 : decode cT_addNumber 68 = .ok (.aload_n 0, 1) := by decide +kernel
theorem dT_addNumber_69 : decode cT_addNumber 69 = .ok (.iload_n 3, 1) := by decide +kernel
theorem dT_addNumber_70 : decode cT_addNumber 70 = .ok (.invokevirtual 32, 3) := by decide +kernel
theorem dT_addNumber_73 : decode cT_addNumber 73 = .ok (.return_, 1) := by decide +kernel
theorem dT_turnRound_0 : decode cT_turnRound 0 = .ok (.iload_n 1, 1) := by decide +kernel
theorem dT_turnRound_1 : decode cT_turnRound 1 = .ok (.istore_n 2, 1) := by decide +kernel
theorem dT_turnRound_2 : decode cT_turnRound 2 = .ok (.aload_n 0, 1) := by decide +kernel
theorem dT_turnRound_3 : decode cT_turnRound 3 = .ok (.getfield 15, 3) := by decide +kernel
theorem dT_turnRound_6 : decode cT_turnRound 6 = .ok (.iconst 1, 1) := by decide +kernel
theorem dT_turnRound_7 : decode cT_turnRound 7 = .ok (.isub, 1) := by decide +kernel
theorem dT_turnRound_8 : decode cT_turnRound 8 = .ok (.istore_n 3, 1) := by decide +kernel
theorem dT_turnRound_9 : decode cT_turnRound 9 = .ok (.iload_n 2, 1) := by decide +kernel
theorem dT_turnRound_10 : decode cT_turnRound 10 = .ok (.iload_n 3, 1) := by decide +kernel
theorem dT_turnRound_11 : decode cT_turnRound 11 = .ok (.if_icmp .ge 40, 3) := by decide +kernel
theorem dT_turnRound_14 : decode cT_turnRound 14 = .ok (.aload_n 0, 1) := by decide +kernel
theorem dT_turnRound_15 : decode cT_turnRound 15 = .ok (.getfield 9, 3) := by decide +kernel
theorem dT_turnRound_18 : decode cT_turnRound 18 = .ok (.iload_n 2, 1) := by decide +kernel
theorem dT_turnRound_19 : decode cT_turnRound 19 = .ok (.caload, 1) := by decide +kernel
theorem dT_turnRound_20 : decode cT_turnRound 20 = .ok (.istore 4, 2) := by decide +kernel
theorem dT_turnRound_22 : decode cT_turnRound 22 = .ok (.aload_n 0, 1) := by decide +kernel
theorem dT_turnRound_23 : decode cT_turnRound 23 = .ok (.getfield 9, 3) := by decide +kernel
theorem dT_turnRound_26 : decode cT_turnRound 26 = .ok (.iload_n 2, 1) := by decide +kernel
theorem dT_turnRound_27 : decode cT_turnRound 27 = .ok (.aload_n 0, 1) := by decide +kernel
theorem dT_turnRound_28 : decode cT_turnRound 28 = .ok (.getfield 9, 3) := by decide +kernel
theorem dT_turnRound_31 : decode cT_turnRound 31 = .ok (.iload_n 3, 1) := by decide +kernel
theorem dT_turnRound_32 : decode cT_turnRound 32 = .ok (.caload, 1) := by decide +kernel
theorem dT_turnRound_33 : decode cT_turnRound 33 = .ok (.castore, 1) := by decide +kernel
theorem dT_turnRound_34 : decode cT_turnRound 34 = .ok (.aload_n 0, 1) := by decide +kernel
theorem dT_turnRound_35 : decode cT_turnRound 35 = .ok (.getfield 9, 3) := by decide +kernel
theorem dT_turnRound_38 : decode cT_turnRound 38 = .ok (.iload_n 3, 1) := by decide +kernel
theorem dT_turnRound_39 : decode cT_turnRound 39 = .ok (.iload 4, 2) := by decide +kernel
theorem dT_turnRound_41 : decode cT_turnRound 41 = .ok (.castore, 1) := by decide +kernel
theorem dT_turnRound_42 : decode cT_turnRound 42 = .ok (.iinc 2 1, 3) := by decide +kernel
theorem dT_turnRound_45 : decode cT_turnRound 45 = .ok (.iinc 3 (-1), 3) := by decide +kernel
theorem dT_turnRound_48 : decode cT_turnRound 48 = .ok (.goto (-39), 3) := by decide +kernel
theorem dT_turnRound_51 : decode cT_turnRound 51 = .ok (.return_, 1) := by decide +kernel
theorem dK_judge_0 : decode cK_judge 0 = .ok (.aload_n 0, 1) := by decide +kernel
theorem dK_judge_1 : decode cK_judge 1 = .ok (.getfield 15, 3) := by decide +kernel
theorem dK_judge_4 : decode cK_judge 4 = .ok (.iconst 2, 1) := by decide +kernel
theorem dK_judge_5 : decode cK_judge 5 = .ok (.if_icmp .eq 17, 3) := by decide +kernel
theorem dK_judge_8 : decode cK_judge 8 = .ok (.aload_n 0, 1) := by decide +kernel
theorem dK_judge_9 : decode cK_judge 9 = .ok (.getfield 15, 3) := by decide +kernel
theorem dK_judge_12 : decode cK_judge 12 = .ok (.iconst 1, 1) := by decide +kernel
theorem dK_judge_13 : decode cK_judge 13 = .ok (.if_icmp .ne 11, 3) := by decide +kernel
theorem dK_judge_16 : decode cK_judge 16 = .ok (.iload_n 2, 1) := by decide +kernel
theorem dK_judge_17 : decode cK_judge 17 = .ok (.iconst 2, 1) := by decide +kernel
theorem dK_judge_18 : decode cK_judge 18 = .ok (.iand, 1) := by decide +kernel
theorem dK_judge_19 : decode cK_judge 19 = .ok (.ifCond .ne 5, 3) := by decide +kernel
theorem dK_judge_22 : decode cK_judge 22 = .ok (.iconst 2, 1) := by decide +kernel
theorem dK_judge_23 : decode cK_judge 23 = .ok (.ireturn, 1) := by decide +kernel
theorem dK_judge_24 : decode cK_judge 24 = .ok (.aload_n 0, 1) := by decide +kernel
theorem dK_judge_25 : decode cK_judge 25 = .ok (.iload_n 3, 1) := by decide +kernel
theorem dK_judge_26 : decode cK_judge 26 = .ok (.invokevirtual 44, 3) := by decide +kernel
theorem dK_judge_29 : decode cK_judge 29 = .ok (.ifCond .ne 5, 3) := by decide +kernel
theorem dK_judge_32 : decode cK_judge 32 = .ok (.iconst 3, 1) := by decide +kernel
theorem dK_judge_33 : decode cK_judge 33 = .ok (.ireturn, 1) := by decide +kernel
theorem dK_judge_34 : decode cK_judge 34 = .ok (.aload_n 0, 1) := by decide +kernel
theorem dK_judge_35 : decode cK_judge 35 = .ok (.getfield 22, 3) := by decide +kernel
theorem dK_judge_38 : decode cK_judge 38 = .ok (.iload_n 1, 1) := by decide +kernel
theorem dK_judge_39 : decode cK_judge 39 = .ok (.if_icmp .eq 5, 3) := by decide +kernel
theorem dK_judge_42 : decode cK_judge 42 = .ok (.iconst 4, 1) := by decide +kernel
theorem dK_judge_43 : decode cK_judge 43 = .ok (.ireturn, 1) := by decide +kernel
theorem dK_judge_44 : decode cK_judge 44 = .ok (.iload_n 2, 1) := by decide +kernel
theorem dK_judge_45 : decode cK_judge 45 = .ok (.iconst 1, 1) := by decide +kernel
theorem dK_judge_46 : decode cK_judge 46 = .ok (.iand, 1) := by decide +kernel
theorem dK_judge_47 : decode cK_judge 47 = .ok (.ifCond .eq 12, 3) := by decide +kernel
theorem dK_judge_50 : decode cK_judge 50 = .ok (.aload_n 0, 1) := by decide +kernel
theorem dK_judge_51 : decode cK_judge 51 = .ok (.getfield 48, 3) := by decide +kernel
theorem dK_judge_54 : decode cK_judge 54 = .ok (.ifCond .ne 5, 3) := by decide +kernel
theorem dK_judge_57 : decode cK_judge 57 = .ok (.iconst 5, 1) := by decide +kernel
theorem dK_judge_58 : decode cK_judge 58 = .ok (.ireturn, 1) := by decide +kernel
theorem dK_judge_59 : decode cK_judge 59 = .ok (.iconst 0, 1) := by decide +kernel
theorem dK_judge_60 : decode cK_judge 60 = .ok (.ireturn, 1) := by decide +kernel
theorem dH_grantFor_0 : decode cH_grantFor 0 = .ok (.aload_n 0, 1) := by decide +kernel
theorem dH_grantFor_1 : decode cH_grantFor 1 = .ok (.getfield 19, 3) := by decide +kernel
theorem dH_grantFor_4 : decode cH_grantFor 4 = .ok (.iload_n 2, 1) := by decide +kernel
theorem dH_grantFor_5 : decode cH_grantFor 5 = .ok (.baload, 1) := by decide +kernel
theorem dH_grantFor_6 : decode cH_grantFor 6 = .ok (.ifCond .eq 29, 3) := by decide +kernel
theorem dH_grantFor_9 : decode cH_grantFor 9 = .ok (.aload_n 0, 1) := by decide +kernel
theorem dH_grantFor_10 : decode cH_grantFor 10 = .ok (.aload_n 1, 1) := by decide +kernel
theorem dH_grantFor_11 : decode cH_grantFor 11 = .ok (.getfield 226, 3) := by decide +kernel
theorem dH_grantFor_14 : decode cH_grantFor 14 = .ok (.iconst 2, 1) := by decide +kernel
theorem dH_grantFor_15 : decode cH_grantFor 15 = .ok (.invokevirtual 247, 3) := by decide +kernel
theorem dH_grantFor_18 : decode cH_grantFor 18 = .ok (.ifCond .eq 17, 3) := by decide +kernel
theorem dH_grantFor_21 : decode cH_grantFor 21 = .ok (.aload_n 0, 1) := by decide +kernel
theorem dH_grantFor_22 : decode cH_grantFor 22 = .ok (.getfield 125, 3) := by decide +kernel
theorem dH_grantFor_25 : decode cH_grantFor 25 = .ok (.sipush 150, 3) := by decide +kernel
theorem dH_grantFor_28 : decode cH_grantFor 28 = .ok (.if_icmp .ge 7, 3) := by decide +kernel
theorem dH_grantFor_31 : decode cH_grantFor 31 = .ok (.iconst 1, 1) := by decide +kernel
theorem dH_grantFor_32 : decode cH_grantFor 32 = .ok (.goto 4, 3) := by decide +kernel
theorem dH_grantFor_35 : decode cH_grantFor 35 = .ok (.iconst 0, 1) := by decide +kernel
theorem dH_grantFor_36 : decode cH_grantFor 36 = .ok (.istore_n 3, 1) := by decide +kernel
theorem dH_grantFor_37 : decode cH_grantFor 37 = .ok (.iload_n 3, 1) := by decide +kernel
theorem dH_grantFor_38 : decode cH_grantFor 38 = .ok (.ifCond .eq 17, 3) := by decide +kernel
theorem dH_grantFor_41 : decode cH_grantFor 41 = .ok (.aload_n 0, 1) := by decide +kernel
theorem dH_grantFor_42 : decode cH_grantFor 42 = .ok (.iconst 2, 1) := by decide +kernel
theorem dH_grantFor_43 : decode cH_grantFor 43 = .ok (.aload_n 1, 1) := by decide +kernel
theorem dH_grantFor_44 : decode cH_grantFor 44 = .ok (.getfield 167, 3) := by decide +kernel
theorem dH_grantFor_47 : decode cH_grantFor 47 = .ok (.iload_n 2, 1) := by decide +kernel
theorem dH_grantFor_48 : decode cH_grantFor 48 = .ok (.aload_n 1, 1) := by decide +kernel
theorem dH_grantFor_49 : decode cH_grantFor 49 = .ok (.invokevirtual 130, 3) := by decide +kernel
theorem dH_grantFor_52 : decode cH_grantFor 52 = .ok (.goto 4, 3) := by decide +kernel
theorem dH_grantFor_55 : decode cH_grantFor 55 = .ok (.aconst_null, 1) := by decide +kernel
theorem dH_grantFor_56 : decode cH_grantFor 56 = .ok (.areturn, 1) := by decide +kernel
theorem dH_writeAcceptance_0 : decode cH_writeAcceptance 0 = .ok (.aload_n 1, 1) := by decide +kernel
theorem dH_writeAcceptance_1 : decode cH_writeAcceptance 1 = .ok (.getfield 167, 3) := by decide +kernel
theorem dH_writeAcceptance_4 : decode cH_writeAcceptance 4 = .ok (.astore 4, 2) := by decide +kernel
theorem dH_writeAcceptance_6 : decode cH_writeAcceptance 6 = .ok (.aload_n 0, 1) := by decide +kernel
theorem dH_writeAcceptance_7 : decode cH_writeAcceptance 7 = .ok (.getfield 47, 3) := by decide +kernel
theorem dH_writeAcceptance_10 : decode cH_writeAcceptance 10 = .ok (.invokevirtual 85, 3) := by decide +kernel
theorem dH_writeAcceptance_13 : decode cH_writeAcceptance 13 = .ok (.aload_n 0, 1) := by decide +kernel
theorem dH_writeAcceptance_14 : decode cH_writeAcceptance 14 = .ok (.getfield 47, 3) := by decide +kernel
theorem dH_writeAcceptance_17 : decode cH_writeAcceptance 17 = .ok (.ldc_w 273, 3) := by decide +kernel
theorem dH_writeAcceptance_20 : decode cH_writeAcceptance 20 = .ok (.invokevirtual 263, 3) := by decide +kernel
theorem dH_writeAcceptance_23 : decode cH_writeAcceptance 23 = .ok (.aload_n 0, 1) := by decide +kernel
theorem dH_writeAcceptance_24 : decode cH_writeAcceptance 24 = .ok (.getfield 47, 3) := by decide +kernel
theorem dH_writeAcceptance_27 : decode cH_writeAcceptance 27 = .ok (.aload 4, 2) := by decide +kernel
theorem dH_writeAcceptance_29 : decode cH_writeAcceptance 29 = .ok (.getfield 211, 3) := by decide +kernel
theorem dH_writeAcceptance_32 : decode cH_writeAcceptance 32 = .ok (.getfield 77, 3) := by decide +kernel
theorem dH_writeAcceptance_35 : decode cH_writeAcceptance 35 = .ok (.iconst 3, 1) := by decide +kernel
theorem dH_writeAcceptance_36 : decode cH_writeAcceptance 36 = .ok (.aaload, 1) := by decide +kernel
theorem dH_writeAcceptance_37 : decode cH_writeAcceptance 37 = .ok (.invokevirtual 275, 3) := by decide +kernel
theorem dH_writeAcceptance_40 : decode cH_writeAcceptance 40 = .ok (.aload_n 0, 1) := by decide +kernel
theorem dH_writeAcceptance_41 : decode cH_writeAcceptance 41 = .ok (.getfield 47, 3) := by decide +kernel
theorem dH_writeAcceptance_44 : decode cH_writeAcceptance 44 = .ok (.ldc_w 269, 3) := by decide +kernel
theorem dH_writeAcceptance_47 : decode cH_writeAcceptance 47 = .ok (.invokevirtual 263, 3) := by decide +kernel
theorem dH_writeAcceptance_50 : decode cH_writeAcceptance 50 = .ok (.iload_n 2, 1) := by decide +kernel
theorem dH_writeAcceptance_51 : decode cH_writeAcceptance 51 = .ok (.ifCond .eq 16, 3) := by decide +kernel
theorem dH_writeAcceptance_54 : decode cH_writeAcceptance 54 = .ok (.aload_n 0, 1) := by decide +kernel
theorem dH_writeAcceptance_55 : decode cH_writeAcceptance 55 = .ok (.aload 4, 2) := by decide +kernel
theorem dH_writeAcceptance_57 : decode cH_writeAcceptance 57 = .ok (.getfield 211, 3) := by decide +kernel
theorem dH_writeAcceptance_60 : decode cH_writeAcceptance 60 = .ok (.aload_n 1, 1) := by decide +kernel
theorem dH_writeAcceptance_61 : decode cH_writeAcceptance 61 = .ok (.getfield 226, 3) := by decide +kernel
theorem dH_writeAcceptance_64 : decode cH_writeAcceptance 64 = .ok (.invokevirtual 278, 3) := by decide +kernel
theorem dH_writeAcceptance_67 : decode cH_writeAcceptance 67 = .ok (.aload_n 0, 1) := by decide +kernel
theorem dH_writeAcceptance_68 : decode cH_writeAcceptance 68 = .ok (.getfield 47, 3) := by decide +kernel
theorem dH_writeAcceptance_71 : decode cH_writeAcceptance 71 = .ok (.bipush 100, 2) := by decide +kernel
theorem dH_writeAcceptance_73 : decode cH_writeAcceptance 73 = .ok (.aload 4, 2) := by decide +kernel
theorem dH_writeAcceptance_75 : decode cH_writeAcceptance 75 = .ok (.getfield 220, 3) := by decide +kernel
theorem dH_writeAcceptance_78 : decode cH_writeAcceptance 78 = .ok (.invokevirtual 282, 3) := by decide +kernel
theorem dH_writeAcceptance_81 : decode cH_writeAcceptance 81 = .ok (.aload 4, 2) := by decide +kernel
theorem dH_writeAcceptance_83 : decode cH_writeAcceptance 83 = .ok (.getfield 223, 3) := by decide +kernel
theorem dH_writeAcceptance_86 : decode cH_writeAcceptance 86 = .ok (.ifCond .eq 13, 3) := by decide +kernel
theorem dH_writeAcceptance_89 : decode cH_writeAcceptance 89 = .ok (.aload_n 0, 1) := by decide +kernel
theorem dH_writeAcceptance_90 : decode cH_writeAcceptance 90 = .ok (.getfield 47, 3) := by decide +kernel
theorem dH_writeAcceptance_93 : decode cH_writeAcceptance 93 = .ok (.bipush 108, 2) := by decide +kernel
theorem dH_writeAcceptance_95 : decode cH_writeAcceptance 95 = .ok (.iconst 1, 1) := by decide +kernel
theorem dH_writeAcceptance_96 : decode cH_writeAcceptance 96 = .ok (.invokevirtual 282, 3) := by decide +kernel
theorem dH_writeAcceptance_99 : decode cH_writeAcceptance 99 = .ok (.aload_n 0, 1) := by decide +kernel
theorem dH_writeAcceptance_100 : decode cH_writeAcceptance 100 = .ok (.getfield 47, 3) := by decide +kernel
theorem dH_writeAcceptance_103 : decode cH_writeAcceptance 103 = .ok (.bipush 110, 2) := by decide +kernel
theorem dH_writeAcceptance_105 : decode cH_writeAcceptance 105 = .ok (.aload_n 1, 1) := by decide +kernel
theorem dH_writeAcceptance_106 : decode cH_writeAcceptance 106 = .ok (.getfield 134, 3) := by decide +kernel
theorem dH_writeAcceptance_109 : decode cH_writeAcceptance 109 = .ok (.invokestatic 216, 3) := by decide +kernel
theorem dH_writeAcceptance_112 : decode cH_writeAcceptance 112 = .ok (.invokevirtual 282, 3) := by decide +kernel
theorem dH_writeAcceptance_115 : decode cH_writeAcceptance 115 = .ok (.aload_n 3, 1) := by decide +kernel
theorem dH_writeAcceptance_116 : decode cH_writeAcceptance 116 = .ok (.ifnull 16, 3) := by decide +kernel
theorem dH_writeAcceptance_119 : decode cH_writeAcceptance 119 = .ok (.aload_n 0, 1) := by decide +kernel
theorem dH_writeAcceptance_120 : decode cH_writeAcceptance 120 = .ok (.getfield 47, 3) := by decide +kernel
theorem dH_writeAcceptance_123 : decode cH_writeAcceptance 123 = .ok (.bipush 103, 2) := by decide +kernel
theorem dH_writeAcceptance_125 : decode cH_writeAcceptance 125 = .ok (.aload_n 3, 1) := by decide +kernel
theorem dH_writeAcceptance_126 : decode cH_writeAcceptance 126 = .ok (.getfield 138, 3) := by decide +kernel
theorem dH_writeAcceptance_129 : decode cH_writeAcceptance 129 = .ok (.invokevirtual 282, 3) := by decide +kernel
theorem dH_writeAcceptance_132 : decode cH_writeAcceptance 132 = .ok (.aload_n 0, 1) := by decide +kernel
theorem dH_writeAcceptance_133 : decode cH_writeAcceptance 133 = .ok (.aload_n 1, 1) := by decide +kernel
theorem dH_writeAcceptance_134 : decode cH_writeAcceptance 134 = .ok (.invokevirtual 286, 3) := by decide +kernel
theorem dH_writeAcceptance_137 : decode cH_writeAcceptance 137 = .ok (.aload_n 0, 1) := by decide +kernel
theorem dH_writeAcceptance_138 : decode cH_writeAcceptance 138 = .ok (.getfield 47, 3) := by decide +kernel
theorem dH_writeAcceptance_141 : decode cH_writeAcceptance 141 = .ok (.ldc_w 289, 3) := by decide +kernel
theorem dH_writeAcceptance_144 : decode cH_writeAcceptance 144 = .ok (.invokevirtual 263, 3) := by decide +kernel
theorem dH_writeAcceptance_147 : decode cH_writeAcceptance 147 = .ok (.return_, 1) := by decide +kernel
theorem dT_addEscapedT_0 : decode cT_addEscapedT 0 = .ok (.iconst 0, 1) := by decide +kernel
theorem dT_addEscapedT_1 : decode cT_addEscapedT 1 = .ok (.istore_n 2, 1) := by decide +kernel
theorem dT_addEscapedT_2 : decode cT_addEscapedT 2 = .ok (.iload_n 2, 1) := by decide +kernel
theorem dT_addEscapedT_3 : decode cT_addEscapedT 3 = .ok (.aload_n 1, 1) := by decide +kernel
theorem dT_addEscapedT_4 : decode cT_addEscapedT 4 = .ok (.getfield 15, 3) := by decide +kernel
theorem dT_addEscapedT_7 : decode cT_addEscapedT 7 = .ok (.if_icmp .ge 19, 3) := by decide +kernel
theorem dT_addEscapedT_10 : decode cT_addEscapedT 10 = .ok (.aload_n 0, 1) := by decide +kernel
theorem dT_addEscapedT_11 : decode cT_addEscapedT 11 = .ok (.aload_n 1, 1) := by decide +kernel
theorem dT_addEscapedT_12 : decode cT_addEscapedT 12 = .ok (.getfield 9, 3) := by decide +kernel
theorem dT_addEscapedT_15 : decode cT_addEscapedT 15 = .ok (.iload_n 2, 1) := by decide +kernel
theorem dT_addEscapedT_16 : decode cT_addEscapedT 16 = .ok (.caload, 1) := by decide +kernel
theorem dT_addEscapedT_17 : decode cT_addEscapedT 17 = .ok (.invokevirtual 45, 3) := by decide +kernel
theorem dT_addEscapedT_20 : decode cT_addEscapedT 20 = .ok (.iinc 2 1, 3) := by decide +kernel
theorem dT_addEscapedT_23 : decode cT_addEscapedT 23 = .ok (.goto (-21), 3) := by decide +kernel
theorem dT_addEscapedT_26 : decode cT_addEscapedT 26 = .ok (.return_, 1) := by decide +kernel
theorem dT_addEscapedC_0 : decode cT_addEscapedC 0 = .ok (.iload_n 1, 1) := by decide +kernel
theorem dT_addEscapedC_1 : decode cT_addEscapedC 1 = .ok (.lookupswitch 79 #[(34, 70), (38, 43), (60, 52), (62, 61)], 43) := by decide +kernel
theorem dT_addEscapedC_44 : decode cT_addEscapedC 44 = .ok (.aload_n 0, 1) := by decide +kernel
theorem dT_addEscapedC_45 : decode cT_addEscapedC 45 = .ok (.ldc 48, 2) := by decide +kernel
theorem dT_addEscapedC_47 : decode cT_addEscapedC 47 = .ok (.invokevirtual 41, 3) := by decide +kernel
theorem dT_addEscapedC_50 : decode cT_addEscapedC 50 = .ok (.goto 35, 3) := by decide +kernel
theorem dT_addEscapedC_53 : decode cT_addEscapedC 53 = .ok (.aload_n 0, 1) := by decide +kernel
theorem dT_addEscapedC_54 : decode cT_addEscapedC 54 = .ok (.ldc 50, 2) := by decide +kernel
theorem dT_addEscapedC_56 : decode cT_addEscapedC 56 = .ok (.invokevirtual 41, 3) := by decide +kernel
theorem dT_addEscapedC_59 : decode cT_addEscapedC 59 = .ok (.goto 26, 3) := by decide +kernel
theorem dT_addEscapedC_62 : decode cT_addEscapedC 62 = .ok (.aload_n 0, 1) := by decide +kernel
theorem dT_addEscapedC_63 : decode cT_addEscapedC 63 = .ok (.ldc 52, 2) := by decide +kernel
theorem dT_addEscapedC_65 : decode cT_addEscapedC 65 = .ok (.invokevirtual 41, 3) := by decide +kernel
theorem dT_addEscapedC_68 : decode cT_addEscapedC 68 = .ok (.goto 17, 3) := by decide +kernel
theorem dT_addEscapedC_71 : decode cT_addEscapedC 71 = .ok (.aload_n 0, 1) := by decide +kernel
theorem dT_addEscapedC_72 : decode cT_addEscapedC 72 = .ok (.ldc 54, 2) := by decide +kernel
theorem dT_addEscapedC_74 : decode cT_addEscapedC 74 = .ok (.invokevirtual 41, 3) := by decide +kernel
theorem dT_addEscapedC_77 : decode cT_addEscapedC 77 = .ok (.goto 8, 3) := by decide +kernel
theorem dT_addEscapedC_80 : decode cT_addEscapedC 80 = .ok (.aload_n 0, 1) := by decide +kernel
theorem dT_addEscapedC_81 : decode cT_addEscapedC 81 = .ok (.iload_n 1, 1) := by decide +kernel
theorem dT_addEscapedC_82 : decode cT_addEscapedC 82 = .ok (.invokevirtual 28, 3) := by decide +kernel
theorem dT_addEscapedC_85 : decode cT_addEscapedC 85 = .ok (.return_, 1) := by decide +kernel
theorem dH_writeAttributes_0 : decode cH_writeAttributes 0 = .ok (.iconst 0, 1) := by decide +kernel
theorem dH_writeAttributes_1 : decode cH_writeAttributes 1 = .ok (.istore_n 3, 1) := by decide +kernel
theorem dH_writeAttributes_2 : decode cH_writeAttributes 2 = .ok (.iload_n 3, 1) := by decide +kernel
theorem dH_writeAttributes_3 : decode cH_writeAttributes 3 = .ok (.iconst 3, 1) := by decide +kernel
theorem dH_writeAttributes_4 : decode cH_writeAttributes 4 = .ok (.if_icmp .ge 100, 3) := by decide +kernel
theorem dH_writeAttributes_7 : decode cH_writeAttributes 7 = .ok (.aload_n 1, 1) := by decide +kernel
theorem dH_writeAttributes_8 : decode cH_writeAttributes 8 = .ok (.getfield 77, 3) := by decide +kernel
theorem dH_writeAttributes_11 : decode cH_writeAttributes 11 = .ok (.iload_n 3, 1) := by decide +kernel
theorem dH_writeAttributes_12 : decode cH_writeAttributes 12 = .ok (.aaload, 1) := by decide +kernel
theorem dH_writeAttributes_13 : decode cH_writeAttributes 13 = .ok (.astore 4, 2) := by decide +kernel
theorem dH_writeAttributes_15 : decode cH_writeAttributes 15 = .ok (.aload_n 0, 1) := by decide +kernel
theorem dH_writeAttributes_16 : decode cH_writeAttributes 16 = .ok (.iload_n 2, 1) := by decide +kernel
theorem dH_writeAttributes_17 : decode cH_writeAttributes 17 = .ok (.bipush 8, 2) := by decide +kernel
theorem dH_writeAttributes_19 : decode cH_writeAttributes 19 = .ok (.iload_n 3, 1) := by decide +kernel
theorem dH_writeAttributes_20 : decode cH_writeAttributes 20 = .ok (.ishl, 1) := by decide +kernel
theorem dH_writeAttributes_21 : decode cH_writeAttributes 21 = .ok (.invokevirtual 247, 3) := by decide +kernel
theorem dH_writeAttributes_24 : decode cH_writeAttributes 24 = .ok (.ifCond .eq 74, 3) := by decide +kernel
theorem dH_writeAttributes_27 : decode cH_writeAttributes 27 = .ok (.aload 4, 2) := by decide +kernel
theorem dH_writeAttributes_29 : decode cH_writeAttributes 29 = .ok (.getfield 58, 3) := by decide +kernel
theorem dH_writeAttributes_32 : decode cH_writeAttributes 32 = .ok (.ifCond .le 66, 3) := by decide +kernel
theorem dH_writeAttributes_35 : decode cH_writeAttributes 35 = .ok (.aload_n 0, 1) := by decide +kernel
theorem dH_writeAttributes_36 : decode cH_writeAttributes 36 = .ok (.getfield 47, 3) := by decide +kernel
theorem dH_writeAttributes_39 : decode cH_writeAttributes 39 = .ok (.ldc_w 291, 3) := by decide +kernel
theorem dH_writeAttributes_42 : decode cH_writeAttributes 42 = .ok (.invokevirtual 263, 3) := by decide +kernel
theorem dH_writeAttributes_45 : decode cH_writeAttributes 45 = .ok (.aload_n 0, 1) := by decide +kernel
theorem dH_writeAttributes_46 : decode cH_writeAttributes 46 = .ok (.getfield 47, 3) := by decide +kernel
theorem dH_writeAttributes_49 : decode cH_writeAttributes 49 = .ok (.iload_n 3, 1) := by decide +kernel
theorem dH_writeAttributes_50 : decode cH_writeAttributes 50 = .ok (.invokevirtual 266, 3) := by decide +kernel
theorem dH_writeAttributes_53 : decode cH_writeAttributes 53 = .ok (.aload_n 0, 1) := by decide +kernel
theorem dH_writeAttributes_54 : decode cH_writeAttributes 54 = .ok (.getfield 47, 3) := by decide +kernel
theorem dH_writeAttributes_57 : decode cH_writeAttributes 57 = .ok (.bipush 62, 2) := by decide +kernel
theorem dH_writeAttributes_59 : decode cH_writeAttributes 59 = .ok (.invokevirtual 67, 3) := by decide +kernel
theorem dH_writeAttributes_62 : decode cH_writeAttributes 62 = .ok (.aload_n 0, 1) := by decide +kernel
theorem dH_writeAttributes_63 : decode cH_writeAttributes 63 = .ok (.getfield 47, 3) := by decide +kernel
theorem dH_writeAttributes_66 : decode cH_writeAttributes 66 = .ok (.aload 4, 2) := by decide +kernel
theorem dH_writeAttributes_68 : decode cH_writeAttributes 68 = .ok (.invokevirtual 275, 3) := by decide +kernel
theorem dH_writeAttributes_71 : decode cH_writeAttributes 71 = .ok (.aload_n 0, 1) := by decide +kernel
theorem dH_writeAttributes_72 : decode cH_writeAttributes 72 = .ok (.getfield 47, 3) := by decide +kernel
theorem dH_writeAttributes_75 : decode cH_writeAttributes 75 = .ok (.ldc_w 293, 3) := by decide +kernel
theorem dH_writeAttributes_78 : decode cH_writeAttributes 78 = .ok (.invokevirtual 263, 3) := by decide +kernel
theorem dH_writeAttributes_81 : decode cH_writeAttributes 81 = .ok (.aload_n 0, 1) := by decide +kernel
theorem dH_writeAttributes_82 : decode cH_writeAttributes 82 = .ok (.getfield 47, 3) := by decide +kernel
theorem dH_writeAttributes_85 : decode cH_writeAttributes 85 = .ok (.iload_n 3, 1) := by decide +kernel
theorem dH_writeAttributes_86 : decode cH_writeAttributes 86 = .ok (.invokevirtual 266, 3) := by decide +kernel
theorem dH_writeAttributes_89 : decode cH_writeAttributes 89 = .ok (.aload_n 0, 1) := by decide +kernel
theorem dH_writeAttributes_90 : decode cH_writeAttributes 90 = .ok (.getfield 47, 3) := by decide +kernel
theorem dH_writeAttributes_93 : decode cH_writeAttributes 93 = .ok (.bipush 62, 2) := by decide +kernel
theorem dH_writeAttributes_95 : decode cH_writeAttributes 95 = .ok (.invokevirtual 67, 3) := by decide +kernel
theorem dH_writeAttributes_98 : decode cH_writeAttributes 98 = .ok (.iinc 3 1, 3) := by decide +kernel
theorem dH_writeAttributes_101 : decode cH_writeAttributes 101 = .ok (.goto (-99), 3) := by decide +kernel
theorem dH_writeAttributes_104 : decode cH_writeAttributes 104 = .ok (.return_, 1) := by decide +kernel
theorem dT_addElement_0 : decode cT_addElement 0 = .ok (.aload_n 0, 1) := by decide +kernel
theorem dT_addElement_1 : decode cT_addElement 1 = .ok (.bipush 60, 2) := by decide +kernel
theorem dT_addElement_3 : decode cT_addElement 3 = .ok (.invokevirtual 28, 3) := by decide +kernel
theorem dT_addElement_6 : decode cT_addElement 6 = .ok (.aload_n 0, 1) := by decide +kernel
theorem dT_addElement_7 : decode cT_addElement 7 = .ok (.iload_n 1, 1) := by decide +kernel
theorem dT_addElement_8 : decode cT_addElement 8 = .ok (.invokevirtual 28, 3) := by decide +kernel
theorem dT_addElement_11 : decode cT_addElement 11 = .ok (.aload_n 0, 1) := by decide +kernel
theorem dT_addElement_12 : decode cT_addElement 12 = .ok (.bipush 62, 2) := by decide +kernel
theorem dT_addElement_14 : decode cT_addElement 14 = .ok (.invokevirtual 28, 3) := by decide +kernel
theorem dT_addElement_17 : decode cT_addElement 17 = .ok (.aload_n 0, 1) := by decide +kernel
theorem dT_addElement_18 : decode cT_addElement 18 = .ok (.iload_n 2, 1) := by decide +kernel
theorem dT_addElement_19 : decode cT_addElement 19 = .ok (.invokevirtual 36, 3) := by decide +kernel
theorem dT_addElement_22 : decode cT_addElement 22 = .ok (.aload_n 0, 1) := by decide +kernel
theorem dT_addElement_23 : decode cT_addElement 23 = .ok (.ldc 39, 2) := by decide +kernel
theorem dT_addElement_25 : decode cT_addElement 25 = .ok (.invokevirtual 41, 3) := by decide +kernel
theorem dT_addElement_28 : decode cT_addElement 28 = .ok (.aload_n 0, 1) := by decide +kernel
theorem dT_addElement_29 : decode cT_addElement 29 = .ok (.iload_n 1, 1) := by decide +kernel
theorem dT_addElement_30 : decode cT_addElement 30 = .ok (.invokevirtual 28, 3) := by decide +kernel
theorem dT_addElement_33 : decode cT_addElement 33 = .ok (.aload_n 0, 1) := by decide +kernel
theorem dT_addElement_34 : decode cT_addElement 34 = .ok (.bipush 62, 2) := by decide +kernel
theorem dT_addElement_36 : decode cT_addElement 36 = .ok (.invokevirtual 28, 3) := by decide +kernel
theorem dT_addElement_39 : decode cT_addElement 39 = .ok (.return_, 1) := by decide +kernel
theorem dH_writeChain_0 : decode cH_writeChain 0 = .ok (.aload_n 1, 1) := by decide +kernel
theorem dH_writeChain_1 : decode cH_writeChain 1 = .ok (.astore_n 2, 1) := by decide +kernel
theorem dH_writeChain_2 : decode cH_writeChain 2 = .ok (.aload_n 2, 1) := by decide +kernel
theorem dH_writeChain_3 : decode cH_writeChain 3 = .ok (.ifnull 32, 3) := by decide +kernel
theorem dH_writeChain_6 : decode cH_writeChain 6 = .ok (.aload_n 2, 1) := by decide +kernel
theorem dH_writeChain_7 : decode cH_writeChain 7 = .ok (.getfield 157, 3) := by decide +kernel
theorem dH_writeChain_10 : decode cH_writeChain 10 = .ok (.iconst 2, 1) := by decide +kernel
theorem dH_writeChain_11 : decode cH_writeChain 11 = .ok (.if_icmp .ne 16, 3) := by decide +kernel
theorem dH_writeChain_14 : decode cH_writeChain 14 = .ok (.aload_n 0, 1) := by decide +kernel
theorem dH_writeChain_15 : decode cH_writeChain 15 = .ok (.getfield 47, 3) := by decide +kernel
theorem dH_writeChain_18 : decode cH_writeChain 18 = .ok (.bipush 112, 2) := by decide +kernel
theorem dH_writeChain_20 : decode cH_writeChain 20 = .ok (.aload_n 2, 1) := by decide +kernel
theorem dH_writeChain_21 : decode cH_writeChain 21 = .ok (.getfield 226, 3) := by decide +kernel
theorem dH_writeChain_24 : decode cH_writeChain 24 = .ok (.invokevirtual 282, 3) := by decide +kernel
theorem dH_writeChain_27 : decode cH_writeChain 27 = .ok (.aload_n 2, 1) := by decide +kernel
theorem dH_writeChain_28 : decode cH_writeChain 28 = .ok (.getfield 232, 3) := by decide +kernel
theorem dH_writeChain_31 : decode cH_writeChain 31 = .ok (.astore_n 2, 1) := by decide +kernel
theorem dH_writeChain_32 : decode cH_writeChain 32 = .ok (.goto (-30), 3) := by decide +kernel
theorem dH_writeChain_35 : decode cH_writeChain 35 = .ok (.return_, 1) := by decide +kernel
theorem dL_logout_0 : decode cL_logout 0 = .ok (.aload_n 2, 1) := by decide +kernel
theorem dL_logout_1 : decode cL_logout 1 = .ok (.iconst 0, 1) := by decide +kernel
theorem dL_logout_2 : decode cL_logout 2 = .ok (.aload_n 0, 1) := by decide +kernel
theorem dL_logout_3 : decode cL_logout 3 = .ok (.iload_n 1, 1) := by decide +kernel
theorem dL_logout_4 : decode cL_logout 4 = .ok (.invokevirtual 50, 3) := by decide +kernel
theorem dL_logout_7 : decode cL_logout 7 = .ok (.i2l, 1) := by decide +kernel
theorem dL_logout_8 : decode cL_logout 8 = .ok (.lastore, 1) := by decide +kernel
theorem dL_logout_9 : decode cL_logout 9 = .ok (.goto 9, 3) := by decide +kernel
theorem dL_logout_12 : decode cL_logout 12 = .ok (.astore_n 3, 1) := by decide +kernel
theorem dL_logout_13 : decode cL_logout 13 = .ok (.iconst 1, 1) := by decide +kernel
theorem dL_logout_14 : decode cL_logout 14 = .ok (.ireturn, 1) := by decide +kernel
theorem dL_logout_15 : decode cL_logout 15 = .ok (.astore_n 3, 1) := by decide +kernel
theorem dL_logout_16 : decode cL_logout 16 = .ok (.iconst 2, 1) := by decide +kernel
theorem dL_logout_17 : decode cL_logout 17 = .ok (.ireturn, 1) := by decide +kernel
theorem dL_logout_18 : decode cL_logout 18 = .ok (.iconst 0, 1) := by decide +kernel
theorem dL_logout_19 : decode cL_logout 19 = .ok (.ireturn, 1) := by decide +kernel
theorem dH_logout_0 : decode cH_logout 0 = .ok (.aload_n 0, 1) := by decide +kernel
theorem dH_logout_1 : decode cH_logout 1 = .ok (.iload_n 1, 1) := by decide +kernel
theorem dH_logout_2 : decode cH_logout 2 = .ok (.invokevirtual 139, 3) := by decide +kernel
theorem dH_logout_5 : decode cH_logout 5 = .ok (.astore_n 2, 1) := by decide +kernel
theorem dH_logout_6 : decode cH_logout 6 = .ok (.aload_n 2, 1) := by decide +kernel
theorem dH_logout_7 : decode cH_logout 7 = .ok (.ifnonnull 13, 3) := by decide +kernel
theorem dH_logout_10 : decode cH_logout 10 = .ok (.new 51, 3) := by decide +kernel
theorem dH_logout_13 : decode cH_logout 13 = .ok (.dup, 1) := by decide +kernel
theorem dH_logout_14 : decode cH_logout 14 = .ok (.ldc 191, 2) := by decide +kernel
theorem dH_logout_16 : decode cH_logout 16 = .ok (.invokespecial 55, 3) := by decide +kernel
theorem dH_logout_19 : decode cH_logout 19 = .ok (.athrow, 1) := by decide +kernel
theorem dH_logout_20 : decode cH_logout 20 = .ok (.aload_n 2, 1) := by decide +kernel
theorem dH_logout_21 : decode cH_logout 21 = .ok (.getfield 145, 3) := by decide +kernel
theorem dH_logout_24 : decode cH_logout 24 = .ok (.ifCond .ne 13, 3) := by decide +kernel
theorem dH_logout_27 : decode cH_logout 27 = .ok (.new 62, 3) := by decide +kernel
theorem dH_logout_30 : decode cH_logout 30 = .ok (.dup, 1) := by decide +kernel
theorem dH_logout_31 : decode cH_logout 31 = .ok (.ldc 193, 2) := by decide +kernel
theorem dH_logout_33 : decode cH_logout 33 = .ok (.invokespecial 66, 3) := by decide +kernel
theorem dH_logout_36 : decode cH_logout 36 = .ok (.athrow, 1) := by decide +kernel
theorem dH_logout_37 : decode cH_logout 37 = .ok (.aload_n 0, 1) := by decide +kernel
theorem dH_logout_38 : decode cH_logout 38 = .ok (.aload_n 2, 1) := by decide +kernel
theorem dH_logout_39 : decode cH_logout 39 = .ok (.invokevirtual 195, 3) := by decide +kernel
theorem dH_logout_42 : decode cH_logout 42 = .ok (.ireturn, 1) := by decide +kernel
theorem dH_end_0 : decode cH_end 0 = .ok (.aload_n 1, 1) := by decide +kernel
theorem dH_end_1 : decode cH_end 1 = .ok (.iconst 0, 1) := by decide +kernel
theorem dH_end_2 : decode cH_end 2 = .ok (.putfield 145, 3) := by decide +kernel
theorem dH_end_5 : decode cH_end 5 = .ok (.aload_n 0, 1) := by decide +kernel
theorem dH_end_6 : decode cH_end 6 = .ok (.getfield 239, 3) := by decide +kernel
theorem dH_end_9 : decode cH_end 9 = .ok (.istore_n 2, 1) := by decide +kernel
theorem dH_end_10 : decode cH_end 10 = .ok (.iconst 0, 1) := by decide +kernel
theorem dH_end_11 : decode cH_end 11 = .ok (.istore_n 3, 1) := by decide +kernel
theorem dH_end_12 : decode cH_end 12 = .ok (.iload_n 3, 1) := by decide +kernel
theorem dH_end_13 : decode cH_end 13 = .ok (.aload_n 0, 1) := by decide +kernel
theorem dH_end_14 : decode cH_end 14 = .ok (.getfield 125, 3) := by decide +kernel
theorem dH_end_17 : decode cH_end 17 = .ok (.if_icmp .ge 32, 3) := by decide +kernel
theorem dH_end_20 : decode cH_end 20 = .ok (.aload_n 0, 1) := by decide +kernel
theorem dH_end_21 : decode cH_end 21 = .ok (.getfield 31, 3) := by decide +kernel
theorem dH_end_24 : decode cH_end 24 = .ok (.iload_n 3, 1) := by decide +kernel
theorem dH_end_25 : decode cH_end 25 = .ok (.aaload, 1) := by decide +kernel
theorem dH_end_26 : decode cH_end 26 = .ok (.getfield 167, 3) := by decide +kernel
theorem dH_end_29 : decode cH_end 29 = .ok (.aload_n 1, 1) := by decide +kernel
theorem dH_end_30 : decode cH_end 30 = .ok (.if_acmp .ne 13, 3) := by decide +kernel
theorem dH_end_33 : decode cH_end 33 = .ok (.aload_n 0, 1) := by decide +kernel
theorem dH_end_34 : decode cH_end 34 = .ok (.aload_n 0, 1) := by decide +kernel
theorem dH_end_35 : decode cH_end 35 = .ok (.getfield 31, 3) := by decide +kernel
theorem dH_end_38 : decode cH_end 38 = .ok (.iload_n 3, 1) := by decide +kernel
theorem dH_end_39 : decode cH_end 39 = .ok (.aaload, 1) := by decide +kernel
theorem dH_end_40 : decode cH_end 40 = .ok (.invokevirtual 257, 3) := by decide +kernel
theorem dH_end_43 : decode cH_end 43 = .ok (.iinc 3 1, 3) := by decide +kernel
theorem dH_end_46 : decode cH_end 46 = .ok (.goto (-34), 3) := by decide +kernel
theorem dH_end_49 : decode cH_end 49 = .ok (.aload_n 0, 1) := by decide +kernel
theorem dH_end_50 : decode cH_end 50 = .ok (.getfield 239, 3) := by decide +kernel
theorem dH_end_53 : decode cH_end 53 = .ok (.iload_n 2, 1) := by decide +kernel
theorem dH_end_54 : decode cH_end 54 = .ok (.isub, 1) := by decide +kernel
theorem dH_end_55 : decode cH_end 55 = .ok (.ireturn, 1) := by decide +kernel
theorem dH_tellOfEnd_0 : decode cH_tellOfEnd 0 = .ok (.aload_n 1, 1) := by decide +kernel
theorem dH_tellOfEnd_1 : decode cH_tellOfEnd 1 = .ok (.getfield 157, 3) := by decide +kernel
theorem dH_tellOfEnd_4 : decode cH_tellOfEnd 4 = .ok (.ifCond .ne 59, 3) := by decide +kernel
theorem dH_tellOfEnd_7 : decode cH_tellOfEnd 7 = .ok (.aload_n 0, 1) := by decide +kernel
theorem dH_tellOfEnd_8 : decode cH_tellOfEnd 8 = .ok (.aload_n 1, 1) := by decide +kernel
theorem dH_tellOfEnd_9 : decode cH_tellOfEnd 9 = .ok (.getfield 226, 3) := by decide +kernel
theorem dH_tellOfEnd_12 : decode cH_tellOfEnd 12 = .ok (.iconst 4, 1) := by decide +kernel
theorem dH_tellOfEnd_13 : decode cH_tellOfEnd 13 = .ok (.invokevirtual 247, 3) := by decide +kernel
theorem dH_tellOfEnd_16 : decode cH_tellOfEnd 16 = .ok (.ifCond .eq 47, 3) := by decide +kernel
theorem dH_tellOfEnd_19 : decode cH_tellOfEnd 19 = .ok (.aload_n 0, 1) := by decide +kernel
theorem dH_tellOfEnd_20 : decode cH_tellOfEnd 20 = .ok (.getfield 239, 3) := by decide +kernel
theorem dH_tellOfEnd_23 : decode cH_tellOfEnd 23 = .ok (.aload_n 0, 1) := by decide +kernel
theorem dH_tellOfEnd_24 : decode cH_tellOfEnd 24 = .ok (.getfield 35, 3) := by decide +kernel
theorem dH_tellOfEnd_27 : decode cH_tellOfEnd 27 = .ok (.arraylength, 1) := by decide +kernel
theorem dH_tellOfEnd_28 : decode cH_tellOfEnd 28 = .ok (.if_icmp .ge 35, 3) := by decide +kernel
theorem dH_tellOfEnd_31 : decode cH_tellOfEnd 31 = .ok (.aload_n 0, 1) := by decide +kernel
theorem dH_tellOfEnd_32 : decode cH_tellOfEnd 32 = .ok (.getfield 35, 3) := by decide +kernel
theorem dH_tellOfEnd_35 : decode cH_tellOfEnd 35 = .ok (.aload_n 0, 1) := by decide +kernel
theorem dH_tellOfEnd_36 : decode cH_tellOfEnd 36 = .ok (.getfield 239, 3) := by decide +kernel
theorem dH_tellOfEnd_39 : decode cH_tellOfEnd 39 = .ok (.sipush 1000, 3) := by decide +kernel
theorem dH_tellOfEnd_42 : decode cH_tellOfEnd 42 = .ok (.aload_n 1, 1) := by decide +kernel
theorem dH_tellOfEnd_43 : decode cH_tellOfEnd 43 = .ok (.getfield 226, 3) := by decide +kernel
theorem dH_tellOfEnd_46 : decode cH_tellOfEnd 46 = .ok (.imul, 1) := by decide +kernel
theorem dH_tellOfEnd_47 : decode cH_tellOfEnd 47 = .ok (.aload_n 1, 1) := by decide +kernel
theorem dH_tellOfEnd_48 : decode cH_tellOfEnd 48 = .ok (.getfield 138, 3) := by decide +kernel
theorem dH_tellOfEnd_51 : decode cH_tellOfEnd 51 = .ok (.iadd, 1) := by decide +kernel
theorem dH_tellOfEnd_52 : decode cH_tellOfEnd 52 = .ok (.iastore, 1) := by decide +kernel
theorem dH_tellOfEnd_53 : decode cH_tellOfEnd 53 = .ok (.aload_n 0, 1) := by decide +kernel
theorem dH_tellOfEnd_54 : decode cH_tellOfEnd 54 = .ok (.dup, 1) := by decide +kernel
theorem dH_tellOfEnd_55 : decode cH_tellOfEnd 55 = .ok (.getfield 239, 3) := by decide +kernel
theorem dH_tellOfEnd_58 : decode cH_tellOfEnd 58 = .ok (.iconst 1, 1) := by decide +kernel
theorem dH_tellOfEnd_59 : decode cH_tellOfEnd 59 = .ok (.iadd, 1) := by decide +kernel
theorem dH_tellOfEnd_60 : decode cH_tellOfEnd 60 = .ok (.putfield 239, 3) := by decide +kernel
theorem dH_tellOfEnd_63 : decode cH_tellOfEnd 63 = .ok (.return_, 1) := by decide +kernel
theorem dL_tick_0 : decode cL_tick 0 = .ok (.aload_n 2, 1) := by decide +kernel
theorem dL_tick_1 : decode cL_tick 1 = .ok (.iconst 0, 1) := by decide +kernel
theorem dL_tick_2 : decode cL_tick 2 = .ok (.aload_n 0, 1) := by decide +kernel
theorem dL_tick_3 : decode cL_tick 3 = .ok (.iload_n 1, 1) := by decide +kernel
theorem dL_tick_4 : decode cL_tick 4 = .ok (.invokevirtual 53, 3) := by decide +kernel
theorem dL_tick_7 : decode cL_tick 7 = .ok (.i2l, 1) := by decide +kernel
theorem dL_tick_8 : decode cL_tick 8 = .ok (.lastore, 1) := by decide +kernel
theorem dL_tick_9 : decode cL_tick 9 = .ok (.goto 6, 3) := by decide +kernel
theorem dL_tick_12 : decode cL_tick 12 = .ok (.astore_n 3, 1) := by decide +kernel
theorem dL_tick_13 : decode cL_tick 13 = .ok (.iconst 1, 1) := by decide +kernel
theorem dL_tick_14 : decode cL_tick 14 = .ok (.ireturn, 1) := by decide +kernel
theorem dL_tick_15 : decode cL_tick 15 = .ok (.iconst 0, 1) := by decide +kernel
theorem dL_tick_16 : decode cL_tick 16 = .ok (.ireturn, 1) := by decide +kernel
theorem dH_tick_0 : decode cH_tick 0 = .ok (.iload_n 1, 1) := by decide +kernel
theorem dH_tick_1 : decode cH_tick 1 = .ok (.iconst 1, 1) := by decide +kernel
theorem dH_tick_2 : decode cH_tick 2 = .ok (.if_icmp .lt 10, 3) := by decide +kernel
theorem dH_tick_5 : decode cH_tick 5 = .ok (.iload_n 1, 1) := by decide +kernel
theorem dH_tick_6 : decode cH_tick 6 = .ok (.sipush 200, 3) := by decide +kernel
theorem dH_tick_9 : decode cH_tick 9 = .ok (.if_icmp .le 13, 3) := by decide +kernel
theorem dH_tick_12 : decode cH_tick 12 = .ok (.new 51, 3) := by decide +kernel
theorem dH_tick_15 : decode cH_tick 15 = .ok (.dup, 1) := by decide +kernel
theorem dH_tick_16 : decode cH_tick 16 = .ok (.ldc 199, 2) := by decide +kernel
theorem dH_tick_18 : decode cH_tick 18 = .ok (.invokespecial 55, 3) := by decide +kernel
theorem dH_tick_21 : decode cH_tick 21 = .ok (.athrow, 1) := by decide +kernel
theorem dH_tick_22 : decode cH_tick 22 = .ok (.aload_n 0, 1) := by decide +kernel
theorem dH_tick_23 : decode cH_tick 23 = .ok (.dup, 1) := by decide +kernel
theorem dH_tick_24 : decode cH_tick 24 = .ok (.getfield 106, 3) := by decide +kernel
theorem dH_tick_27 : decode cH_tick 27 = .ok (.iload_n 1, 1) := by decide +kernel
theorem dH_tick_28 : decode cH_tick 28 = .ok (.iadd, 1) := by decide +kernel
theorem dH_tick_29 : decode cH_tick 29 = .ok (.putfield 106, 3) := by decide +kernel
theorem dH_tick_32 : decode cH_tick 32 = .ok (.iconst 0, 1) := by decide +kernel
theorem dH_tick_33 : decode cH_tick 33 = .ok (.istore_n 2, 1) := by decide +kernel
theorem dH_tick_34 : decode cH_tick 34 = .ok (.iload_n 2, 1) := by decide +kernel
theorem dH_tick_35 : decode cH_tick 35 = .ok (.iconst 4, 1) := by decide +kernel
theorem dH_tick_36 : decode cH_tick 36 = .ok (.if_icmp .ge 22, 3) := by decide +kernel
theorem dH_tick_39 : decode cH_tick 39 = .ok (.aload_n 0, 1) := by decide +kernel
theorem dH_tick_40 : decode cH_tick 40 = .ok (.getfield 11, 3) := by decide +kernel
theorem dH_tick_43 : decode cH_tick 43 = .ok (.iload_n 2, 1) := by decide +kernel
theorem dH_tick_44 : decode cH_tick 44 = .ok (.aaload, 1) := by decide +kernel
theorem dH_tick_45 : decode cH_tick 45 = .ok (.aload_n 0, 1) := by decide +kernel
theorem dH_tick_46 : decode cH_tick 46 = .ok (.getfield 106, 3) := by decide +kernel
theorem dH_tick_49 : decode cH_tick 49 = .ok (.invokevirtual 201, 3) := by decide +kernel
theorem dH_tick_52 : decode cH_tick 52 = .ok (.iinc 2 1, 3) := by decide +kernel
theorem dH_tick_55 : decode cH_tick 55 = .ok (.goto (-21), 3) := by decide +kernel
theorem dH_tick_58 : decode cH_tick 58 = .ok (.iconst 0, 1) := by decide +kernel
theorem dH_tick_59 : decode cH_tick 59 = .ok (.istore_n 2, 1) := by decide +kernel
theorem dH_tick_60 : decode cH_tick 60 = .ok (.iload_n 2, 1) := by decide +kernel
theorem dH_tick_61 : decode cH_tick 61 = .ok (.aload_n 0, 1) := by decide +kernel
theorem dH_tick_62 : decode cH_tick 62 = .ok (.getfield 101, 3) := by decide +kernel
theorem dH_tick_65 : decode cH_tick 65 = .ok (.if_icmp .ge 48, 3) := by decide +kernel
theorem dH_tick_68 : decode cH_tick 68 = .ok (.aload_n 0, 1) := by decide +kernel
theorem dH_tick_69 : decode cH_tick 69 = .ok (.getfield 25, 3) := by decide +kernel
theorem dH_tick_72 : decode cH_tick 72 = .ok (.iload_n 2, 1) := by decide +kernel
theorem dH_tick_73 : decode cH_tick 73 = .ok (.aaload, 1) := by decide +kernel
theorem dH_tick_74 : decode cH_tick 74 = .ok (.getfield 145, 3) := by decide +kernel
theorem dH_tick_77 : decode cH_tick 77 = .ok (.ifCond .eq 30, 3) := by decide +kernel
theorem dH_tick_80 : decode cH_tick 80 = .ok (.aload_n 0, 1) := by decide +kernel
theorem dH_tick_81 : decode cH_tick 81 = .ok (.getfield 25, 3) := by decide +kernel
theorem dH_tick_84 : decode cH_tick 84 = .ok (.iload_n 2, 1) := by decide +kernel
theorem dH_tick_85 : decode cH_tick 85 = .ok (.aaload, 1) := by decide +kernel
theorem dH_tick_86 : decode cH_tick 86 = .ok (.aload_n 0, 1) := by decide +kernel
theorem dH_tick_87 : decode cH_tick 87 = .ok (.getfield 106, 3) := by decide +kernel
theorem dH_tick_90 : decode cH_tick 90 = .ok (.invokevirtual 204, 3) := by decide +kernel
theorem dH_tick_93 : decode cH_tick 93 = .ok (.ifCond .eq 14, 3) := by decide +kernel
theorem dH_tick_96 : decode cH_tick 96 = .ok (.aload_n 0, 1) := by decide +kernel
theorem dH_tick_97 : decode cH_tick 97 = .ok (.aload_n 0, 1) := by decide +kernel
theorem dH_tick_98 : decode cH_tick 98 = .ok (.getfield 25, 3) := by decide +kernel
theorem dH_tick_101 : decode cH_tick 101 = .ok (.iload_n 2, 1) := by decide +kernel
theorem dH_tick_102 : decode cH_tick 102 = .ok (.aaload, 1) := by decide +kernel
theorem dH_tick_103 : decode cH_tick 103 = .ok (.invokevirtual 195, 3) := by decide +kernel
theorem dH_tick_106 : decode cH_tick 106 = .ok (.pop, 1) := by decide +kernel
theorem dH_tick_107 : decode cH_tick 107 = .ok (.iinc 2 1, 3) := by decide +kernel
theorem dH_tick_110 : decode cH_tick 110 = .ok (.goto (-50), 3) := by decide +kernel
theorem dH_tick_113 : decode cH_tick 113 = .ok (.aload_n 0, 1) := by decide +kernel
theorem dH_tick_114 : decode cH_tick 114 = .ok (.getfield 106, 3) := by decide +kernel
theorem dH_tick_117 : decode cH_tick 117 = .ok (.ireturn, 1) := by decide +kernel
theorem dU_unlockIfDue_0 : decode cU_unlockIfDue 0 = .ok (.aload_n 0, 1) := by decide +kernel
theorem dU_unlockIfDue_1 : decode cU_unlockIfDue 1 = .ok (.getfield 31, 3) := by decide +kernel
theorem dU_unlockIfDue_4 : decode cU_unlockIfDue 4 = .ok (.iconst 3, 1) := by decide +kernel
theorem dU_unlockIfDue_5 : decode cU_unlockIfDue 5 = .ok (.if_icmp .lt 19, 3) := by decide +kernel
theorem dU_unlockIfDue_8 : decode cU_unlockIfDue 8 = .ok (.iload_n 1, 1) := by decide +kernel
theorem dU_unlockIfDue_9 : decode cU_unlockIfDue 9 = .ok (.aload_n 0, 1) := by decide +kernel
theorem dU_unlockIfDue_10 : decode cU_unlockIfDue 10 = .ok (.getfield 34, 3) := by decide +kernel
theorem dU_unlockIfDue_13 : decode cU_unlockIfDue 13 = .ok (.isub, 1) := by decide +kernel
theorem dU_unlockIfDue_14 : decode cU_unlockIfDue 14 = .ok (.bipush 20, 2) := by decide +kernel
theorem dU_unlockIfDue_16 : decode cU_unlockIfDue 16 = .ok (.if_icmp .le 8, 3) := by decide +kernel
theorem dU_unlockIfDue_19 : decode cU_unlockIfDue 19 = .ok (.aload_n 0, 1) := by decide +kernel
theorem dU_unlockIfDue_20 : decode cU_unlockIfDue 20 = .ok (.iconst 0, 1) := by decide +kernel
theorem dU_unlockIfDue_21 : decode cU_unlockIfDue 21 = .ok (.putfield 31, 3) := by decide +kernel
theorem dU_unlockIfDue_24 : decode cU_unlockIfDue 24 = .ok (.return_, 1) := by decide +kernel
theorem dS_isOver_0 : decode cS_isOver 0 = .ok (.aload_n 0, 1) := by decide +kernel
theorem dS_isOver_1 : decode cS_isOver 1 = .ok (.getfield 24, 3) := by decide +kernel
theorem dS_isOver_4 : decode cS_isOver 4 = .ok (.ifCond .eq 9, 3) := by decide +kernel
theorem dS_isOver_7 : decode cS_isOver 7 = .ok (.sipush 150, 3) := by decide +kernel
theorem dS_isOver_10 : decode cS_isOver 10 = .ok (.goto 5, 3) := by decide +kernel
theorem dS_isOver_13 : decode cS_isOver 13 = .ok (.bipush 30, 2) := by decide +kernel
theorem dS_isOver_15 : decode cS_isOver 15 = .ok (.istore_n 2, 1) := by decide +kernel
theorem dS_isOver_16 : decode cS_isOver 16 = .ok (.aload_n 0, 1) := by decide +kernel
theorem dS_isOver_17 : decode cS_isOver 17 = .ok (.getfield 24, 3) := by decide +kernel
theorem dS_isOver_20 : decode cS_isOver 20 = .ok (.ifCond .eq 9, 3) := by decide +kernel
theorem dS_isOver_23 : decode cS_isOver 23 = .ok (.sipush 400, 3) := by decide +kernel
theorem dS_isOver_26 : decode cS_isOver 26 = .ok (.goto 5, 3) := by decide +kernel
theorem dS_isOver_29 : decode cS_isOver 29 = .ok (.bipush 120, 2) := by decide +kernel
theorem dS_isOver_31 : decode cS_isOver 31 = .ok (.istore_n 3, 1) := by decide +kernel
theorem dS_isOver_32 : decode cS_isOver 32 = .ok (.iload_n 1, 1) := by decide +kernel
theorem dS_isOver_33 : decode cS_isOver 33 = .ok (.aload_n 0, 1) := by decide +kernel
theorem dS_isOver_34 : decode cS_isOver 34 = .ok (.getfield 27, 3) := by decide +kernel
theorem dS_isOver_37 : decode cS_isOver 37 = .ok (.isub, 1) := by decide +kernel
theorem dS_isOver_38 : decode cS_isOver 38 = .ok (.iload_n 2, 1) := by decide +kernel
theorem dS_isOver_39 : decode cS_isOver 39 = .ok (.if_icmp .gt 13, 3) := by decide +kernel
theorem dS_isOver_42 : decode cS_isOver 42 = .ok (.iload_n 1, 1) := by decide +kernel
theorem dS_isOver_43 : decode cS_isOver 43 = .ok (.aload_n 0, 1) := by decide +kernel
theorem dS_isOver_44 : decode cS_isOver 44 = .ok (.getfield 21, 3) := by decide +kernel
theorem dS_isOver_47 : decode cS_isOver 47 = .ok (.isub, 1) := by decide +kernel
theorem dS_isOver_48 : decode cS_isOver 48 = .ok (.iload_n 3, 1) := by decide +kernel
theorem dS_isOver_49 : decode cS_isOver 49 = .ok (.if_icmp .le 7, 3) := by decide +kernel
theorem dS_isOver_52 : decode cS_isOver 52 = .ok (.iconst 1, 1) := by decide +kernel
theorem dS_isOver_53 : decode cS_isOver 53 = .ok (.goto 4, 3) := by decide +kernel
theorem dS_isOver_56 : decode cS_isOver 56 = .ok (.iconst 0, 1) := by decide +kernel
theorem dS_isOver_57 : decode cS_isOver 57 = .ok (.ireturn, 1) := by decide +kernel
theorem dM_init_0 : decode cM_init 0 = .ok (.aload_n 0, 1) := by decide +kernel
theorem dM_init_1 : decode cM_init 1 = .ok (.invokespecial 1, 3) := by decide +kernel
theorem dM_init_4 : decode cM_init 4 = .ok (.aload_n 0, 1) := by decide +kernel
theorem dM_init_5 : decode cM_init 5 = .ok (.bipush 8, 2) := by decide +kernel
theorem dM_init_7 : decode cM_init 7 = .ok (.newarray .int, 2) := by decide +kernel
theorem dM_init_9 : decode cM_init 9 = .ok (.putfield 7, 3) := by decide +kernel
theorem dM_init_12 : decode cM_init 12 = .ok (.aload_n 0, 1) := by decide +kernel
theorem dM_init_13 : decode cM_init 13 = .ok (.sipush 128, 3) := by decide +kernel
theorem dM_init_16 : decode cM_init 16 = .ok (.newarray .int, 2) := by decide +kernel
theorem dM_init_18 : decode cM_init 18 = .ok (.putfield 13, 3) := by decide +kernel
theorem dM_init_21 : decode cM_init 21 = .ok (.aload_n 0, 1) := by decide +kernel
theorem dM_init_22 : decode cM_init 22 = .ok (.bipush 16, 2) := by decide +kernel
theorem dM_init_24 : decode cM_init 24 = .ok (.newarray .int, 2) := by decide +kernel
theorem dM_init_26 : decode cM_init 26 = .ok (.putfield 16, 3) := by decide +kernel
theorem dM_init_29 : decode cM_init 29 = .ok (.aload_n 0, 1) := by decide +kernel
theorem dM_init_30 : decode cM_init 30 = .ok (.iconst 4, 1) := by decide +kernel
theorem dM_init_31 : decode cM_init 31 = .ok (.newarray .boolean, 2) := by decide +kernel
theorem dM_init_33 : decode cM_init 33 = .ok (.putfield 19, 3) := by decide +kernel
theorem dM_init_36 : decode cM_init 36 = .ok (.aload_n 0, 1) := by decide +kernel
theorem dM_init_37 : decode cM_init 37 = .ok (.iconst 4, 1) := by decide +kernel
theorem dM_init_38 : decode cM_init 38 = .ok (.newarray .int, 2) := by decide +kernel
theorem dM_init_40 : decode cM_init 40 = .ok (.putfield 23, 3) := by decide +kernel
theorem dM_init_43 : decode cM_init 43 = .ok (.aload_n 0, 1) := by decide +kernel
theorem dM_init_44 : decode cM_init 44 = .ok (.iconst 4, 1) := by decide +kernel
theorem dM_init_45 : decode cM_init 45 = .ok (.newarray .int, 2) := by decide +kernel
theorem dM_init_47 : decode cM_init 47 = .ok (.putfield 26, 3) := by decide +kernel
theorem dM_init_50 : decode cM_init 50 = .ok (.aload_n 0, 1) := by decide +kernel
theorem dM_init_51 : decode cM_init 51 = .ok (.iconst 4, 1) := by decide +kernel
theorem dM_init_52 : decode cM_init 52 = .ok (.newarray .int, 2) := by decide +kernel
theorem dM_init_54 : decode cM_init 54 = .ok (.putfield 29, 3) := by decide +kernel
theorem dM_init_57 : decode cM_init 57 = .ok (.aload_n 0, 1) := by decide +kernel
theorem dM_init_58 : decode cM_init 58 = .ok (.bipush 6, 2) := by decide +kernel
theorem dM_init_60 : decode cM_init 60 = .ok (.newarray .int, 2) := by decide +kernel
theorem dM_init_62 : decode cM_init 62 = .ok (.putfield 32, 3) := by decide +kernel
theorem dM_init_65 : decode cM_init 65 = .ok (.aload_n 0, 1) := by decide +kernel
theorem dM_init_66 : decode cM_init 66 = .ok (.bipush 6, 2) := by decide +kernel
theorem dM_init_68 : decode cM_init 68 = .ok (.newarray .boolean, 2) := by decide +kernel
theorem dM_init_70 : decode cM_init 70 = .ok (.putfield 35, 3) := by decide +kernel
theorem dM_init_73 : decode cM_init 73 = .ok (.aload_n 0, 1) := by decide +kernel
theorem dM_init_74 : decode cM_init 74 = .ok (.bipush 40, 2) := by decide +kernel
theorem dM_init_76 : decode cM_init 76 = .ok (.newarray .int, 2) := by decide +kernel
theorem dM_init_78 : decode cM_init 78 = .ok (.putfield 38, 3) := by decide +kernel
theorem dM_init_81 : decode cM_init 81 = .ok (.aload_n 0, 1) := by decide +kernel
theorem dM_init_82 : decode cM_init 82 = .ok (.bipush 40, 2) := by decide +kernel
theorem dM_init_84 : decode cM_init 84 = .ok (.newarray .int, 2) := by decide +kernel
theorem dM_init_86 : decode cM_init 86 = .ok (.putfield 41, 3) := by decide +kernel
theorem dM_init_89 : decode cM_init 89 = .ok (.aload_n 0, 1) := by decide +kernel
theorem dM_init_90 : decode cM_init 90 = .ok (.bipush 40, 2) := by decide +kernel
theorem dM_init_92 : decode cM_init 92 = .ok (.newarray .int, 2) := by decide +kernel
theorem dM_init_94 : decode cM_init 94 = .ok (.putfield 44, 3) := by decide +kernel
theorem dM_init_97 : decode cM_init 97 = .ok (.aload_n 0, 1) := by decide +kernel
theorem dM_init_98 : decode cM_init 98 = .ok (.bipush 40, 2) := by decide +kernel
theorem dM_init_100 : decode cM_init 100 = .ok (.newarray .boolean, 2) := by decide +kernel
theorem dM_init_102 : decode cM_init 102 = .ok (.putfield 47, 3) := by decide +kernel
theorem dM_init_105 : decode cM_init 105 = .ok (.aload_n 0, 1) := by decide +kernel
theorem dM_init_106 : decode cM_init 106 = .ok (.bipush 40, 2) := by decide +kernel
theorem dM_init_108 : decode cM_init 108 = .ok (.newarray .boolean, 2) := by decide +kernel
theorem dM_init_110 : decode cM_init 110 = .ok (.putfield 50, 3) := by decide +kernel
theorem dM_init_113 : decode cM_init 113 = .ok (.aload_n 0, 1) := by decide +kernel
theorem dM_init_114 : decode cM_init 114 = .ok (.sipush 150, 3) := by decide +kernel
theorem dM_init_117 : decode cM_init 117 = .ok (.newarray .int, 2) := by decide +kernel
theorem dM_init_119 : decode cM_init 119 = .ok (.putfield 53, 3) := by decide +kernel
theorem dM_init_122 : decode cM_init 122 = .ok (.aload_n 0, 1) := by decide +kernel
theorem dM_init_123 : decode cM_init 123 = .ok (.sipush 150, 3) := by decide +kernel
theorem dM_init_126 : decode cM_init 126 = .ok (.newarray .int, 2) := by decide +kernel
theorem dM_init_128 : decode cM_init 128 = .ok (.putfield 56, 3) := by decide +kernel
theorem dM_init_131 : decode cM_init 131 = .ok (.aload_n 0, 1) := by decide +kernel
theorem dM_init_132 : decode cM_init 132 = .ok (.sipush 150, 3) := by decide +kernel
theorem dM_init_135 : decode cM_init 135 = .ok (.newarray .int, 2) := by decide +kernel
theorem dM_init_137 : decode cM_init 137 = .ok (.putfield 59, 3) := by decide +kernel
theorem dM_init_140 : decode cM_init 140 = .ok (.aload_n 0, 1) := by decide +kernel
theorem dM_init_141 : decode cM_init 141 = .ok (.sipush 150, 3) := by decide +kernel
theorem dM_init_144 : decode cM_init 144 = .ok (.newarray .int, 2) := by decide +kernel
theorem dM_init_146 : decode cM_init 146 = .ok (.putfield 62, 3) := by decide +kernel
theorem dM_init_149 : decode cM_init 149 = .ok (.aload_n 0, 1) := by decide +kernel
theorem dM_init_150 : decode cM_init 150 = .ok (.sipush 150, 3) := by decide +kernel
theorem dM_init_153 : decode cM_init 153 = .ok (.newarray .boolean, 2) := by decide +kernel
theorem dM_init_155 : decode cM_init 155 = .ok (.putfield 65, 3) := by decide +kernel
theorem dM_init_158 : decode cM_init 158 = .ok (.aload_n 0, 1) := by decide +kernel
theorem dM_init_159 : decode cM_init 159 = .ok (.sipush 150, 3) := by decide +kernel
theorem dM_init_162 : decode cM_init 162 = .ok (.newarray .int, 2) := by decide +kernel
theorem dM_init_164 : decode cM_init 164 = .ok (.putfield 68, 3) := by decide +kernel
theorem dM_init_167 : decode cM_init 167 = .ok (.aload_n 0, 1) := by decide +kernel
theorem dM_init_168 : decode cM_init 168 = .ok (.sipush 150, 3) := by decide +kernel
theorem dM_init_171 : decode cM_init 171 = .ok (.newarray .boolean, 2) := by decide +kernel
theorem dM_init_173 : decode cM_init 173 = .ok (.putfield 71, 3) := by decide +kernel
theorem dM_init_176 : decode cM_init 176 = .ok (.aload_n 0, 1) := by decide +kernel
theorem dM_init_177 : decode cM_init 177 = .ok (.sipush 200, 3) := by decide +kernel
theorem dM_init_180 : decode cM_init 180 = .ok (.newarray .int, 2) := by decide +kernel
theorem dM_init_182 : decode cM_init 182 = .ok (.putfield 74, 3) := by decide +kernel
theorem dM_init_185 : decode cM_init 185 = .ok (.aload_n 0, 1) := by decide +kernel
theorem dM_init_186 : decode cM_init 186 = .ok (.sipush 1400, 3) := by decide +kernel
theorem dM_init_189 : decode cM_init 189 = .ok (.newarray .int, 2) := by decide +kernel
theorem dM_init_191 : decode cM_init 191 = .ok (.putfield 77, 3) := by decide +kernel
theorem dM_init_194 : decode cM_init 194 = .ok (.aload_n 0, 1) := by decide +kernel
theorem dM_init_195 : decode cM_init 195 = .ok (.iconst (-1), 1) := by decide +kernel
theorem dM_init_196 : decode cM_init 196 = .ok (.putfield 80, 3) := by decide +kernel
theorem dM_init_199 : decode cM_init 199 = .ok (.aload_n 0, 1) := by decide +kernel
theorem dM_init_200 : decode cM_init 200 = .ok (.bipush 12, 2) := by decide +kernel
theorem dM_init_202 : decode cM_init 202 = .ok (.newarray .int, 2) := by decide +kernel
theorem dM_init_204 : decode cM_init 204 = .ok (.putfield 84, 3) := by decide +kernel
theorem dM_init_207 : decode cM_init 207 = .ok (.return_, 1) := by decide +kernel
theorem dM_letter_0 : decode cM_letter 0 = .ok (.aload_n 0, 1) := by decide +kernel
theorem dM_letter_1 : decode cM_letter 1 = .ok (.iload_n 1, 1) := by decide +kernel
theorem dM_letter_2 : decode cM_letter 2 = .ok (.bipush 32, 2) := by decide +kernel
theorem dM_letter_4 : decode cM_letter 4 = .ok (.bipush 126, 2) := by decide +kernel
theorem dM_letter_6 : decode cM_letter 6 = .ok (.invokestatic 90, 3) := by decide +kernel
theorem dM_letter_9 : decode cM_letter 9 = .ok (.ifCond .ne 7, 3) := by decide +kernel
theorem dM_letter_12 : decode cM_letter 12 = .ok (.iconst 1, 1) := by decide +kernel
theorem dM_letter_13 : decode cM_letter 13 = .ok (.goto 17, 3) := by decide +kernel
theorem dM_letter_16 : decode cM_letter 16 = .ok (.aload_n 0, 1) := by decide +kernel
theorem dM_letter_17 : decode cM_letter 17 = .ok (.getfield 94, 3) := by decide +kernel
theorem dM_letter_20 : decode cM_letter 20 = .ok (.bipush 8, 2) := by decide +kernel
theorem dM_letter_22 : decode cM_letter 22 = .ok (.if_icmp .ne 7, 3) := by decide +kernel
theorem dM_letter_25 : decode cM_letter 25 = .ok (.iconst 2, 1) := by decide +kernel
theorem dM_letter_26 : decode cM_letter 26 = .ok (.goto 4, 3) := by decide +kernel
theorem dM_letter_29 : decode cM_letter 29 = .ok (.iconst 0, 1) := by decide +kernel
theorem dM_letter_30 : decode cM_letter 30 = .ok (.putfield 87, 3) := by decide +kernel
theorem dM_letter_33 : decode cM_letter 33 = .ok (.aload_n 0, 1) := by decide +kernel
theorem dM_letter_34 : decode cM_letter 34 = .ok (.getfield 87, 3) := by decide +kernel
theorem dM_letter_37 : decode cM_letter 37 = .ok (.ifCond .ne 23, 3) := by decide +kernel
theorem dM_letter_40 : decode cM_letter 40 = .ok (.aload_n 0, 1) := by decide +kernel
theorem dM_letter_41 : decode cM_letter 41 = .ok (.getfield 7, 3) := by decide +kernel
theorem dM_letter_44 : decode cM_letter 44 = .ok (.aload_n 0, 1) := by decide +kernel
theorem dM_letter_45 : decode cM_letter 45 = .ok (.getfield 94, 3) := by decide +kernel
theorem dM_letter_48 : decode cM_letter 48 = .ok (.iload_n 1, 1) := by decide +kernel
theorem dM_letter_49 : decode cM_letter 49 = .ok (.iastore, 1) := by decide +kernel
theorem dM_letter_50 : decode cM_letter 50 = .ok (.aload_n 0, 1) := by decide +kernel
theorem dM_letter_51 : decode cM_letter 51 = .ok (.dup, 1) := by decide +kernel
theorem dM_letter_52 : decode cM_letter 52 = .ok (.getfield 94, 3) := by decide +kernel
theorem dM_letter_55 : decode cM_letter 55 = .ok (.iconst 1, 1) := by decide +kernel
theorem dM_letter_56 : decode cM_letter 56 = .ok (.iadd, 1) := by decide +kernel
theorem dM_letter_57 : decode cM_letter 57 = .ok (.putfield 94, 3) := by decide +kernel
theorem dM_letter_60 : decode cM_letter 60 = .ok (.aload_n 0, 1) := by decide +kernel
theorem dM_letter_61 : decode cM_letter 61 = .ok (.getfield 94, 3) := by decide +kernel
theorem dM_letter_64 : decode cM_letter 64 = .ok (.ireturn, 1) := by decide +kernel
theorem dM_within_0 : decode cM_within 0 = .ok (.iload_n 0, 1) := by decide +kernel
theorem dM_within_1 : decode cM_within 1 = .ok (.iload_n 1, 1) := by decide +kernel
theorem dM_within_2 : decode cM_within 2 = .ok (.if_icmp .lt 12, 3) := by decide +kernel
theorem dM_within_5 : decode cM_within 5 = .ok (.iload_n 0, 1) := by decide +kernel
theorem dM_within_6 : decode cM_within 6 = .ok (.iload_n 2, 1) := by decide +kernel
theorem dM_within_7 : decode cM_within 7 = .ok (.if_icmp .gt 7, 3) := by decide +kernel
theorem dM_within_10 : decode cM_within 10 = .ok (.iconst 1, 1) := by decide +kernel
theorem dM_within_11 : decode cM_within 11 = .ok (.goto 4, 3) := by decide +kernel
theorem dM_within_14 : decode cM_within 14 = .ok (.iconst 0, 1) := by decide +kernel
theorem dM_within_15 : decode cM_within 15 = .ok (.ireturn, 1) := by decide +kernel
theorem dM_text_0 : decode cM_text 0 = .ok (.aload_n 0, 1) := by decide +kernel
theorem dM_text_1 : decode cM_text 1 = .ok (.iload_n 1, 1) := by decide +kernel
theorem dM_text_2 : decode cM_text 2 = .ok (.iconst 0, 1) := by decide +kernel
theorem dM_text_3 : decode cM_text 3 = .ok (.iconst 3, 1) := by decide +kernel
theorem dM_text_4 : decode cM_text 4 = .ok (.invokestatic 90, 3) := by decide +kernel
theorem dM_text_7 : decode cM_text 7 = .ok (.ifCond .eq 12, 3) := by decide +kernel
theorem dM_text_10 : decode cM_text 10 = .ok (.iload_n 2, 1) := by decide +kernel
theorem dM_text_11 : decode cM_text 11 = .ok (.iconst 0, 1) := by decide +kernel
theorem dM_text_12 : decode cM_text 12 = .ok (.iconst 3, 1) := by decide +kernel
theorem dM_text_13 : decode cM_text 13 = .ok (.invokestatic 90, 3) := by decide +kernel
theorem dM_text_16 : decode cM_text 16 = .ok (.ifCond .ne 7, 3) := by decide +kernel
theorem dM_text_19 : decode cM_text 19 = .ok (.iconst 1, 1) := by decide +kernel
theorem dM_text_20 : decode cM_text 20 = .ok (.goto 4, 3) := by decide +kernel
theorem dM_text_23 : decode cM_text 23 = .ok (.iconst 0, 1) := by decide +kernel
theorem dM_text_24 : decode cM_text 24 = .ok (.putfield 87, 3) := by decide +kernel
theorem dM_text_27 : decode cM_text 27 = .ok (.aload_n 0, 1) := by decide +kernel
theorem dM_text_28 : decode cM_text 28 = .ok (.getfield 87, 3) := by decide +kernel
theorem dM_text_31 : decode cM_text 31 = .ok (.ifCond .le 5, 3) := by decide +kernel
theorem dM_text_34 : decode cM_text 34 = .ok (.iconst 0, 1) := by decide +kernel
theorem dM_text_35 : decode cM_text 35 = .ok (.ireturn, 1) := by decide +kernel
theorem dM_text_36 : decode cM_text 36 = .ok (.iconst 4, 1) := by decide +kernel
theorem dM_text_37 : decode cM_text 37 = .ok (.iload_n 1, 1) := by decide +kernel
theorem dM_text_38 : decode cM_text 38 = .ok (.imul, 1) := by decide +kernel
theorem dM_text_39 : decode cM_text 39 = .ok (.iload_n 2, 1) := by decide +kernel
theorem dM_text_40 : decode cM_text 40 = .ok (.iadd, 1) := by decide +kernel
theorem dM_text_41 : decode cM_text 41 = .ok (.istore_n 3, 1) := by decide +kernel
theorem dM_text_42 : decode cM_text 42 = .ok (.iconst 0, 1) := by decide +kernel
theorem dM_text_43 : decode cM_text 43 = .ok (.istore 4, 2) := by decide +kernel
theorem dM_text_45 : decode cM_text 45 = .ok (.iload 4, 2) := by decide +kernel
theorem dM_text_47 : decode cM_text 47 = .ok (.aload_n 0, 1) := by decide +kernel
theorem dM_text_48 : decode cM_text 48 = .ok (.getfield 94, 3) := by decide +kernel
theorem dM_text_51 : decode cM_text 51 = .ok (.if_icmp .ge 28, 3) := by decide +kernel
theorem dM_text_54 : decode cM_text 54 = .ok (.aload_n 0, 1) := by decide +kernel
theorem dM_text_55 : decode cM_text 55 = .ok (.getfield 13, 3) := by decide +kernel
theorem dM_text_58 : decode cM_text 58 = .ok (.bipush 8, 2) := by decide +kernel
theorem dM_text_60 : decode cM_text 60 = .ok (.iload_n 3, 1) := by decide +kernel
theorem dM_text_61 : decode cM_text 61 = .ok (.imul, 1) := by decide +kernel
theorem dM_text_62 : decode cM_text 62 = .ok (.iload 4, 2) := by decide +kernel
theorem dM_text_64 : decode cM_text 64 = .ok (.iadd, 1) := by decide +kernel
theorem dM_text_65 : decode cM_text 65 = .ok (.aload_n 0, 1) := by decide +kernel
theorem dM_text_66 : decode cM_text 66 = .ok (.getfield 7, 3) := by decide +kernel
theorem dM_text_69 : decode cM_text 69 = .ok (.iload 4, 2) := by decide +kernel
theorem dM_text_71 : decode cM_text 71 = .ok (.iaload, 1) := by decide +kernel
theorem dM_text_72 : decode cM_text 72 = .ok (.iastore, 1) := by decide +kernel
theorem dM_text_73 : decode cM_text 73 = .ok (.iinc 4 1, 3) := by decide +kernel
theorem dM_text_76 : decode cM_text 76 = .ok (.goto (-31), 3) := by decide +kernel
theorem dM_text_79 : decode cM_text 79 = .ok (.aload_n 0, 1) := by decide +kernel
theorem dM_text_80 : decode cM_text 80 = .ok (.getfield 16, 3) := by decide +kernel
theorem dM_text_83 : decode cM_text 83 = .ok (.iload_n 3, 1) := by decide +kernel
theorem dM_text_84 : decode cM_text 84 = .ok (.aload_n 0, 1) := by decide +kernel
theorem dM_text_85 : decode cM_text 85 = .ok (.getfield 94, 3) := by decide +kernel
theorem dM_text_88 : decode cM_text 88 = .ok (.iastore, 1) := by decide +kernel
theorem dM_text_89 : decode cM_text 89 = .ok (.aload_n 0, 1) := by decide +kernel
theorem dM_text_90 : decode cM_text 90 = .ok (.iconst 0, 1) := by decide +kernel
theorem dM_text_91 : decode cM_text 91 = .ok (.putfield 94, 3) := by decide +kernel
theorem dM_text_94 : decode cM_text 94 = .ok (.aload_n 0, 1) := by decide +kernel
theorem dM_text_95 : decode cM_text 95 = .ok (.getfield 16, 3) := by decide +kernel
theorem dM_text_98 : decode cM_text 98 = .ok (.iload_n 3, 1) := by decide +kernel
theorem dM_text_99 : decode cM_text 99 = .ok (.iaload, 1) := by decide +kernel
theorem dM_text_100 : decode cM_text 100 = .ok (.ireturn, 1) := by decide +kernel
theorem dM_password_0 : decode cM_password 0 = .ok (.aload_n 0, 1) := by decide +kernel
theorem dM_password_1 : decode cM_password 1 = .ok (.iload_n 1, 1) := by decide +kernel
theorem dM_password_2 : decode cM_password 2 = .ok (.iconst 0, 1) := by decide +kernel
theorem dM_password_3 : decode cM_password 3 = .ok (.iconst 3, 1) := by decide +kernel
theorem dM_password_4 : decode cM_password 4 = .ok (.invokestatic 90, 3) := by decide +kernel
theorem dM_password_7 : decode cM_password 7 = .ok (.ifCond .eq 7, 3) := by decide +kernel
theorem dM_password_10 : decode cM_password 10 = .ok (.iconst 0, 1) := by decide +kernel
theorem dM_password_11 : decode cM_password 11 = .ok (.goto 4, 3) := by decide +kernel
theorem dM_password_14 : decode cM_password 14 = .ok (.iconst 1, 1) := by decide +kernel
theorem dM_password_15 : decode cM_password 15 = .ok (.putfield 87, 3) := by decide +kernel
theorem dM_password_18 : decode cM_password 18 = .ok (.aload_n 0, 1) := by decide +kernel
theorem dM_password_19 : decode cM_password 19 = .ok (.getfield 87, 3) := by decide +kernel
theorem dM_password_22 : decode cM_password 22 = .ok (.ifCond .le 5, 3) := by decide +kernel
theorem dM_password_25 : decode cM_password 25 = .ok (.iconst 0, 1) := by decide +kernel
theorem dM_password_26 : decode cM_password 26 = .ok (.ireturn, 1) := by decide +kernel
theorem dM_password_27 : decode cM_password 27 = .ok (.aload_n 0, 1) := by decide +kernel
theorem dM_password_28 : decode cM_password 28 = .ok (.getfield 19, 3) := by decide +kernel
theorem dM_password_31 : decode cM_password 31 = .ok (.iload_n 1, 1) := by decide +kernel
theorem dM_password_32 : decode cM_password 32 = .ok (.iconst 1, 1) := by decide +kernel
theorem dM_password_33 : decode cM_password 33 = .ok (.bastore, 1) := by decide +kernel
theorem dM_password_34 : decode cM_password 34 = .ok (.aload_n 0, 1) := by decide +kernel
theorem dM_password_35 : decode cM_password 35 = .ok (.getfield 23, 3) := by decide +kernel
theorem dM_password_38 : decode cM_password 38 = .ok (.iload_n 1, 1) := by decide +kernel
theorem dM_password_39 : decode cM_password 39 = .ok (.iload_n 2, 1) := by decide +kernel
theorem dM_password_40 : decode cM_password 40 = .ok (.iastore, 1) := by decide +kernel
theorem dM_password_41 : decode cM_password 41 = .ok (.aload_n 0, 1) := by decide +kernel
theorem dM_password_42 : decode cM_password 42 = .ok (.getfield 26, 3) := by decide +kernel
theorem dM_password_45 : decode cM_password 45 = .ok (.iload_n 1, 1) := by decide +kernel
theorem dM_password_46 : decode cM_password 46 = .ok (.iconst 0, 1) := by decide +kernel
theorem dM_password_47 : decode cM_password 47 = .ok (.iastore, 1) := by decide +kernel
theorem dM_password_48 : decode cM_password 48 = .ok (.iconst 1, 1) := by decide +kernel
theorem dM_password_49 : decode cM_password 49 = .ok (.ireturn, 1) := by decide +kernel
theorem dM_service_0 : decode cM_service 0 = .ok (.aload_n 0, 1) := by decide +kernel
theorem dM_service_1 : decode cM_service 1 = .ok (.iload_n 1, 1) := by decide +kernel
theorem dM_service_2 : decode cM_service 2 = .ok (.iconst 0, 1) := by decide +kernel
theorem dM_service_3 : decode cM_service 3 = .ok (.iconst 5, 1) := by decide +kernel
theorem dM_service_4 : decode cM_service 4 = .ok (.invokestatic 90, 3) := by decide +kernel
theorem dM_service_7 : decode cM_service 7 = .ok (.ifCond .eq 17, 3) := by decide +kernel
theorem dM_service_10 : decode cM_service 10 = .ok (.iload_n 2, 1) := by decide +kernel
theorem dM_service_11 : decode cM_service 11 = .ok (.iconst 0, 1) := by decide +kernel
theorem dM_service_12 : decode cM_service 12 = .ok (.bipush 63, 2) := by decide +kernel
theorem dM_service_14 : decode cM_service 14 = .ok (.invokestatic 90, 3) := by decide +kernel
theorem dM_service_17 : decode cM_service 17 = .ok (.ifCond .eq 7, 3) := by decide +kernel
theorem dM_service_20 : decode cM_service 20 = .ok (.iconst 0, 1) := by decide +kernel
theorem dM_service_21 : decode cM_service 21 = .ok (.goto 4, 3) := by decide +kernel
theorem dM_service_24 : decode cM_service 24 = .ok (.iconst 1, 1) := by decide +kernel
theorem dM_service_25 : decode cM_service 25 = .ok (.putfield 87, 3) := by decide +kernel
theorem dM_service_28 : decode cM_service 28 = .ok (.aload_n 0, 1) := by decide +kernel
theorem dM_service_29 : decode cM_service 29 = .ok (.getfield 87, 3) := by decide +kernel
theorem dM_service_32 : decode cM_service 32 = .ok (.ifCond .le 5, 3) := by decide +kernel
theorem dM_service_35 : decode cM_service 35 = .ok (.iconst 0, 1) := by decide +kernel
theorem dM_service_36 : decode cM_service 36 = .ok (.ireturn, 1) := by decide +kernel
theorem dM_service_37 : decode cM_service 37 = .ok (.aload_n 0, 1) := by decide +kernel
theorem dM_service_38 : decode cM_service 38 = .ok (.getfield 32, 3) := by decide +kernel
theorem dM_service_41 : decode cM_service 41 = .ok (.iload_n 1, 1) := by decide +kernel
theorem dM_service_42 : decode cM_service 42 = .ok (.iaload, 1) := by decide +kernel
theorem dM_service_43 : decode cM_service 43 = .ok (.istore_n 3, 1) := by decide +kernel
theorem dM_service_44 : decode cM_service 44 = .ok (.aload_n 0, 1) := by decide +kernel
theorem dM_service_45 : decode cM_service 45 = .ok (.getfield 32, 3) := by decide +kernel
theorem dM_service_48 : decode cM_service 48 = .ok (.iload_n 1, 1) := by decide +kernel
theorem dM_service_49 : decode cM_service 49 = .ok (.iload_n 2, 1) := by decide +kernel
theorem dM_service_50 : decode cM_service 50 = .ok (.iastore, 1) := by decide +kernel
theorem dM_service_51 : decode cM_service 51 = .ok (.iload_n 3, 1) := by decide +kernel
theorem dM_service_52 : decode cM_service 52 = .ok (.ireturn, 1) := by decide +kernel
theorem dM_callback_0 : decode cM_callback 0 = .ok (.aload_n 0, 1) := by decide +kernel
theorem dM_callback_1 : decode cM_callback 1 = .ok (.iload_n 1, 1) := by decide +kernel
theorem dM_callback_2 : decode cM_callback 2 = .ok (.iconst 1, 1) := by decide +kernel
theorem dM_callback_3 : decode cM_callback 3 = .ok (.iconst 5, 1) := by decide +kernel
theorem dM_callback_4 : decode cM_callback 4 = .ok (.invokestatic 90, 3) := by decide +kernel
theorem dM_callback_7 : decode cM_callback 7 = .ok (.ifCond .eq 7, 3) := by decide +kernel
theorem dM_callback_10 : decode cM_callback 10 = .ok (.iconst 0, 1) := by decide +kernel
theorem dM_callback_11 : decode cM_callback 11 = .ok (.goto 4, 3) := by decide +kernel
theorem dM_callback_14 : decode cM_callback 14 = .ok (.iconst 1, 1) := by decide +kernel
theorem dM_callback_15 : decode cM_callback 15 = .ok (.putfield 87, 3) := by decide +kernel
theorem dM_callback_18 : decode cM_callback 18 = .ok (.aload_n 0, 1) := by decide +kernel
theorem dM_callback_19 : decode cM_callback 19 = .ok (.getfield 87, 3) := by decide +kernel
theorem dM_callback_22 : decode cM_callback 22 = .ok (.ifCond .le 5, 3) := by decide +kernel
theorem dM_callback_25 : decode cM_callback 25 = .ok (.iconst 0, 1) := by decide +kernel
theorem dM_callback_26 : decode cM_callback 26 = .ok (.ireturn, 1) := by decide +kernel
theorem dM_callback_27 : decode cM_callback 27 = .ok (.aload_n 0, 1) := by decide +kernel
theorem dM_callback_28 : decode cM_callback 28 = .ok (.getfield 35, 3) := by decide +kernel
theorem dM_callback_31 : decode cM_callback 31 = .ok (.iload_n 1, 1) := by decide +kernel
theorem dM_callback_32 : decode cM_callback 32 = .ok (.baload, 1) := by decide +kernel
theorem dM_callback_33 : decode cM_callback 33 = .ok (.ifCond .ne 7, 3) := by decide +kernel
theorem dM_callback_36 : decode cM_callback 36 = .ok (.iconst 1, 1) := by decide +kernel
theorem dM_callback_37 : decode cM_callback 37 = .ok (.goto 4, 3) := by decide +kernel
theorem dM_callback_40 : decode cM_callback 40 = .ok (.iconst 0, 1) := by decide +kernel
theorem dM_callback_41 : decode cM_callback 41 = .ok (.istore_n 3, 1) := by decide +kernel
theorem dM_callback_42 : decode cM_callback 42 = .ok (.aload_n 0, 1) := by decide +kernel
theorem dM_callback_43 : decode cM_callback 43 = .ok (.getfield 35, 3) := by decide +kernel
theorem dM_callback_46 : decode cM_callback 46 = .ok (.iload_n 1, 1) := by decide +kernel
theorem dM_callback_47 : decode cM_callback 47 = .ok (.iload_n 2, 1) := by decide +kernel
theorem dM_callback_48 : decode cM_callback 48 = .ok (.ifCond .ne 7, 3) := by decide +kernel
theorem dM_callback_51 : decode cM_callback 51 = .ok (.iconst 1, 1) := by decide +kernel
theorem dM_callback_52 : decode cM_callback 52 = .ok (.goto 4, 3) := by decide +kernel
theorem dM_callback_55 : decode cM_callback 55 = .ok (.iconst 0, 1) := by decide +kernel
theorem dM_callback_56 : decode cM_callback 56 = .ok (.bastore, 1) := by decide +kernel
theorem dM_callback_57 : decode cM_callback 57 = .ok (.iload_n 3, 1) := by decide +kernel
theorem dM_callback_58 : decode cM_callback 58 = .ok (.ireturn, 1) := by decide +kernel
theorem dM_login_0 : decode cM_login 0 = .ok (.aload_n 0, 1) := by decide +kernel
theorem dM_login_1 : decode cM_login 1 = .ok (.iload_n 1, 1) := by decide +kernel
theorem dM_login_2 : decode cM_login 2 = .ok (.iconst 0, 1) := by decide +kernel
theorem dM_login_3 : decode cM_login 3 = .ok (.iconst 3, 1) := by decide +kernel
theorem dM_login_4 : decode cM_login 4 = .ok (.invokestatic 90, 3) := by decide +kernel
theorem dM_login_7 : decode cM_login 7 = .ok (.ifCond .ne 7, 3) := by decide +kernel
theorem dM_login_10 : decode cM_login 10 = .ok (.iconst 1, 1) := by decide +kernel
theorem dM_login_11 : decode cM_login 11 = .ok (.goto 17, 3) := by decide +kernel
theorem dM_login_14 : decode cM_login 14 = .ok (.aload_n 0, 1) := by decide +kernel
theorem dM_login_15 : decode cM_login 15 = .ok (.getfield 104, 3) := by decide +kernel
theorem dM_login_18 : decode cM_login 18 = .ok (.bipush 40, 2) := by decide +kernel
theorem dM_login_20 : decode cM_login 20 = .ok (.if_icmp .ne 7, 3) := by decide +kernel
theorem dM_login_23 : decode cM_login 23 = .ok (.iconst 2, 1) := by decide +kernel
theorem dM_login_24 : decode cM_login 24 = .ok (.goto 4, 3) := by decide +kernel
theorem dM_login_27 : decode cM_login 27 = .ok (.iconst 0, 1) := by decide +kernel
