theorem dM_login_28 : decode cM_login 28 = .ok (.putfield 87, 3) := by decide +kernel
theorem dM_login_31 : decode cM_login 31 = .ok (.aload_n 0, 1) := by decide +kernel
theorem dM_login_32 : decode cM_login 32 = .ok (.getfield 87, 3) := by decide +kernel
theorem dM_login_35 : decode cM_login 35 = .ok (.ifCond .le 7, 3) := by decide +kernel
theorem dM_login_38 : decode cM_login 38 = .ok (.iconst 0, 1) := by decide +kernel
theorem dM_login_39 : decode cM_login 39 = .ok (.goto 10, 3) := by decide +kernel
theorem dM_login_42 : decode cM_login 42 = .ok (.aload_n 0, 1) := by decide +kernel
theorem dM_login_43 : decode cM_login 43 = .ok (.iload_n 1, 1) := by decide +kernel
theorem dM_login_44 : decode cM_login 44 = .ok (.iload_n 2, 1) := by decide +kernel
theorem dM_login_45 : decode cM_login 45 = .ok (.iload_n 3, 1) := by decide +kernel
theorem dM_login_46 : decode cM_login 46 = .ok (.invokevirtual 107, 3) := by decide +kernel
theorem dM_login_49 : decode cM_login 49 = .ok (.ireturn, 1) := by decide +kernel
theorem dM_tries_0 : decode cM_tries 0 = .ok (.aload_n 0, 1) := by decide +kernel
theorem dM_tries_1 : decode cM_tries 1 = .ok (.getfield 19, 3) := by decide +kernel
theorem dM_tries_4 : decode cM_tries 4 = .ok (.iload_n 1, 1) := by decide +kernel
theorem dM_tries_5 : decode cM_tries 5 = .ok (.baload, 1) := by decide +kernel
theorem dM_tries_6 : decode cM_tries 6 = .ok (.ifCond .ne 6, 3) := by decide +kernel
theorem dM_tries_9 : decode cM_tries 9 = .ok (.bipush (-2), 2) := by decide +kernel
theorem dM_tries_11 : decode cM_tries 11 = .ok (.ireturn, 1) := by decide +kernel
theorem dM_tries_12 : decode cM_tries 12 = .ok (.aload_n 0, 1) := by decide +kernel
theorem dM_tries_13 : decode cM_tries 13 = .ok (.iload_n 1, 1) := by decide +kernel
theorem dM_tries_14 : decode cM_tries 14 = .ok (.invokevirtual 100, 3) := by decide +kernel
theorem dM_tries_17 : decode cM_tries 17 = .ok (.istore 4, 2) := by decide +kernel
theorem dM_tries_19 : decode cM_tries 19 = .ok (.iload 4, 2) := by decide +kernel
theorem dM_tries_21 : decode cM_tries 21 = .ok (.iconst 3, 1) := by decide +kernel
theorem dM_tries_22 : decode cM_tries 22 = .ok (.if_icmp .ne 6, 3) := by decide +kernel
theorem dM_tries_25 : decode cM_tries 25 = .ok (.bipush (-3), 2) := by decide +kernel
theorem dM_tries_27 : decode cM_tries 27 = .ok (.ireturn, 1) := by decide +kernel
theorem dM_tries_28 : decode cM_tries 28 = .ok (.aload_n 0, 1) := by decide +kernel
theorem dM_tries_29 : decode cM_tries 29 = .ok (.getfield 23, 3) := by decide +kernel
theorem dM_tries_32 : decode cM_tries 32 = .ok (.iload_n 1, 1) := by decide +kernel
theorem dM_tries_33 : decode cM_tries 33 = .ok (.iaload, 1) := by decide +kernel
theorem dM_tries_34 : decode cM_tries 34 = .ok (.iload_n 2, 1) := by decide +kernel
theorem dM_tries_35 : decode cM_tries 35 = .ok (.if_icmp .eq 26, 3) := by decide +kernel
theorem dM_tries_38 : decode cM_tries 38 = .ok (.aload_n 0, 1) := by decide +kernel
theorem dM_tries_39 : decode cM_tries 39 = .ok (.getfield 26, 3) := by decide +kernel
theorem dM_tries_42 : decode cM_tries 42 = .ok (.iload_n 1, 1) := by decide +kernel
theorem dM_tries_43 : decode cM_tries 43 = .ok (.iload 4, 2) := by decide +kernel
theorem dM_tries_45 : decode cM_tries 45 = .ok (.iconst 1, 1) := by decide +kernel
theorem dM_tries_46 : decode cM_tries 46 = .ok (.iadd, 1) := by decide +kernel
theorem dM_tries_47 : decode cM_tries 47 = .ok (.iastore, 1) := by decide +kernel
theorem dM_tries_48 : decode cM_tries 48 = .ok (.aload_n 0, 1) := by decide +kernel
theorem dM_tries_49 : decode cM_tries 49 = .ok (.getfield 29, 3) := by decide +kernel
theorem dM_tries_52 : decode cM_tries 52 = .ok (.iload_n 1, 1) := by decide +kernel
theorem dM_tries_53 : decode cM_tries 53 = .ok (.aload_n 0, 1) := by decide +kernel
theorem dM_tries_54 : decode cM_tries 54 = .ok (.getfield 97, 3) := by decide +kernel
theorem dM_tries_57 : decode cM_tries 57 = .ok (.iastore, 1) := by decide +kernel
theorem dM_tries_58 : decode cM_tries 58 = .ok (.bipush (-2), 2) := by decide +kernel
theorem dM_tries_60 : decode cM_tries 60 = .ok (.ireturn, 1) := by decide +kernel
theorem dM_tries_61 : decode cM_tries 61 = .ok (.aload_n 0, 1) := by decide +kernel
theorem dM_tries_62 : decode cM_tries 62 = .ok (.getfield 26, 3) := by decide +kernel
theorem dM_tries_65 : decode cM_tries 65 = .ok (.iload_n 1, 1) := by decide +kernel
theorem dM_tries_66 : decode cM_tries 66 = .ok (.iconst 0, 1) := by decide +kernel
theorem dM_tries_67 : decode cM_tries 67 = .ok (.iastore, 1) := by decide +kernel
theorem dM_tries_68 : decode cM_tries 68 = .ok (.aload_n 0, 1) := by decide +kernel
theorem dM_tries_69 : decode cM_tries 69 = .ok (.getfield 38, 3) := by decide +kernel
theorem dM_tries_72 : decode cM_tries 72 = .ok (.aload_n 0, 1) := by decide +kernel
theorem dM_tries_73 : decode cM_tries 73 = .ok (.getfield 104, 3) := by decide +kernel
theorem dM_tries_76 : decode cM_tries 76 = .ok (.iload_n 1, 1) := by decide +kernel
theorem dM_tries_77 : decode cM_tries 77 = .ok (.iastore, 1) := by decide +kernel
theorem dM_tries_78 : decode cM_tries 78 = .ok (.aload_n 0, 1) := by decide +kernel
theorem dM_tries_79 : decode cM_tries 79 = .ok (.getfield 41, 3) := by decide +kernel
theorem dM_tries_82 : decode cM_tries 82 = .ok (.aload_n 0, 1) := by decide +kernel
theorem dM_tries_83 : decode cM_tries 83 = .ok (.getfield 104, 3) := by decide +kernel
theorem dM_tries_86 : decode cM_tries 86 = .ok (.aload_n 0, 1) := by decide +kernel
theorem dM_tries_87 : decode cM_tries 87 = .ok (.getfield 97, 3) := by decide +kernel
theorem dM_tries_90 : decode cM_tries 90 = .ok (.iastore, 1) := by decide +kernel
theorem dM_tries_91 : decode cM_tries 91 = .ok (.aload_n 0, 1) := by decide +kernel
theorem dM_tries_92 : decode cM_tries 92 = .ok (.getfield 44, 3) := by decide +kernel
theorem dM_tries_95 : decode cM_tries 95 = .ok (.aload_n 0, 1) := by decide +kernel
theorem dM_tries_96 : decode cM_tries 96 = .ok (.getfield 104, 3) := by decide +kernel
theorem dM_tries_99 : decode cM_tries 99 = .ok (.aload_n 0, 1) := by decide +kernel
theorem dM_tries_100 : decode cM_tries 100 = .ok (.getfield 97, 3) := by decide +kernel
theorem dM_tries_103 : decode cM_tries 103 = .ok (.iastore, 1) := by decide +kernel
theorem dM_tries_104 : decode cM_tries 104 = .ok (.aload_n 0, 1) := by decide +kernel
theorem dM_tries_105 : decode cM_tries 105 = .ok (.getfield 47, 3) := by decide +kernel
theorem dM_tries_108 : decode cM_tries 108 = .ok (.aload_n 0, 1) := by decide +kernel
theorem dM_tries_109 : decode cM_tries 109 = .ok (.getfield 104, 3) := by decide +kernel
theorem dM_tries_112 : decode cM_tries 112 = .ok (.iload_n 3, 1) := by decide +kernel
theorem dM_tries_113 : decode cM_tries 113 = .ok (.bastore, 1) := by decide +kernel
theorem dM_tries_114 : decode cM_tries 114 = .ok (.aload_n 0, 1) := by decide +kernel
theorem dM_tries_115 : decode cM_tries 115 = .ok (.getfield 50, 3) := by decide +kernel
theorem dM_tries_118 : decode cM_tries 118 = .ok (.aload_n 0, 1) := by decide +kernel
theorem dM_tries_119 : decode cM_tries 119 = .ok (.getfield 104, 3) := by decide +kernel
theorem dM_tries_122 : decode cM_tries 122 = .ok (.iconst 0, 1) := by decide +kernel
theorem dM_tries_123 : decode cM_tries 123 = .ok (.bastore, 1) := by decide +kernel
theorem dM_tries_124 : decode cM_tries 124 = .ok (.aload_n 0, 1) := by decide +kernel
theorem dM_tries_125 : decode cM_tries 125 = .ok (.dup, 1) := by decide +kernel
theorem dM_tries_126 : decode cM_tries 126 = .ok (.getfield 104, 3) := by decide +kernel
theorem dM_tries_129 : decode cM_tries 129 = .ok (.iconst 1, 1) := by decide +kernel
theorem dM_tries_130 : decode cM_tries 130 = .ok (.iadd, 1) := by decide +kernel
theorem dM_tries_131 : decode cM_tries 131 = .ok (.putfield 104, 3) := by decide +kernel
theorem dM_tries_134 : decode cM_tries 134 = .ok (.aload_n 0, 1) := by decide +kernel
theorem dM_tries_135 : decode cM_tries 135 = .ok (.getfield 104, 3) := by decide +kernel
theorem dM_tries_138 : decode cM_tries 138 = .ok (.iconst 1, 1) := by decide +kernel
theorem dM_tries_139 : decode cM_tries 139 = .ok (.isub, 1) := by decide +kernel
theorem dM_tries_140 : decode cM_tries 140 = .ok (.ireturn, 1) := by decide +kernel
theorem dM_counting_0 : decode cM_counting 0 = .ok (.aload_n 0, 1) := by decide +kernel
theorem dM_counting_1 : decode cM_counting 1 = .ok (.getfield 26, 3) := by decide +kernel
theorem dM_counting_4 : decode cM_counting 4 = .ok (.iload_n 1, 1) := by decide +kernel
theorem dM_counting_5 : decode cM_counting 5 = .ok (.iaload, 1) := by decide +kernel
theorem dM_counting_6 : decode cM_counting 6 = .ok (.iconst 3, 1) := by decide +kernel
theorem dM_counting_7 : decode cM_counting 7 = .ok (.if_icmp .ne 23, 3) := by decide +kernel
theorem dM_counting_10 : decode cM_counting 10 = .ok (.aload_n 0, 1) := by decide +kernel
theorem dM_counting_11 : decode cM_counting 11 = .ok (.getfield 97, 3) := by decide +kernel
theorem dM_counting_14 : decode cM_counting 14 = .ok (.aload_n 0, 1) := by decide +kernel
theorem dM_counting_15 : decode cM_counting 15 = .ok (.getfield 29, 3) := by decide +kernel
theorem dM_counting_18 : decode cM_counting 18 = .ok (.iload_n 1, 1) := by decide +kernel
theorem dM_counting_19 : decode cM_counting 19 = .ok (.iaload, 1) := by decide +kernel
theorem dM_counting_20 : decode cM_counting 20 = .ok (.isub, 1) := by decide +kernel
theorem dM_counting_21 : decode cM_counting 21 = .ok (.bipush 20, 2) := by decide +kernel
theorem dM_counting_23 : decode cM_counting 23 = .ok (.if_icmp .le 7, 3) := by decide +kernel
theorem dM_counting_26 : decode cM_counting 26 = .ok (.iconst 0, 1) := by decide +kernel
theorem dM_counting_27 : decode cM_counting 27 = .ok (.goto 9, 3) := by decide +kernel
theorem dM_counting_30 : decode cM_counting 30 = .ok (.aload_n 0, 1) := by decide +kernel
theorem dM_counting_31 : decode cM_counting 31 = .ok (.getfield 26, 3) := by decide +kernel
theorem dM_counting_34 : decode cM_counting 34 = .ok (.iload_n 1, 1) := by decide +kernel
theorem dM_counting_35 : decode cM_counting 35 = .ok (.iaload, 1) := by decide +kernel
theorem dM_counting_36 : decode cM_counting 36 = .ok (.ireturn, 1) := by decide +kernel
theorem dM_enter_0 : decode cM_enter 0 = .ok (.aload_n 0, 1) := by decide +kernel
theorem dM_enter_1 : decode cM_enter 1 = .ok (.iload_n 1, 1) := by decide +kernel
theorem dM_enter_2 : decode cM_enter 2 = .ok (.iconst 0, 1) := by decide +kernel
theorem dM_enter_3 : decode cM_enter 3 = .ok (.iconst 3, 1) := by decide +kernel
theorem dM_enter_4 : decode cM_enter 4 = .ok (.invokestatic 90, 3) := by decide +kernel
theorem dM_enter_7 : decode cM_enter 7 = .ok (.ifCond .eq 11, 3) := by decide +kernel
theorem dM_enter_10 : decode cM_enter 10 = .ok (.aload_n 0, 1) := by decide +kernel
theorem dM_enter_11 : decode cM_enter 11 = .ok (.iload_n 3, 1) := by decide +kernel
theorem dM_enter_12 : decode cM_enter 12 = .ok (.invokevirtual 114, 3) := by decide +kernel
theorem dM_enter_15 : decode cM_enter 15 = .ok (.ifCond .ne 7, 3) := by decide +kernel
theorem dM_enter_18 : decode cM_enter 18 = .ok (.iconst 1, 1) := by decide +kernel
theorem dM_enter_19 : decode cM_enter 19 = .ok (.goto 27, 3) := by decide +kernel
theorem dM_enter_22 : decode cM_enter 22 = .ok (.aload_n 0, 1) := by decide +kernel
theorem dM_enter_23 : decode cM_enter 23 = .ok (.getfield 104, 3) := by decide +kernel
theorem dM_enter_26 : decode cM_enter 26 = .ok (.bipush 40, 2) := by decide +kernel
theorem dM_enter_28 : decode cM_enter 28 = .ok (.if_icmp .eq 13, 3) := by decide +kernel
theorem dM_enter_31 : decode cM_enter 31 = .ok (.aload_n 0, 1) := by decide +kernel
theorem dM_enter_32 : decode cM_enter 32 = .ok (.getfield 111, 3) := by decide +kernel
theorem dM_enter_35 : decode cM_enter 35 = .ok (.sipush 150, 3) := by decide +kernel
theorem dM_enter_38 : decode cM_enter 38 = .ok (.if_icmp .ne 7, 3) := by decide +kernel
theorem dM_enter_41 : decode cM_enter 41 = .ok (.iconst 2, 1) := by decide +kernel
theorem dM_enter_42 : decode cM_enter 42 = .ok (.goto 4, 3) := by decide +kernel
theorem dM_enter_45 : decode cM_enter 45 = .ok (.iconst 0, 1) := by decide +kernel
theorem dM_enter_46 : decode cM_enter 46 = .ok (.putfield 87, 3) := by decide +kernel
theorem dM_enter_49 : decode cM_enter 49 = .ok (.aload_n 0, 1) := by decide +kernel
theorem dM_enter_50 : decode cM_enter 50 = .ok (.getfield 87, 3) := by decide +kernel
theorem dM_enter_53 : decode cM_enter 53 = .ok (.ifCond .le 5, 3) := by decide +kernel
theorem dM_enter_56 : decode cM_enter 56 = .ok (.iconst 0, 1) := by decide +kernel
theorem dM_enter_57 : decode cM_enter 57 = .ok (.ireturn, 1) := by decide +kernel
theorem dM_enter_58 : decode cM_enter 58 = .ok (.aload_n 0, 1) := by decide +kernel
theorem dM_enter_59 : decode cM_enter 59 = .ok (.iload_n 1, 1) := by decide +kernel
theorem dM_enter_60 : decode cM_enter 60 = .ok (.iload_n 2, 1) := by decide +kernel
theorem dM_enter_61 : decode cM_enter 61 = .ok (.iconst 0, 1) := by decide +kernel
theorem dM_enter_62 : decode cM_enter 62 = .ok (.invokevirtual 107, 3) := by decide +kernel
theorem dM_enter_65 : decode cM_enter 65 = .ok (.istore 4, 2) := by decide +kernel
theorem dM_enter_67 : decode cM_enter 67 = .ok (.iload 4, 2) := by decide +kernel
theorem dM_enter_69 : decode cM_enter 69 = .ok (.ifCond .ge 8, 3) := by decide +kernel
theorem dM_enter_72 : decode cM_enter 72 = .ok (.iload 4, 2) := by decide +kernel
theorem dM_enter_74 : decode cM_enter 74 = .ok (.goto 13, 3) := by decide +kernel
theorem dM_enter_77 : decode cM_enter 77 = .ok (.aload_n 0, 1) := by decide +kernel
theorem dM_enter_78 : decode cM_enter 78 = .ok (.iconst 0, 1) := by decide +kernel
theorem dM_enter_79 : decode cM_enter 79 = .ok (.iload 4, 2) := by decide +kernel
theorem dM_enter_81 : decode cM_enter 81 = .ok (.iload_n 3, 1) := by decide +kernel
theorem dM_enter_82 : decode cM_enter 82 = .ok (.iconst 1, 1) := by decide +kernel
theorem dM_enter_83 : decode cM_enter 83 = .ok (.iconst (-1), 1) := by decide +kernel
theorem dM_enter_84 : decode cM_enter 84 = .ok (.invokevirtual 118, 3) := by decide +kernel
theorem dM_enter_87 : decode cM_enter 87 = .ok (.ireturn, 1) := by decide +kernel
theorem dM_enabled_0 : decode cM_enabled 0 = .ok (.iload_n 1, 1) := by decide +kernel
theorem dM_enabled_1 : decode cM_enabled 1 = .ok (.iconst 0, 1) := by decide +kernel
theorem dM_enabled_2 : decode cM_enabled 2 = .ok (.iconst 5, 1) := by decide +kernel
theorem dM_enabled_3 : decode cM_enabled 3 = .ok (.invokestatic 90, 3) := by decide +kernel
theorem dM_enabled_6 : decode cM_enabled 6 = .ok (.ifCond .eq 19, 3) := by decide +kernel
theorem dM_enabled_9 : decode cM_enabled 9 = .ok (.aload_n 0, 1) := by decide +kernel
theorem dM_enabled_10 : decode cM_enabled 10 = .ok (.getfield 32, 3) := by decide +kernel
theorem dM_enabled_13 : decode cM_enabled 13 = .ok (.iload_n 1, 1) := by decide +kernel
theorem dM_enabled_14 : decode cM_enabled 14 = .ok (.iaload, 1) := by decide +kernel
theorem dM_enabled_15 : decode cM_enabled 15 = .ok (.iconst 2, 1) := by decide +kernel
theorem dM_enabled_16 : decode cM_enabled 16 = .ok (.irem, 1) := by decide +kernel
theorem dM_enabled_17 : decode cM_enabled 17 = .ok (.iconst 1, 1) := by decide +kernel
theorem dM_enabled_18 : decode cM_enabled 18 = .ok (.if_icmp .ne 7, 3) := by decide +kernel
theorem dM_enabled_21 : decode cM_enabled 21 = .ok (.iconst 1, 1) := by decide +kernel
theorem dM_enabled_22 : decode cM_enabled 22 = .ok (.goto 4, 3) := by decide +kernel
theorem dM_enabled_25 : decode cM_enabled 25 = .ok (.iconst 0, 1) := by decide +kernel
theorem dM_enabled_26 : decode cM_enabled 26 = .ok (.ireturn, 1) := by decide +kernel
theorem dM_give_0 : decode cM_give 0 = .ok (.aload_n 0, 1) := by decide +kernel
theorem dM_give_1 : decode cM_give 1 = .ok (.getfield 53, 3) := by decide +kernel
theorem dM_give_4 : decode cM_give 4 = .ok (.aload_n 0, 1) := by decide +kernel
theorem dM_give_5 : decode cM_give 5 = .ok (.getfield 111, 3) := by decide +kernel
theorem dM_give_8 : decode cM_give 8 = .ok (.iload_n 1, 1) := by decide +kernel
theorem dM_give_9 : decode cM_give 9 = .ok (.iastore, 1) := by decide +kernel
theorem dM_give_10 : decode cM_give 10 = .ok (.aload_n 0, 1) := by decide +kernel
theorem dM_give_11 : decode cM_give 11 = .ok (.getfield 56, 3) := by decide +kernel
theorem dM_give_14 : decode cM_give 14 = .ok (.aload_n 0, 1) := by decide +kernel
theorem dM_give_15 : decode cM_give 15 = .ok (.getfield 111, 3) := by decide +kernel
theorem dM_give_18 : decode cM_give 18 = .ok (.iload_n 2, 1) := by decide +kernel
theorem dM_give_19 : decode cM_give 19 = .ok (.iastore, 1) := by decide +kernel
theorem dM_give_20 : decode cM_give 20 = .ok (.aload_n 0, 1) := by decide +kernel
theorem dM_give_21 : decode cM_give 21 = .ok (.getfield 59, 3) := by decide +kernel
theorem dM_give_24 : decode cM_give 24 = .ok (.aload_n 0, 1) := by decide +kernel
theorem dM_give_25 : decode cM_give 25 = .ok (.getfield 111, 3) := by decide +kernel
theorem dM_give_28 : decode cM_give 28 = .ok (.iload_n 3, 1) := by decide +kernel
theorem dM_give_29 : decode cM_give 29 = .ok (.iastore, 1) := by decide +kernel
theorem dM_give_30 : decode cM_give 30 = .ok (.aload_n 0, 1) := by decide +kernel
theorem dM_give_31 : decode cM_give 31 = .ok (.getfield 62, 3) := by decide +kernel
theorem dM_give_34 : decode cM_give 34 = .ok (.aload_n 0, 1) := by decide +kernel
theorem dM_give_35 : decode cM_give 35 = .ok (.getfield 111, 3) := by decide +kernel
theorem dM_give_38 : decode cM_give 38 = .ok (.aload_n 0, 1) := by decide +kernel
theorem dM_give_39 : decode cM_give 39 = .ok (.getfield 97, 3) := by decide +kernel
theorem dM_give_42 : decode cM_give 42 = .ok (.iastore, 1) := by decide +kernel
theorem dM_give_43 : decode cM_give 43 = .ok (.aload_n 0, 1) := by decide +kernel
theorem dM_give_44 : decode cM_give 44 = .ok (.getfield 65, 3) := by decide +kernel
theorem dM_give_47 : decode cM_give 47 = .ok (.aload_n 0, 1) := by decide +kernel
theorem dM_give_48 : decode cM_give 48 = .ok (.getfield 111, 3) := by decide +kernel
theorem dM_give_51 : decode cM_give 51 = .ok (.iload 4, 2) := by decide +kernel
theorem dM_give_53 : decode cM_give 53 = .ok (.bastore, 1) := by decide +kernel
theorem dM_give_54 : decode cM_give 54 = .ok (.aload_n 0, 1) := by decide +kernel
theorem dM_give_55 : decode cM_give 55 = .ok (.getfield 68, 3) := by decide +kernel
theorem dM_give_58 : decode cM_give 58 = .ok (.aload_n 0, 1) := by decide +kernel
theorem dM_give_59 : decode cM_give 59 = .ok (.getfield 111, 3) := by decide +kernel
theorem dM_give_62 : decode cM_give 62 = .ok (.iload 5, 2) := by decide +kernel
theorem dM_give_64 : decode cM_give 64 = .ok (.iastore, 1) := by decide +kernel
theorem dM_give_65 : decode cM_give 65 = .ok (.aload_n 0, 1) := by decide +kernel
theorem dM_give_66 : decode cM_give 66 = .ok (.getfield 71, 3) := by decide +kernel
theorem dM_give_69 : decode cM_give 69 = .ok (.aload_n 0, 1) := by decide +kernel
theorem dM_give_70 : decode cM_give 70 = .ok (.getfield 111, 3) := by decide +kernel
theorem dM_give_73 : decode cM_give 73 = .ok (.iconst 0, 1) := by decide +kernel
theorem dM_give_74 : decode cM_give 74 = .ok (.bastore, 1) := by decide +kernel
theorem dM_give_75 : decode cM_give 75 = .ok (.aload_n 0, 1) := by decide +kernel
theorem dM_give_76 : decode cM_give 76 = .ok (.dup, 1) := by decide +kernel
theorem dM_give_77 : decode cM_give 77 = .ok (.getfield 111, 3) := by decide +kernel
theorem dM_give_80 : decode cM_give 80 = .ok (.iconst 1, 1) := by decide +kernel
theorem dM_give_81 : decode cM_give 81 = .ok (.iadd, 1) := by decide +kernel
theorem dM_give_82 : decode cM_give 82 = .ok (.putfield 111, 3) := by decide +kernel
theorem dM_give_85 : decode cM_give 85 = .ok (.aload_n 0, 1) := by decide +kernel
theorem dM_give_86 : decode cM_give 86 = .ok (.getfield 111, 3) := by decide +kernel
theorem dM_give_89 : decode cM_give 89 = .ok (.iconst 1, 1) := by decide +kernel
theorem dM_give_90 : decode cM_give 90 = .ok (.isub, 1) := by decide +kernel
theorem dM_give_91 : decode cM_give 91 = .ok (.ireturn, 1) := by decide +kernel
theorem dM_ticket_0 : decode cM_ticket 0 = .ok (.aload_n 0, 1) := by decide +kernel
theorem dM_ticket_1 : decode cM_ticket 1 = .ok (.iload_n 1, 1) := by decide +kernel
theorem dM_ticket_2 : decode cM_ticket 2 = .ok (.iconst 0, 1) := by decide +kernel
theorem dM_ticket_3 : decode cM_ticket 3 = .ok (.aload_n 0, 1) := by decide +kernel
theorem dM_ticket_4 : decode cM_ticket 4 = .ok (.getfield 104, 3) := by decide +kernel
theorem dM_ticket_7 : decode cM_ticket 7 = .ok (.iconst 1, 1) := by decide +kernel
theorem dM_ticket_8 : decode cM_ticket 8 = .ok (.isub, 1) := by decide +kernel
theorem dM_ticket_9 : decode cM_ticket 9 = .ok (.invokestatic 90, 3) := by decide +kernel
theorem dM_ticket_12 : decode cM_ticket 12 = .ok (.ifCond .eq 11, 3) := by decide +kernel
theorem dM_ticket_15 : decode cM_ticket 15 = .ok (.aload_n 0, 1) := by decide +kernel
theorem dM_ticket_16 : decode cM_ticket 16 = .ok (.iload_n 2, 1) := by decide +kernel
theorem dM_ticket_17 : decode cM_ticket 17 = .ok (.invokevirtual 114, 3) := by decide +kernel
theorem dM_ticket_20 : decode cM_ticket 20 = .ok (.ifCond .ne 7, 3) := by decide +kernel
theorem dM_ticket_23 : decode cM_ticket 23 = .ok (.iconst 1, 1) := by decide +kernel
theorem dM_ticket_24 : decode cM_ticket 24 = .ok (.goto 27, 3) := by decide +kernel
theorem dM_ticket_27 : decode cM_ticket 27 = .ok (.aload_n 0, 1) := by decide +kernel
theorem dM_ticket_28 : decode cM_ticket 28 = .ok (.getfield 50, 3) := by decide +kernel
theorem dM_ticket_31 : decode cM_ticket 31 = .ok (.iload_n 1, 1) := by decide +kernel
theorem dM_ticket_32 : decode cM_ticket 32 = .ok (.baload, 1) := by decide +kernel
theorem dM_ticket_33 : decode cM_ticket 33 = .ok (.ifCond .ne 13, 3) := by decide +kernel
theorem dM_ticket_36 : decode cM_ticket 36 = .ok (.aload_n 0, 1) := by decide +kernel
theorem dM_ticket_37 : decode cM_ticket 37 = .ok (.getfield 111, 3) := by decide +kernel
theorem dM_ticket_40 : decode cM_ticket 40 = .ok (.sipush 150, 3) := by decide +kernel
theorem dM_ticket_43 : decode cM_ticket 43 = .ok (.if_icmp .ne 7, 3) := by decide +kernel
theorem dM_ticket_46 : decode cM_ticket 46 = .ok (.iconst 2, 1) := by decide +kernel
theorem dM_ticket_47 : decode cM_ticket 47 = .ok (.goto 4, 3) := by decide +kernel
theorem dM_ticket_50 : decode cM_ticket 50 = .ok (.iconst 0, 1) := by decide +kernel
theorem dM_ticket_51 : decode cM_ticket 51 = .ok (.putfield 87, 3) := by decide +kernel
theorem dM_ticket_54 : decode cM_ticket 54 = .ok (.aload_n 0, 1) := by decide +kernel
theorem dM_ticket_55 : decode cM_ticket 55 = .ok (.getfield 87, 3) := by decide +kernel
theorem dM_ticket_58 : decode cM_ticket 58 = .ok (.ifCond .le 5, 3) := by decide +kernel
theorem dM_ticket_61 : decode cM_ticket 61 = .ok (.iconst 0, 1) := by decide +kernel
theorem dM_ticket_62 : decode cM_ticket 62 = .ok (.ireturn, 1) := by decide +kernel
theorem dM_ticket_63 : decode cM_ticket 63 = .ok (.aload_n 0, 1) := by decide +kernel
theorem dM_ticket_64 : decode cM_ticket 64 = .ok (.getfield 44, 3) := by decide +kernel
theorem dM_ticket_67 : decode cM_ticket 67 = .ok (.iload_n 1, 1) := by decide +kernel
theorem dM_ticket_68 : decode cM_ticket 68 = .ok (.aload_n 0, 1) := by decide +kernel
theorem dM_ticket_69 : decode cM_ticket 69 = .ok (.getfield 97, 3) := by decide +kernel
theorem dM_ticket_72 : decode cM_ticket 72 = .ok (.iastore, 1) := by decide +kernel
theorem dM_ticket_73 : decode cM_ticket 73 = .ok (.aload_n 0, 1) := by decide +kernel
theorem dM_ticket_74 : decode cM_ticket 74 = .ok (.iconst 0, 1) := by decide +kernel
theorem dM_ticket_75 : decode cM_ticket 75 = .ok (.iload_n 1, 1) := by decide +kernel
theorem dM_ticket_76 : decode cM_ticket 76 = .ok (.iload_n 2, 1) := by decide +kernel
theorem dM_ticket_77 : decode cM_ticket 77 = .ok (.iconst 0, 1) := by decide +kernel
theorem dM_ticket_78 : decode cM_ticket 78 = .ok (.iconst (-1), 1) := by decide +kernel
theorem dM_ticket_79 : decode cM_ticket 79 = .ok (.invokevirtual 118, 3) := by decide +kernel
theorem dM_ticket_82 : decode cM_ticket 82 = .ok (.ireturn, 1) := by decide +kernel
theorem dM_proxy_0 : decode cM_proxy 0 = .ok (.aload_n 0, 1) := by decide +kernel
theorem dM_proxy_1 : decode cM_proxy 1 = .ok (.iload_n 1, 1) := by decide +kernel
theorem dM_proxy_2 : decode cM_proxy 2 = .ok (.iconst 0, 1) := by decide +kernel
theorem dM_proxy_3 : decode cM_proxy 3 = .ok (.aload_n 0, 1) := by decide +kernel
theorem dM_proxy_4 : decode cM_proxy 4 = .ok (.getfield 111, 3) := by decide +kernel
theorem dM_proxy_7 : decode cM_proxy 7 = .ok (.iconst 1, 1) := by decide +kernel
theorem dM_proxy_8 : decode cM_proxy 8 = .ok (.isub, 1) := by decide +kernel
theorem dM_proxy_9 : decode cM_proxy 9 = .ok (.invokestatic 90, 3) := by decide +kernel
theorem dM_proxy_12 : decode cM_proxy 12 = .ok (.ifCond .eq 21, 3) := by decide +kernel
theorem dM_proxy_15 : decode cM_proxy 15 = .ok (.aload_n 0, 1) := by decide +kernel
theorem dM_proxy_16 : decode cM_proxy 16 = .ok (.getfield 53, 3) := by decide +kernel
theorem dM_proxy_19 : decode cM_proxy 19 = .ok (.iload_n 1, 1) := by decide +kernel
theorem dM_proxy_20 : decode cM_proxy 20 = .ok (.iaload, 1) := by decide +kernel
theorem dM_proxy_21 : decode cM_proxy 21 = .ok (.iconst 2, 1) := by decide +kernel
theorem dM_proxy_22 : decode cM_proxy 22 = .ok (.if_icmp .ne 11, 3) := by decide +kernel
theorem dM_proxy_25 : decode cM_proxy 25 = .ok (.aload_n 0, 1) := by decide +kernel
theorem dM_proxy_26 : decode cM_proxy 26 = .ok (.iload_n 2, 1) := by decide +kernel
theorem dM_proxy_27 : decode cM_proxy 27 = .ok (.invokevirtual 114, 3) := by decide +kernel
theorem dM_proxy_30 : decode cM_proxy 30 = .ok (.ifCond .ne 7, 3) := by decide +kernel
theorem dM_proxy_33 : decode cM_proxy 33 = .ok (.iconst 1, 1) := by decide +kernel
theorem dM_proxy_34 : decode cM_proxy 34 = .ok (.goto 26, 3) := by decide +kernel
theorem dM_proxy_37 : decode cM_proxy 37 = .ok (.aload_n 0, 1) := by decide +kernel
theorem dM_proxy_38 : decode cM_proxy 38 = .ok (.iload_n 1, 1) := by decide +kernel
theorem dM_proxy_39 : decode cM_proxy 39 = .ok (.invokevirtual 122, 3) := by decide +kernel
theorem dM_proxy_42 : decode cM_proxy 42 = .ok (.ifCond .eq 13, 3) := by decide +kernel
theorem dM_proxy_45 : decode cM_proxy 45 = .ok (.aload_n 0, 1) := by decide +kernel
theorem dM_proxy_46 : decode cM_proxy 46 = .ok (.getfield 111, 3) := by decide +kernel
theorem dM_proxy_49 : decode cM_proxy 49 = .ok (.sipush 150, 3) := by decide +kernel
theorem dM_proxy_52 : decode cM_proxy 52 = .ok (.if_icmp .ne 7, 3) := by decide +kernel
theorem dM_proxy_55 : decode cM_proxy 55 = .ok (.iconst 2, 1) := by decide +kernel
theorem dM_proxy_56 : decode cM_proxy 56 = .ok (.goto 4, 3) := by decide +kernel
theorem dM_proxy_59 : decode cM_proxy 59 = .ok (.iconst 0, 1) := by decide +kernel
theorem dM_proxy_60 : decode cM_proxy 60 = .ok (.putfield 87, 3) := by decide +kernel
theorem dM_proxy_63 : decode cM_proxy 63 = .ok (.aload_n 0, 1) := by decide +kernel
theorem dM_proxy_64 : decode cM_proxy 64 = .ok (.getfield 87, 3) := by decide +kernel
theorem dM_proxy_67 : decode cM_proxy 67 = .ok (.ifCond .le 5, 3) := by decide +kernel
theorem dM_proxy_70 : decode cM_proxy 70 = .ok (.iconst 0, 1) := by decide +kernel
theorem dM_proxy_71 : decode cM_proxy 71 = .ok (.ireturn, 1) := by decide +kernel
theorem dM_proxy_72 : decode cM_proxy 72 = .ok (.aload_n 0, 1) := by decide +kernel
theorem dM_proxy_73 : decode cM_proxy 73 = .ok (.getfield 44, 3) := by decide +kernel
theorem dM_proxy_76 : decode cM_proxy 76 = .ok (.aload_n 0, 1) := by decide +kernel
theorem dM_proxy_77 : decode cM_proxy 77 = .ok (.getfield 56, 3) := by decide +kernel
theorem dM_proxy_80 : decode cM_proxy 80 = .ok (.iload_n 1, 1) := by decide +kernel
theorem dM_proxy_81 : decode cM_proxy 81 = .ok (.iaload, 1) := by decide +kernel
theorem dM_proxy_82 : decode cM_proxy 82 = .ok (.aload_n 0, 1) := by decide +kernel
theorem dM_proxy_83 : decode cM_proxy 83 = .ok (.getfield 97, 3) := by decide +kernel
theorem dM_proxy_86 : decode cM_proxy 86 = .ok (.iastore, 1) := by decide +kernel
theorem dM_proxy_87 : decode cM_proxy 87 = .ok (.aload_n 0, 1) := by decide +kernel
theorem dM_proxy_88 : decode cM_proxy 88 = .ok (.iconst 1, 1) := by decide +kernel
theorem dM_proxy_89 : decode cM_proxy 89 = .ok (.aload_n 0, 1) := by decide +kernel
theorem dM_proxy_90 : decode cM_proxy 90 = .ok (.getfield 56, 3) := by decide +kernel
theorem dM_proxy_93 : decode cM_proxy 93 = .ok (.iload_n 1, 1) := by decide +kernel
theorem dM_proxy_94 : decode cM_proxy 94 = .ok (.iaload, 1) := by decide +kernel
theorem dM_proxy_95 : decode cM_proxy 95 = .ok (.iload_n 2, 1) := by decide +kernel
theorem dM_proxy_96 : decode cM_proxy 96 = .ok (.iconst 0, 1) := by decide +kernel
theorem dM_proxy_97 : decode cM_proxy 97 = .ok (.iload_n 1, 1) := by decide +kernel
theorem dM_proxy_98 : decode cM_proxy 98 = .ok (.invokevirtual 118, 3) := by decide +kernel
theorem dM_proxy_101 : decode cM_proxy 101 = .ok (.ireturn, 1) := by decide +kernel
theorem dM_good_0 : decode cM_good 0 = .ok (.aload_n 0, 1) := by decide +kernel
theorem dM_good_1 : decode cM_good 1 = .ok (.getfield 53, 3) := by decide +kernel
theorem dM_good_4 : decode cM_good 4 = .ok (.iload_n 1, 1) := by decide +kernel
theorem dM_good_5 : decode cM_good 5 = .ok (.iaload, 1) := by decide +kernel
theorem dM_good_6 : decode cM_good 6 = .ok (.iconst 2, 1) := by decide +kernel
theorem dM_good_7 : decode cM_good 7 = .ok (.if_icmp .ne 8, 3) := by decide +kernel
theorem dM_good_10 : decode cM_good 10 = .ok (.bipush 60, 2) := by decide +kernel
theorem dM_good_12 : decode cM_good 12 = .ok (.goto 5, 3) := by decide +kernel
theorem dM_good_15 : decode cM_good 15 = .ok (.bipush 10, 2) := by decide +kernel
theorem dM_good_17 : decode cM_good 17 = .ok (.istore_n 2, 1) := by decide +kernel
theorem dM_good_18 : decode cM_good 18 = .ok (.aload_n 0, 1) := by decide +kernel
theorem dM_good_19 : decode cM_good 19 = .ok (.getfield 71, 3) := by decide +kernel
theorem dM_good_22 : decode cM_good 22 = .ok (.iload_n 1, 1) := by decide +kernel
theorem dM_good_23 : decode cM_good 23 = .ok (.baload, 1) := by decide +kernel
theorem dM_good_24 : decode cM_good 24 = .ok (.ifCond .ne 36, 3) := by decide +kernel
theorem dM_good_27 : decode cM_good 27 = .ok (.aload_n 0, 1) := by decide +kernel
theorem dM_good_28 : decode cM_good 28 = .ok (.getfield 50, 3) := by decide +kernel
theorem dM_good_31 : decode cM_good 31 = .ok (.aload_n 0, 1) := by decide +kernel
theorem dM_good_32 : decode cM_good 32 = .ok (.getfield 56, 3) := by decide +kernel
theorem dM_good_35 : decode cM_good 35 = .ok (.iload_n 1, 1) := by decide +kernel
theorem dM_good_36 : decode cM_good 36 = .ok (.iaload, 1) := by decide +kernel
theorem dM_good_37 : decode cM_good 37 = .ok (.baload, 1) := by decide +kernel
theorem dM_good_38 : decode cM_good 38 = .ok (.ifCond .ne 22, 3) := by decide +kernel
theorem dM_good_41 : decode cM_good 41 = .ok (.aload_n 0, 1) := by decide +kernel
theorem dM_good_42 : decode cM_good 42 = .ok (.getfield 97, 3) := by decide +kernel
theorem dM_good_45 : decode cM_good 45 = .ok (.aload_n 0, 1) := by decide +kernel
theorem dM_good_46 : decode cM_good 46 = .ok (.getfield 62, 3) := by decide +kernel
theorem dM_good_49 : decode cM_good 49 = .ok (.iload_n 1, 1) := by decide +kernel
theorem dM_good_50 : decode cM_good 50 = .ok (.iaload, 1) := by decide +kernel
theorem dM_good_51 : decode cM_good 51 = .ok (.isub, 1) := by decide +kernel
theorem dM_good_52 : decode cM_good 52 = .ok (.iload_n 2, 1) := by decide +kernel
theorem dM_good_53 : decode cM_good 53 = .ok (.if_icmp .gt 7, 3) := by decide +kernel
theorem dM_good_56 : decode cM_good 56 = .ok (.iconst 1, 1) := by decide +kernel
theorem dM_good_57 : decode cM_good 57 = .ok (.goto 4, 3) := by decide +kernel
theorem dM_good_60 : decode cM_good 60 = .ok (.iconst 0, 1) := by decide +kernel
theorem dM_good_61 : decode cM_good 61 = .ok (.ireturn, 1) := by decide +kernel
theorem dM_validate_0 : decode cM_validate 0 = .ok (.aload_n 0, 1) := by decide +kernel
theorem dM_validate_1 : decode cM_validate 1 = .ok (.iload_n 3, 1) := by decide +kernel
theorem dM_validate_2 : decode cM_validate 2 = .ok (.iconst 0, 1) := by decide +kernel
theorem dM_validate_3 : decode cM_validate 3 = .ok (.bipush 7, 2) := by decide +kernel
theorem dM_validate_5 : decode cM_validate 5 = .ok (.invokestatic 90, 3) := by decide +kernel
theorem dM_validate_8 : decode cM_validate 8 = .ok (.ifCond .eq 17, 3) := by decide +kernel
theorem dM_validate_11 : decode cM_validate 11 = .ok (.iload 4, 2) := by decide +kernel
theorem dM_validate_13 : decode cM_validate 13 = .ok (.iconst 0, 1) := by decide +kernel
theorem dM_validate_14 : decode cM_validate 14 = .ok (.iconst 5, 1) := by decide +kernel
theorem dM_validate_15 : decode cM_validate 15 = .ok (.invokestatic 90, 3) := by decide +kernel
theorem dM_validate_18 : decode cM_validate 18 = .ok (.ifCond .eq 7, 3) := by decide +kernel
theorem dM_validate_21 : decode cM_validate 21 = .ok (.iconst 0, 1) := by decide +kernel
theorem dM_validate_22 : decode cM_validate 22 = .ok (.goto 4, 3) := by decide +kernel
theorem dM_validate_25 : decode cM_validate 25 = .ok (.iconst 1, 1) := by decide +kernel
theorem dM_validate_26 : decode cM_validate 26 = .ok (.putfield 87, 3) := by decide +kernel
theorem dM_validate_29 : decode cM_validate 29 = .ok (.aload_n 0, 1) := by decide +kernel
theorem dM_validate_30 : decode cM_validate 30 = .ok (.getfield 87, 3) := by decide +kernel
theorem dM_validate_33 : decode cM_validate 33 = .ok (.ifCond .le 5, 3) := by decide +kernel
theorem dM_validate_36 : decode cM_validate 36 = .ok (.iconst 0, 1) := by decide +kernel
theorem dM_validate_37 : decode cM_validate 37 = .ok (.ireturn, 1) := by decide +kernel
theorem dM_validate_38 : decode cM_validate 38 = .ok (.aload_n 0, 1) := by decide +kernel
theorem dM_validate_39 : decode cM_validate 39 = .ok (.iload_n 1, 1) := by decide +kernel
theorem dM_validate_40 : decode cM_validate 40 = .ok (.iload_n 2, 1) := by decide +kernel
theorem dM_validate_41 : decode cM_validate 41 = .ok (.iload_n 3, 1) := by decide +kernel
theorem dM_validate_42 : decode cM_validate 42 = .ok (.invokevirtual 152, 3) := by decide +kernel
theorem dM_validate_45 : decode cM_validate 45 = .ok (.istore 5, 2) := by decide +kernel
theorem dM_validate_47 : decode cM_validate 47 = .ok (.iload 5, 2) := by decide +kernel
theorem dM_validate_49 : decode cM_validate 49 = .ok (.iconst 2, 1) := by decide +kernel
theorem dM_validate_50 : decode cM_validate 50 = .ok (.if_icmp .le 10, 3) := by decide +kernel
theorem dM_validate_53 : decode cM_validate 53 = .ok (.aload_n 0, 1) := by decide +kernel
theorem dM_validate_54 : decode cM_validate 54 = .ok (.getfield 71, 3) := by decide +kernel
theorem dM_validate_57 : decode cM_validate 57 = .ok (.iload_n 1, 1) := by decide +kernel
theorem dM_validate_58 : decode cM_validate 58 = .ok (.iconst 1, 1) := by decide +kernel
theorem dM_validate_59 : decode cM_validate 59 = .ok (.bastore, 1) := by decide +kernel
theorem dM_validate_60 : decode cM_validate 60 = .ok (.iload 5, 2) := by decide +kernel
theorem dM_validate_62 : decode cM_validate 62 = .ok (.ifCond .le 13, 3) := by decide +kernel
theorem dM_validate_65 : decode cM_validate 65 = .ok (.aload_n 0, 1) := by decide +kernel
theorem dM_validate_66 : decode cM_validate 66 = .ok (.iload 5, 2) := by decide +kernel
theorem dM_validate_68 : decode cM_validate 68 = .ok (.iload_n 1, 1) := by decide +kernel
theorem dM_validate_69 : decode cM_validate 69 = .ok (.invokevirtual 156, 3) := by decide +kernel
theorem dM_validate_72 : decode cM_validate 72 = .ok (.iload 5, 2) := by decide +kernel
theorem dM_validate_74 : decode cM_validate 74 = .ok (.ireturn, 1) := by decide +kernel
theorem dM_validate_75 : decode cM_validate 75 = .ok (.aload_n 0, 1) := by decide +kernel
theorem dM_validate_76 : decode cM_validate 76 = .ok (.getfield 71, 3) := by decide +kernel
theorem dM_validate_79 : decode cM_validate 79 = .ok (.iload_n 1, 1) := by decide +kernel
theorem dM_validate_80 : decode cM_validate 80 = .ok (.iconst 1, 1) := by decide +kernel
theorem dM_validate_81 : decode cM_validate 81 = .ok (.bastore, 1) := by decide +kernel
theorem dM_validate_82 : decode cM_validate 82 = .ok (.aload_n 0, 1) := by decide +kernel
theorem dM_validate_83 : decode cM_validate 83 = .ok (.getfield 44, 3) := by decide +kernel
theorem dM_validate_86 : decode cM_validate 86 = .ok (.aload_n 0, 1) := by decide +kernel
theorem dM_validate_87 : decode cM_validate 87 = .ok (.getfield 56, 3) := by decide +kernel
theorem dM_validate_90 : decode cM_validate 90 = .ok (.iload_n 1, 1) := by decide +kernel
theorem dM_validate_91 : decode cM_validate 91 = .ok (.iaload, 1) := by decide +kernel
theorem dM_validate_92 : decode cM_validate 92 = .ok (.aload_n 0, 1) := by decide +kernel
theorem dM_validate_93 : decode cM_validate 93 = .ok (.getfield 97, 3) := by decide +kernel
theorem dM_validate_96 : decode cM_validate 96 = .ok (.iastore, 1) := by decide +kernel
theorem dM_validate_97 : decode cM_validate 97 = .ok (.iconst (-1), 1) := by decide +kernel
theorem dM_validate_98 : decode cM_validate 98 = .ok (.istore 6, 2) := by decide +kernel
theorem dM_validate_100 : decode cM_validate 100 = .ok (.iload 4, 2) := by decide +kernel
theorem dM_validate_102 : decode cM_validate 102 = .ok (.ifCond .le 54, 3) := by decide +kernel
theorem dM_validate_105 : decode cM_validate 105 = .ok (.aload_n 0, 1) := by decide +kernel
theorem dM_validate_106 : decode cM_validate 106 = .ok (.getfield 35, 3) := by decide +kernel
theorem dM_validate_109 : decode cM_validate 109 = .ok (.iload 4, 2) := by decide +kernel
theorem dM_validate_111 : decode cM_validate 111 = .ok (.baload, 1) := by decide +kernel
theorem dM_validate_112 : decode cM_validate 112 = .ok (.ifCond .ne 44, 3) := by decide +kernel
theorem dM_validate_115 : decode cM_validate 115 = .ok (.aload_n 0, 1) := by decide +kernel
theorem dM_validate_116 : decode cM_validate 116 = .ok (.getfield 32, 3) := by decide +kernel
theorem dM_validate_119 : decode cM_validate 119 = .ok (.iload_n 2, 1) := by decide +kernel
theorem dM_validate_120 : decode cM_validate 120 = .ok (.iaload, 1) := by decide +kernel
theorem dM_validate_121 : decode cM_validate 121 = .ok (.iconst 2, 1) := by decide +kernel
theorem dM_validate_122 : decode cM_validate 122 = .ok (.idiv, 1) := by decide +kernel
theorem dM_validate_123 : decode cM_validate 123 = .ok (.iconst 2, 1) := by decide +kernel
theorem dM_validate_124 : decode cM_validate 124 = .ok (.irem, 1) := by decide +kernel
theorem dM_validate_125 : decode cM_validate 125 = .ok (.iconst 1, 1) := by decide +kernel
theorem dM_validate_126 : decode cM_validate 126 = .ok (.if_icmp .ne 30, 3) := by decide +kernel
theorem dM_validate_129 : decode cM_validate 129 = .ok (.aload_n 0, 1) := by decide +kernel
theorem dM_validate_130 : decode cM_validate 130 = .ok (.getfield 111, 3) := by decide +kernel
theorem dM_validate_133 : decode cM_validate 133 = .ok (.sipush 150, 3) := by decide +kernel
theorem dM_validate_136 : decode cM_validate 136 = .ok (.if_icmp .ge 20, 3) := by decide +kernel
theorem dM_validate_139 : decode cM_validate 139 = .ok (.aload_n 0, 1) := by decide +kernel
theorem dM_validate_140 : decode cM_validate 140 = .ok (.iconst 2, 1) := by decide +kernel
theorem dM_validate_141 : decode cM_validate 141 = .ok (.aload_n 0, 1) := by decide +kernel
theorem dM_validate_142 : decode cM_validate 142 = .ok (.getfield 56, 3) := by decide +kernel
theorem dM_validate_145 : decode cM_validate 145 = .ok (.iload_n 1, 1) := by decide +kernel
theorem dM_validate_146 : decode cM_validate 146 = .ok (.iaload, 1) := by decide +kernel
theorem dM_validate_147 : decode cM_validate 147 = .ok (.iload 4, 2) := by decide +kernel
theorem dM_validate_149 : decode cM_validate 149 = .ok (.iconst 0, 1) := by decide +kernel
theorem dM_validate_150 : decode cM_validate 150 = .ok (.iload_n 1, 1) := by decide +kernel
theorem dM_validate_151 : decode cM_validate 151 = .ok (.invokevirtual 118, 3) := by decide +kernel
theorem dM_validate_154 : decode cM_validate 154 = .ok (.istore 6, 2) := by decide +kernel
theorem dM_validate_156 : decode cM_validate 156 = .ok (.aload_n 0, 1) := by decide +kernel
theorem dM_validate_157 : decode cM_validate 157 = .ok (.iload_n 1, 1) := by decide +kernel
theorem dM_validate_158 : decode cM_validate 158 = .ok (.iload_n 2, 1) := by decide +kernel
theorem dM_validate_159 : decode cM_validate 159 = .ok (.iload_n 3, 1) := by decide +kernel
theorem dM_validate_160 : decode cM_validate 160 = .ok (.iconst 4, 1) := by decide +kernel
theorem dM_validate_161 : decode cM_validate 161 = .ok (.if_icmp .lt 7, 3) := by decide +kernel
theorem dM_validate_164 : decode cM_validate 164 = .ok (.iconst 1, 1) := by decide +kernel
theorem dM_validate_165 : decode cM_validate 165 = .ok (.goto 4, 3) := by decide +kernel
theorem dM_validate_168 : decode cM_validate 168 = .ok (.iconst 0, 1) := by decide +kernel
theorem dM_validate_169 : decode cM_validate 169 = .ok (.iload 6, 2) := by decide +kernel
theorem dM_validate_171 : decode cM_validate 171 = .ok (.invokevirtual 159, 3) := by decide +kernel
theorem dM_validate_174 : decode cM_validate 174 = .ok (.iconst 0, 1) := by decide +kernel
theorem dM_validate_175 : decode cM_validate 175 = .ok (.ireturn, 1) := by decide +kernel
theorem dM_judged_0 : decode cM_judged 0 = .ok (.iload_n 1, 1) := by decide +kernel
theorem dM_judged_1 : decode cM_judged 1 = .ok (.iconst 0, 1) := by decide +kernel
theorem dM_judged_2 : decode cM_judged 2 = .ok (.aload_n 0, 1) := by decide +kernel
theorem dM_judged_3 : decode cM_judged 3 = .ok (.getfield 111, 3) := by decide +kernel
theorem dM_judged_6 : decode cM_judged 6 = .ok (.iconst 1, 1) := by decide +kernel
theorem dM_judged_7 : decode cM_judged 7 = .ok (.isub, 1) := by decide +kernel
theorem dM_judged_8 : decode cM_judged 8 = .ok (.invokestatic 90, 3) := by decide +kernel
theorem dM_judged_11 : decode cM_judged 11 = .ok (.ifCond .eq 11, 3) := by decide +kernel
theorem dM_judged_14 : decode cM_judged 14 = .ok (.aload_n 0, 1) := by decide +kernel
theorem dM_judged_15 : decode cM_judged 15 = .ok (.iload_n 2, 1) := by decide +kernel
theorem dM_judged_16 : decode cM_judged 16 = .ok (.invokevirtual 114, 3) := by decide +kernel
theorem dM_judged_19 : decode cM_judged 19 = .ok (.ifCond .ne 5, 3) := by decide +kernel
theorem dM_judged_22 : decode cM_judged 22 = .ok (.iconst 1, 1) := by decide +kernel
theorem dM_judged_23 : decode cM_judged 23 = .ok (.ireturn, 1) := by decide +kernel
theorem dM_judged_24 : decode cM_judged 24 = .ok (.aload_n 0, 1) := by decide +kernel
theorem dM_judged_25 : decode cM_judged 25 = .ok (.getfield 53, 3) := by decide +kernel
theorem dM_judged_28 : decode cM_judged 28 = .ok (.iload_n 1, 1) := by decide +kernel
theorem dM_judged_29 : decode cM_judged 29 = .ok (.iaload, 1) := by decide +kernel
theorem dM_judged_30 : decode cM_judged 30 = .ok (.iconst 2, 1) := by decide +kernel
theorem dM_judged_31 : decode cM_judged 31 = .ok (.if_icmp .eq 21, 3) := by decide +kernel
theorem dM_judged_34 : decode cM_judged 34 = .ok (.aload_n 0, 1) := by decide +kernel
theorem dM_judged_35 : decode cM_judged 35 = .ok (.getfield 53, 3) := by decide +kernel
theorem dM_judged_38 : decode cM_judged 38 = .ok (.iload_n 1, 1) := by decide +kernel
theorem dM_judged_39 : decode cM_judged 39 = .ok (.iaload, 1) := by decide +kernel
theorem dM_judged_40 : decode cM_judged 40 = .ok (.iconst 1, 1) := by decide +kernel
theorem dM_judged_41 : decode cM_judged 41 = .ok (.if_icmp .ne 13, 3) := by decide +kernel
theorem dM_judged_44 : decode cM_judged 44 = .ok (.iload_n 3, 1) := by decide +kernel
theorem dM_judged_45 : decode cM_judged 45 = .ok (.iconst 2, 1) := by decide +kernel
theorem dM_judged_46 : decode cM_judged 46 = .ok (.idiv, 1) := by decide +kernel
theorem dM_judged_47 : decode cM_judged 47 = .ok (.iconst 2, 1) := by decide +kernel
theorem dM_judged_48 : decode cM_judged 48 = .ok (.irem, 1) := by decide +kernel
theorem dM_judged_49 : decode cM_judged 49 = .ok (.ifCond .ne 5, 3) := by decide +kernel
theorem dM_judged_52 : decode cM_judged 52 = .ok (.iconst 2, 1) := by decide +kernel
theorem dM_judged_53 : decode cM_judged 53 = .ok (.ireturn, 1) := by decide +kernel
theorem dM_judged_54 : decode cM_judged 54 = .ok (.aload_n 0, 1) := by decide +kernel
theorem dM_judged_55 : decode cM_judged 55 = .ok (.iload_n 1, 1) := by decide +kernel
theorem dM_judged_56 : decode cM_judged 56 = .ok (.invokevirtual 122, 3) := by decide +kernel
theorem dM_judged_59 : decode cM_judged 59 = .ok (.ifCond .ne 7, 3) := by decide +kernel
theorem dM_judged_62 : decode cM_judged 62 = .ok (.iconst 3, 1) := by decide +kernel
theorem dM_judged_63 : decode cM_judged 63 = .ok (.goto 38, 3) := by decide +kernel
theorem dM_judged_66 : decode cM_judged 66 = .ok (.aload_n 0, 1) := by decide +kernel
theorem dM_judged_67 : decode cM_judged 67 = .ok (.getfield 59, 3) := by decide +kernel
theorem dM_judged_70 : decode cM_judged 70 = .ok (.iload_n 1, 1) := by decide +kernel
theorem dM_judged_71 : decode cM_judged 71 = .ok (.iaload, 1) := by decide +kernel
theorem dM_judged_72 : decode cM_judged 72 = .ok (.iload_n 2, 1) := by decide +kernel
theorem dM_judged_73 : decode cM_judged 73 = .ok (.if_icmp .eq 7, 3) := by decide +kernel
theorem dM_judged_76 : decode cM_judged 76 = .ok (.iconst 4, 1) := by decide +kernel
theorem dM_judged_77 : decode cM_judged 77 = .ok (.goto 24, 3) := by decide +kernel
theorem dM_judged_80 : decode cM_judged 80 = .ok (.iload_n 3, 1) := by decide +kernel
theorem dM_judged_81 : decode cM_judged 81 = .ok (.iconst 2, 1) := by decide +kernel
theorem dM_judged_82 : decode cM_judged 82 = .ok (.irem, 1) := by decide +kernel
theorem dM_judged_83 : decode cM_judged 83 = .ok (.iconst 1, 1) := by decide +kernel
theorem dM_judged_84 : decode cM_judged 84 = .ok (.if_icmp .ne 16, 3) := by decide +kernel
theorem dM_judged_87 : decode cM_judged 87 = .ok (.aload_n 0, 1) := by decide +kernel
theorem dM_judged_88 : decode cM_judged 88 = .ok (.getfield 65, 3) := by decide +kernel
theorem dM_judged_91 : decode cM_judged 91 = .ok (.iload_n 1, 1) := by decide +kernel
theorem dM_judged_92 : decode cM_judged 92 = .ok (.baload, 1) := by decide +kernel
theorem dM_judged_93 : decode cM_judged 93 = .ok (.ifCond .ne 7, 3) := by decide +kernel
theorem dM_judged_96 : decode cM_judged 96 = .ok (.iconst 5, 1) := by decide +kernel
theorem dM_judged_97 : decode cM_judged 97 = .ok (.goto 4, 3) := by decide +kernel
theorem dM_judged_100 : decode cM_judged 100 = .ok (.iconst 0, 1) := by decide +kernel
theorem dM_judged_101 : decode cM_judged 101 = .ok (.ireturn, 1) := by decide +kernel
theorem dM_no_0 : decode cM_no 0 = .ok (.aload_n 0, 1) := by decide +kernel
theorem dM_no_1 : decode cM_no 1 = .ok (.iconst 0, 1) := by decide +kernel
theorem dM_no_2 : decode cM_no 2 = .ok (.putfield 80, 3) := by decide +kernel
theorem dM_no_5 : decode cM_no 5 = .ok (.aload_n 0, 1) := by decide +kernel
theorem dM_no_6 : decode cM_no 6 = .ok (.bipush 60, 2) := by decide +kernel
theorem dM_no_8 : decode cM_no 8 = .ok (.invokevirtual 125, 3) := by decide +kernel
theorem dM_no_11 : decode cM_no 11 = .ok (.aload_n 0, 1) := by decide +kernel
theorem dM_no_12 : decode cM_no 12 = .ok (.bipush 110, 2) := by decide +kernel
theorem dM_no_14 : decode cM_no 14 = .ok (.invokevirtual 125, 3) := by decide +kernel
theorem dM_no_17 : decode cM_no 17 = .ok (.aload_n 0, 1) := by decide +kernel
theorem dM_no_18 : decode cM_no 18 = .ok (.bipush 111, 2) := by decide +kernel
theorem dM_no_20 : decode cM_no 20 = .ok (.invokevirtual 125, 3) := by decide +kernel
theorem dM_no_23 : decode cM_no 23 = .ok (.aload_n 0, 1) := by decide +kernel
theorem dM_no_24 : decode cM_no 24 = .ok (.bipush 32, 2) := by decide +kernel
theorem dM_no_26 : decode cM_no 26 = .ok (.invokevirtual 125, 3) := by decide +kernel
theorem dM_no_29 : decode cM_no 29 = .ok (.aload_n 0, 1) := by decide +kernel
theorem dM_no_30 : decode cM_no 30 = .ok (.bipush 99, 2) := by decide +kernel
theorem dM_no_32 : decode cM_no 32 = .ok (.invokevirtual 125, 3) := by decide +kernel
theorem dM_no_35 : decode cM_no 35 = .ok (.aload_n 0, 1) := by decide +kernel
theorem dM_no_36 : decode cM_no 36 = .ok (.bipush 61, 2) := by decide +kernel
theorem dM_no_38 : decode cM_no 38 = .ok (.invokevirtual 125, 3) := by decide +kernel
theorem dM_no_41 : decode cM_no 41 = .ok (.aload_n 0, 1) := by decide +kernel
theorem dM_no_42 : decode cM_no 42 = .ok (.bipush 34, 2) := by decide +kernel
theorem dM_no_44 : decode cM_no 44 = .ok (.invokevirtual 125, 3) := by decide +kernel
theorem dM_no_47 : decode cM_no 47 = .ok (.aload_n 0, 1) := by decide +kernel
theorem dM_no_48 : decode cM_no 48 = .ok (.iload_n 1, 1) := by decide +kernel
theorem dM_no_49 : decode cM_no 49 = .ok (.invokevirtual 139, 3) := by decide +kernel
theorem dM_no_52 : decode cM_no 52 = .ok (.aload_n 0, 1) := by decide +kernel
theorem dM_no_53 : decode cM_no 53 = .ok (.bipush 34, 2) := by decide +kernel
theorem dM_no_55 : decode cM_no 55 = .ok (.invokevirtual 125, 3) := by decide +kernel
theorem dM_no_58 : decode cM_no 58 = .ok (.aload_n 0, 1) := by decide +kernel
theorem dM_no_59 : decode cM_no 59 = .ok (.bipush 62, 2) := by decide +kernel
theorem dM_no_61 : decode cM_no 61 = .ok (.invokevirtual 125, 3) := by decide +kernel
theorem dM_no_64 : decode cM_no 64 = .ok (.aload_n 0, 1) := by decide +kernel
theorem dM_no_65 : decode cM_no 65 = .ok (.iload_n 2, 1) := by decide +kernel
theorem dM_no_66 : decode cM_no 66 = .ok (.invokevirtual 139, 3) := by decide +kernel
theorem dM_no_69 : decode cM_no 69 = .ok (.aload_n 0, 1) := by decide +kernel
theorem dM_no_70 : decode cM_no 70 = .ok (.bipush 110, 2) := by decide +kernel
theorem dM_no_72 : decode cM_no 72 = .ok (.bipush 111, 2) := by decide +kernel
theorem dM_no_74 : decode cM_no 74 = .ok (.iconst 1, 1) := by decide +kernel
theorem dM_no_75 : decode cM_no 75 = .ok (.invokevirtual 135, 3) := by decide +kernel
theorem dM_no_78 : decode cM_no 78 = .ok (.return_, 1) := by decide +kernel
theorem dM_put_0 : decode cM_put 0 = .ok (.aload_n 0, 1) := by decide +kernel
theorem dM_put_1 : decode cM_put 1 = .ok (.getfield 77, 3) := by decide +kernel
theorem dM_put_4 : decode cM_put 4 = .ok (.aload_n 0, 1) := by decide +kernel
theorem dM_put_5 : decode cM_put 5 = .ok (.getfield 80, 3) := by decide +kernel
theorem dM_put_8 : decode cM_put 8 = .ok (.iload_n 1, 1) := by decide +kernel
theorem dM_put_9 : decode cM_put 9 = .ok (.iastore, 1) := by decide +kernel
theorem dM_put_10 : decode cM_put 10 = .ok (.aload_n 0, 1) := by decide +kernel
theorem dM_put_11 : decode cM_put 11 = .ok (.dup, 1) := by decide +kernel
theorem dM_put_12 : decode cM_put 12 = .ok (.getfield 80, 3) := by decide +kernel
theorem dM_put_15 : decode cM_put 15 = .ok (.iconst 1, 1) := by decide +kernel
theorem dM_put_16 : decode cM_put 16 = .ok (.iadd, 1) := by decide +kernel
theorem dM_put_17 : decode cM_put 17 = .ok (.putfield 80, 3) := by decide +kernel
theorem dM_put_20 : decode cM_put 20 = .ok (.return_, 1) := by decide +kernel
theorem dM_number_0 : decode cM_number 0 = .ok (.iload_n 1, 1) := by decide +kernel
theorem dM_number_1 : decode cM_number 1 = .ok (.ifCond .ge 9, 3) := by decide +kernel
theorem dM_number_4 : decode cM_number 4 = .ok (.iload_n 1, 1) := by decide +kernel
theorem dM_number_5 : decode cM_number 5 = .ok (.i2l, 1) := by decide +kernel
theorem dM_number_6 : decode cM_number 6 = .ok (.lneg, 1) := by decide +kernel
theorem dM_number_7 : decode cM_number 7 = .ok (.goto 5, 3) := by decide +kernel
theorem dM_number_10 : decode cM_number 10 = .ok (.iload_n 1, 1) := by decide +kernel
theorem dM_number_11 : decode cM_number 11 = .ok (.i2l, 1) := by decide +kernel
theorem dM_number_12 : decode cM_number 12 = .ok (.lstore_n 2, 1) := by decide +kernel
theorem dM_number_13 : decode cM_number 13 = .ok (.iconst 0, 1) := by decide +kernel
theorem dM_number_14 : decode cM_number 14 = .ok (.istore 4, 2) := by decide +kernel
theorem dM_number_16 : decode cM_number 16 = .ok (.iconst 0, 1) := by decide +kernel
theorem dM_number_17 : decode cM_number 17 = .ok (.istore 5, 2) := by decide +kernel
theorem dM_number_19 : decode cM_number 19 = .ok (.iload 5, 2) := by decide +kernel
theorem dM_number_21 : decode cM_number 21 = .ok (.bipush 11, 2) := by decide +kernel
theorem dM_number_23 : decode cM_number 23 = .ok (.if_icmp .ge 45, 3) := by decide +kernel
theorem dM_number_26 : decode cM_number 26 = .ok (.iload 5, 2) := by decide +kernel
theorem dM_number_28 : decode cM_number 28 = .ok (.ifCond .eq 9, 3) := by decide +kernel
theorem dM_number_31 : decode cM_number 31 = .ok (.lload_n 2, 1) := by decide +kernel
theorem dM_number_32 : decode cM_number 32 = .ok (.lconst 0, 1) := by decide +kernel
theorem dM_number_33 : decode cM_number 33 = .ok (.lcmp, 1) := by decide +kernel
theorem dM_number_34 : decode cM_number 34 = .ok (.ifCond .le 34, 3) := by decide +kernel
theorem dM_number_37 : decode cM_number 37 = .ok (.aload_n 0, 1) := by decide +kernel
theorem dM_number_38 : decode cM_number 38 = .ok (.getfield 84, 3) := by decide +kernel
theorem dM_number_41 : decode cM_number 41 = .ok (.iload 5, 2) := by decide +kernel
theorem dM_number_43 : decode cM_number 43 = .ok (.lload_n 2, 1) := by decide +kernel
theorem dM_number_44 : decode cM_number 44 = .ok (.ldc2_w 129, 3) := by decide +kernel
theorem dM_number_47 : decode cM_number 47 = .ok (.lrem, 1) := by decide +kernel
theorem dM_number_48 : decode cM_number 48 = .ok (.l2i, 1) := by decide +kernel
theorem dM_number_49 : decode cM_number 49 = .ok (.iastore, 1) := by decide +kernel
theorem dM_number_50 : decode cM_number 50 = .ok (.lload_n 2, 1) := by decide +kernel
theorem dM_number_51 : decode cM_number 51 = .ok (.ldc2_w 129, 3) := by decide +kernel
theorem dM_number_54 : decode cM_number 54 = .ok (.ldiv, 1) := by decide +kernel
theorem dM_number_55 : decode cM_number 55 = .ok (.lstore_n 2, 1) := by decide +kernel
theorem dM_number_56 : decode cM_number 56 = .ok (.iload 5, 2) := by decide +kernel
theorem dM_number_58 : decode cM_number 58 = .ok (.iconst 1, 1) := by decide +kernel
theorem dM_number_59 : decode cM_number 59 = .ok (.iadd, 1) := by decide +kernel
theorem dM_number_60 : decode cM_number 60 = .ok (.istore 4, 2) := by decide +kernel
theorem dM_number_62 : decode cM_number 62 = .ok (.iinc 5 1, 3) := by decide +kernel
theorem dM_number_65 : decode cM_number 65 = .ok (.goto (-46), 3) := by decide +kernel
theorem dM_number_68 : decode cM_number 68 = .ok (.iload_n 1, 1) := by decide +kernel
theorem dM_number_69 : decode cM_number 69 = .ok (.ifCond .ge 9, 3) := by decide +kernel
theorem dM_number_72 : decode cM_number 72 = .ok (.aload_n 0, 1) := by decide +kernel
theorem dM_number_73 : decode cM_number 73 = .ok (.bipush 45, 2) := by decide +kernel
theorem dM_number_75 : decode cM_number 75 = .ok (.invokevirtual 125, 3) := by decide +kernel
theorem dM_number_78 : decode cM_number 78 = .ok (.iload 4, 2) := by decide +kernel
theorem dM_number_80 : decode cM_number 80 = .ok (.iconst 1, 1) := by decide +kernel
theorem dM_number_81 : decode cM_number 81 = .ok (.isub, 1) := by decide +kernel
theorem dM_number_82 : decode cM_number 82 = .ok (.istore 5, 2) := by decide +kernel
theorem dM_number_84 : decode cM_number 84 = .ok (.iload 5, 2) := by decide +kernel
theorem dM_number_86 : decode cM_number 86 = .ok (.ifCond .lt 23, 3) := by decide +kernel
theorem dM_number_89 : decode cM_number 89 = .ok (.aload_n 0, 1) := by decide +kernel
theorem dM_number_90 : decode cM_number 90 = .ok (.bipush 48, 2) := by decide +kernel
theorem dM_number_92 : decode cM_number 92 = .ok (.aload_n 0, 1) := by decide +kernel
theorem dM_number_93 : decode cM_number 93 = .ok (.getfield 84, 3) := by decide +kernel
theorem dM_number_96 : decode cM_number 96 = .ok (.iload 5, 2) := by decide +kernel
theorem dM_number_98 : decode cM_number 98 = .ok (.iaload, 1) := by decide +kernel
theorem dM_number_99 : decode cM_number 99 = .ok (.iadd, 1) := by decide +kernel
theorem dM_number_100 : decode cM_number 100 = .ok (.invokevirtual 125, 3) := by decide +kernel
theorem dM_number_103 : decode cM_number 103 = .ok (.iinc 5 (-1), 3) := by decide +kernel
theorem dM_number_106 : decode cM_number 106 = .ok (.goto (-22), 3) := by decide +kernel
theorem dM_number_109 : decode cM_number 109 = .ok (.return_, 1) := by decide +kernel
theorem dM_tag_0 : decode cM_tag 0 = .ok (.aload_n 0, 1) := by decide +kernel
theorem dM_tag_1 : decode cM_tag 1 = .ok (.bipush 60, 2) := by decide +kernel
theorem dM_tag_3 : decode cM_tag 3 = .ok (.invokevirtual 125, 3) := by decide +kernel
theorem dM_tag_6 : decode cM_tag 6 = .ok (.iload_n 3, 1) := by decide +kernel
theorem dM_tag_7 : decode cM_tag 7 = .ok (.ifCond .eq 9, 3) := by decide +kernel
theorem dM_tag_10 : decode cM_tag 10 = .ok (.aload_n 0, 1) := by decide +kernel
theorem dM_tag_11 : decode cM_tag 11 = .ok (.bipush 47, 2) := by decide +kernel
theorem dM_tag_13 : decode cM_tag 13 = .ok (.invokevirtual 125, 3) := by decide +kernel
theorem dM_tag_16 : decode cM_tag 16 = .ok (.aload_n 0, 1) := by decide +kernel
theorem dM_tag_17 : decode cM_tag 17 = .ok (.iload_n 1, 1) := by decide +kernel
theorem dM_tag_18 : decode cM_tag 18 = .ok (.invokevirtual 125, 3) := by decide +kernel
theorem dM_tag_21 : decode cM_tag 21 = .ok (.iload_n 2, 1) := by decide +kernel
theorem dM_tag_22 : decode cM_tag 22 = .ok (.ifCond .le 8, 3) := by decide +kernel
theorem dM_tag_25 : decode cM_tag 25 = .ok (.aload_n 0, 1) := by decide +kernel
theorem dM_tag_26 : decode cM_tag 26 = .ok (.iload_n 2, 1) := by decide +kernel
theorem dM_tag_27 : decode cM_tag 27 = .ok (.invokevirtual 125, 3) := by decide +kernel
theorem dM_tag_30 : decode cM_tag 30 = .ok (.aload_n 0, 1) := by decide +kernel
theorem dM_tag_31 : decode cM_tag 31 = .ok (.bipush 62, 2) := by decide +kernel
theorem dM_tag_33 : decode cM_tag 33 = .ok (.invokevirtual 125, 3) := by decide +kernel
theorem dM_tag_36 : decode cM_tag 36 = .ok (.return_, 1) := by decide +kernel
theorem dM_ok_0 : decode cM_ok 0 = .ok (.aload_n 0, 1) := by decide +kernel
theorem dM_ok_1 : decode cM_ok 1 = .ok (.getfield 56, 3) := by decide +kernel
theorem dM_ok_4 : decode cM_ok 4 = .ok (.iload_n 1, 1) := by decide +kernel
theorem dM_ok_5 : decode cM_ok 5 = .ok (.iaload, 1) := by decide +kernel
theorem dM_ok_6 : decode cM_ok 6 = .ok (.istore 5, 2) := by decide +kernel
theorem dM_ok_8 : decode cM_ok 8 = .ok (.aload_n 0, 1) := by decide +kernel
theorem dM_ok_9 : decode cM_ok 9 = .ok (.getfield 38, 3) := by decide +kernel
theorem dM_ok_12 : decode cM_ok 12 = .ok (.iload 5, 2) := by decide +kernel
theorem dM_ok_14 : decode cM_ok 14 = .ok (.iaload, 1) := by decide +kernel
theorem dM_ok_15 : decode cM_ok 15 = .ok (.istore 6, 2) := by decide +kernel
theorem dM_ok_17 : decode cM_ok 17 = .ok (.aload_n 0, 1) := by decide +kernel
theorem dM_ok_18 : decode cM_ok 18 = .ok (.iconst 0, 1) := by decide +kernel
theorem dM_ok_19 : decode cM_ok 19 = .ok (.putfield 80, 3) := by decide +kernel
theorem dM_ok_22 : decode cM_ok 22 = .ok (.aload_n 0, 1) := by decide +kernel
theorem dM_ok_23 : decode cM_ok 23 = .ok (.bipush 60, 2) := by decide +kernel
theorem dM_ok_25 : decode cM_ok 25 = .ok (.invokevirtual 125, 3) := by decide +kernel
theorem dM_ok_28 : decode cM_ok 28 = .ok (.aload_n 0, 1) := by decide +kernel
theorem dM_ok_29 : decode cM_ok 29 = .ok (.bipush 111, 2) := by decide +kernel
theorem dM_ok_31 : decode cM_ok 31 = .ok (.invokevirtual 125, 3) := by decide +kernel
theorem dM_ok_34 : decode cM_ok 34 = .ok (.aload_n 0, 1) := by decide +kernel
theorem dM_ok_35 : decode cM_ok 35 = .ok (.bipush 107, 2) := by decide +kernel
theorem dM_ok_37 : decode cM_ok 37 = .ok (.invokevirtual 125, 3) := by decide +kernel
theorem dM_ok_40 : decode cM_ok 40 = .ok (.aload_n 0, 1) := by decide +kernel
theorem dM_ok_41 : decode cM_ok 41 = .ok (.bipush 32, 2) := by decide +kernel
theorem dM_ok_43 : decode cM_ok 43 = .ok (.invokevirtual 125, 3) := by decide +kernel
theorem dM_ok_46 : decode cM_ok 46 = .ok (.aload_n 0, 1) := by decide +kernel
theorem dM_ok_47 : decode cM_ok 47 = .ok (.bipush 117, 2) := by decide +kernel
theorem dM_ok_49 : decode cM_ok 49 = .ok (.invokevirtual 125, 3) := by decide +kernel
theorem dM_ok_52 : decode cM_ok 52 = .ok (.aload_n 0, 1) := by decide +kernel
theorem dM_ok_53 : decode cM_ok 53 = .ok (.bipush 61, 2) := by decide +kernel
theorem dM_ok_55 : decode cM_ok 55 = .ok (.invokevirtual 125, 3) := by decide +kernel
theorem dM_ok_58 : decode cM_ok 58 = .ok (.aload_n 0, 1) := by decide +kernel
theorem dM_ok_59 : decode cM_ok 59 = .ok (.bipush 34, 2) := by decide +kernel
theorem dM_ok_61 : decode cM_ok 61 = .ok (.invokevirtual 125, 3) := by decide +kernel
theorem dM_ok_64 : decode cM_ok 64 = .ok (.aload_n 0, 1) := by decide +kernel
theorem dM_ok_65 : decode cM_ok 65 = .ok (.iconst 4, 1) := by decide +kernel
theorem dM_ok_66 : decode cM_ok 66 = .ok (.iload 6, 2) := by decide +kernel
theorem dM_ok_68 : decode cM_ok 68 = .ok (.imul, 1) := by decide +kernel
theorem dM_ok_69 : decode cM_ok 69 = .ok (.iconst 3, 1) := by decide +kernel
theorem dM_ok_70 : decode cM_ok 70 = .ok (.iadd, 1) := by decide +kernel
theorem dM_ok_71 : decode cM_ok 71 = .ok (.invokevirtual 142, 3) := by decide +kernel
theorem dM_ok_74 : decode cM_ok 74 = .ok (.aload_n 0, 1) := by decide +kernel
theorem dM_ok_75 : decode cM_ok 75 = .ok (.bipush 34, 2) := by decide +kernel
theorem dM_ok_77 : decode cM_ok 77 = .ok (.invokevirtual 125, 3) := by decide +kernel
theorem dM_ok_80 : decode cM_ok 80 = .ok (.aload_n 0, 1) := by decide +kernel
theorem dM_ok_81 : decode cM_ok 81 = .ok (.bipush 62, 2) := by decide +kernel
theorem dM_ok_83 : decode cM_ok 83 = .ok (.invokevirtual 125, 3) := by decide +kernel
theorem dM_ok_86 : decode cM_ok 86 = .ok (.iconst 0, 1) := by decide +kernel
theorem dM_ok_87 : decode cM_ok 87 = .ok (.istore 7, 2) := by decide +kernel
theorem dM_ok_89 : decode cM_ok 89 = .ok (.iload 7, 2) := by decide +kernel
theorem dM_ok_91 : decode cM_ok 91 = .ok (.iconst 3, 1) := by decide +kernel
theorem dM_ok_92 : decode cM_ok 92 = .ok (.if_icmp .ge 80, 3) := by decide +kernel
theorem dM_ok_95 : decode cM_ok 95 = .ok (.iload_n 3, 1) := by decide +kernel
theorem dM_ok_96 : decode cM_ok 96 = .ok (.ifCond .eq 76, 3) := by decide +kernel
theorem dM_ok_99 : decode cM_ok 99 = .ok (.aload_n 0, 1) := by decide +kernel
theorem dM_ok_100 : decode cM_ok 100 = .ok (.getfield 32, 3) := by decide +kernel
theorem dM_ok_103 : decode cM_ok 103 = .ok (.iload_n 2, 1) := by decide +kernel
theorem dM_ok_104 : decode cM_ok 104 = .ok (.iaload, 1) := by decide +kernel
theorem dM_ok_105 : decode cM_ok 105 = .ok (.iconst 3, 1) := by decide +kernel
theorem dM_ok_106 : decode cM_ok 106 = .ok (.iload 7, 2) := by decide +kernel
theorem dM_ok_108 : decode cM_ok 108 = .ok (.iadd, 1) := by decide +kernel
theorem dM_ok_109 : decode cM_ok 109 = .ok (.ishr, 1) := by decide +kernel
theorem dM_ok_110 : decode cM_ok 110 = .ok (.iconst 1, 1) := by decide +kernel
theorem dM_ok_111 : decode cM_ok 111 = .ok (.iand, 1) := by decide +kernel
theorem dM_ok_112 : decode cM_ok 112 = .ok (.iconst 1, 1) := by decide +kernel
theorem dM_ok_113 : decode cM_ok 113 = .ok (.if_icmp .ne 53, 3) := by decide +kernel
theorem dM_ok_116 : decode cM_ok 116 = .ok (.aload_n 0, 1) := by decide +kernel
theorem dM_ok_117 : decode cM_ok 117 = .ok (.getfield 16, 3) := by decide +kernel
theorem dM_ok_120 : decode cM_ok 120 = .ok (.iconst 4, 1) := by decide +kernel
theorem dM_ok_121 : decode cM_ok 121 = .ok (.iload 6, 2) := by decide +kernel
theorem dM_ok_123 : decode cM_ok 123 = .ok (.imul, 1) := by decide +kernel
theorem dM_ok_124 : decode cM_ok 124 = .ok (.iload 7, 2) := by decide +kernel
theorem dM_ok_126 : decode cM_ok 126 = .ok (.iadd, 1) := by decide +kernel
theorem dM_ok_127 : decode cM_ok 127 = .ok (.iaload, 1) := by decide +kernel
theorem dM_ok_128 : decode cM_ok 128 = .ok (.ifCond .le 38, 3) := by decide +kernel
theorem dM_ok_131 : decode cM_ok 131 = .ok (.aload_n 0, 1) := by decide +kernel
theorem dM_ok_132 : decode cM_ok 132 = .ok (.bipush 97, 2) := by decide +kernel
theorem dM_ok_134 : decode cM_ok 134 = .ok (.bipush 48, 2) := by decide +kernel
theorem dM_ok_136 : decode cM_ok 136 = .ok (.iload 7, 2) := by decide +kernel
theorem dM_ok_138 : decode cM_ok 138 = .ok (.iadd, 1) := by decide +kernel
theorem dM_ok_139 : decode cM_ok 139 = .ok (.iconst 0, 1) := by decide +kernel
theorem dM_ok_140 : decode cM_ok 140 = .ok (.invokevirtual 135, 3) := by decide +kernel
theorem dM_ok_143 : decode cM_ok 143 = .ok (.aload_n 0, 1) := by decide +kernel
theorem dM_ok_144 : decode cM_ok 144 = .ok (.iconst 4, 1) := by decide +kernel
theorem dM_ok_145 : decode cM_ok 145 = .ok (.iload 6, 2) := by decide +kernel
theorem dM_ok_147 : decode cM_ok 147 = .ok (.imul, 1) := by decide +kernel
theorem dM_ok_148 : decode cM_ok 148 = .ok (.iload 7, 2) := by decide +kernel
theorem dM_ok_150 : decode cM_ok 150 = .ok (.iadd, 1) := by decide +kernel
theorem dM_ok_151 : decode cM_ok 151 = .ok (.invokevirtual 142, 3) := by decide +kernel
theorem dM_ok_154 : decode cM_ok 154 = .ok (.aload_n 0, 1) := by decide +kernel
theorem dM_ok_155 : decode cM_ok 155 = .ok (.bipush 97, 2) := by decide +kernel
theorem dM_ok_157 : decode cM_ok 157 = .ok (.bipush 48, 2) := by decide +kernel
theorem dM_ok_159 : decode cM_ok 159 = .ok (.iload 7, 2) := by decide +kernel
theorem dM_ok_161 : decode cM_ok 161 = .ok (.iadd, 1) := by decide +kernel
theorem dM_ok_162 : decode cM_ok 162 = .ok (.iconst 1, 1) := by decide +kernel
theorem dM_ok_163 : decode cM_ok 163 = .ok (.invokevirtual 135, 3) := by decide +kernel
theorem dM_ok_166 : decode cM_ok 166 = .ok (.iinc 7 1, 3) := by decide +kernel
theorem dM_ok_169 : decode cM_ok 169 = .ok (.goto (-80), 3) := by decide +kernel
theorem dM_ok_172 : decode cM_ok 172 = .ok (.aload_n 0, 1) := by decide +kernel
theorem dM_ok_173 : decode cM_ok 173 = .ok (.bipush 100, 2) := by decide +kernel
theorem dM_ok_175 : decode cM_ok 175 = .ok (.aload_n 0, 1) := by decide +kernel
theorem dM_ok_176 : decode cM_ok 176 = .ok (.getfield 41, 3) := by decide +kernel
theorem dM_ok_179 : decode cM_ok 179 = .ok (.iload 5, 2) := by decide +kernel
theorem dM_ok_181 : decode cM_ok 181 = .ok (.iaload, 1) := by decide +kernel
theorem dM_ok_182 : decode cM_ok 182 = .ok (.invokevirtual 145, 3) := by decide +kernel
theorem dM_ok_185 : decode cM_ok 185 = .ok (.aload_n 0, 1) := by decide +kernel
theorem dM_ok_186 : decode cM_ok 186 = .ok (.getfield 47, 3) := by decide +kernel
theorem dM_ok_189 : decode cM_ok 189 = .ok (.iload 5, 2) := by decide +kernel
theorem dM_ok_191 : decode cM_ok 191 = .ok (.baload, 1) := by decide +kernel
theorem dM_ok_192 : decode cM_ok 192 = .ok (.ifCond .eq 10, 3) := by decide +kernel
theorem dM_ok_195 : decode cM_ok 195 = .ok (.aload_n 0, 1) := by decide +kernel
theorem dM_ok_196 : decode cM_ok 196 = .ok (.bipush 108, 2) := by decide +kernel
theorem dM_ok_198 : decode cM_ok 198 = .ok (.iconst 1, 1) := by decide +kernel
theorem dM_ok_199 : decode cM_ok 199 = .ok (.invokevirtual 145, 3) := by decide +kernel
theorem dM_ok_202 : decode cM_ok 202 = .ok (.aload_n 0, 1) := by decide +kernel
theorem dM_ok_203 : decode cM_ok 203 = .ok (.bipush 110, 2) := by decide +kernel
theorem dM_ok_205 : decode cM_ok 205 = .ok (.aload_n 0, 1) := by decide +kernel
theorem dM_ok_206 : decode cM_ok 206 = .ok (.getfield 65, 3) := by decide +kernel
theorem dM_ok_209 : decode cM_ok 209 = .ok (.iload_n 1, 1) := by decide +kernel
theorem dM_ok_210 : decode cM_ok 210 = .ok (.baload, 1) := by decide +kernel
theorem dM_ok_211 : decode cM_ok 211 = .ok (.ifCond .eq 7, 3) := by decide +kernel
theorem dM_ok_214 : decode cM_ok 214 = .ok (.iconst 1, 1) := by decide +kernel
theorem dM_ok_215 : decode cM_ok 215 = .ok (.goto 4, 3) := by decide +kernel
theorem dM_ok_218 : decode cM_ok 218 = .ok (.iconst 0, 1) := by decide +kernel
theorem dM_ok_219 : decode cM_ok 219 = .ok (.invokevirtual 145, 3) := by decide +kernel
theorem dM_ok_222 : decode cM_ok 222 = .ok (.iload 4, 2) := by decide +kernel
theorem dM_ok_224 : decode cM_ok 224 = .ok (.ifCond .lt 11, 3) := by decide +kernel
theorem dM_ok_227 : decode cM_ok 227 = .ok (.aload_n 0, 1) := by decide +kernel
theorem dM_ok_228 : decode cM_ok 228 = .ok (.bipush 103, 2) := by decide +kernel
theorem dM_ok_230 : decode cM_ok 230 = .ok (.iload 4, 2) := by decide +kernel
theorem dM_ok_232 : decode cM_ok 232 = .ok (.invokevirtual 145, 3) := by decide +kernel
theorem dM_ok_235 : decode cM_ok 235 = .ok (.aload_n 0, 1) := by decide +kernel
theorem dM_ok_236 : decode cM_ok 236 = .ok (.iload_n 1, 1) := by decide +kernel
theorem dM_ok_237 : decode cM_ok 237 = .ok (.invokevirtual 149, 3) := by decide +kernel
theorem dM_ok_240 : decode cM_ok 240 = .ok (.istore 7, 2) := by decide +kernel
theorem dM_ok_242 : decode cM_ok 242 = .ok (.iload 7, 2) := by decide +kernel
theorem dM_ok_244 : decode cM_ok 244 = .ok (.ifCond .lt 27, 3) := by decide +kernel
theorem dM_ok_247 : decode cM_ok 247 = .ok (.aload_n 0, 1) := by decide +kernel
theorem dM_ok_248 : decode cM_ok 248 = .ok (.bipush 112, 2) := by decide +kernel
theorem dM_ok_250 : decode cM_ok 250 = .ok (.aload_n 0, 1) := by decide +kernel
theorem dM_ok_251 : decode cM_ok 251 = .ok (.getfield 59, 3) := by decide +kernel
theorem dM_ok_254 : decode cM_ok 254 = .ok (.iload 7, 2) := by decide +kernel
theorem dM_ok_256 : decode cM_ok 256 = .ok (.iaload, 1) := by decide +kernel
theorem dM_ok_257 : decode cM_ok 257 = .ok (.invokevirtual 145, 3) := by decide +kernel
theorem dM_ok_260 : decode cM_ok 260 = .ok (.aload_n 0, 1) := by decide +kernel
theorem dM_ok_261 : decode cM_ok 261 = .ok (.iload 7, 2) := by decide +kernel
theorem dM_ok_263 : decode cM_ok 263 = .ok (.invokevirtual 149, 3) := by decide +kernel
theorem dM_ok_266 : decode cM_ok 266 = .ok (.istore 7, 2) := by decide +kernel
theorem dM_ok_268 : decode cM_ok 268 = .ok (.goto (-26), 3) := by decide +kernel
theorem dM_ok_271 : decode cM_ok 271 = .ok (.aload_n 0, 1) := by decide +kernel
theorem dM_ok_272 : decode cM_ok 272 = .ok (.bipush 111, 2) := by decide +kernel
theorem dM_ok_274 : decode cM_ok 274 = .ok (.bipush 107, 2) := by decide +kernel
theorem dM_ok_276 : decode cM_ok 276 = .ok (.iconst 1, 1) := by decide +kernel
theorem dM_ok_277 : decode cM_ok 277 = .ok (.invokevirtual 135, 3) := by decide +kernel
theorem dM_ok_280 : decode cM_ok 280 = .ok (.return_, 1) := by decide +kernel
theorem dM_letters_0 : decode cM_letters 0 = .ok (.bipush 8, 2) := by decide +kernel
theorem dM_letters_2 : decode cM_letters 2 = .ok (.iload_n 1, 1) := by decide +kernel
theorem dM_letters_3 : decode cM_letters 3 = .ok (.imul, 1) := by decide +kernel
theorem dM_letters_4 : decode cM_letters 4 = .ok (.istore_n 2, 1) := by decide +kernel
theorem dM_letters_5 : decode cM_letters 5 = .ok (.iload_n 2, 1) := by decide +kernel
theorem dM_letters_6 : decode cM_letters 6 = .ok (.bipush 8, 2) := by decide +kernel
theorem dM_letters_8 : decode cM_letters 8 = .ok (.iload_n 1, 1) := by decide +kernel
theorem dM_letters_9 : decode cM_letters 9 = .ok (.imul, 1) := by decide +kernel
theorem dM_letters_10 : decode cM_letters 10 = .ok (.aload_n 0, 1) := by decide +kernel
theorem dM_letters_11 : decode cM_letters 11 = .ok (.getfield 16, 3) := by decide +kernel
theorem dM_letters_14 : decode cM_letters 14 = .ok (.iload_n 1, 1) := by decide +kernel
theorem dM_letters_15 : decode cM_letters 15 = .ok (.iaload, 1) := by decide +kernel
theorem dM_letters_16 : decode cM_letters 16 = .ok (.iadd, 1) := by decide +kernel
theorem dM_letters_17 : decode cM_letters 17 = .ok (.if_icmp .ge 100, 3) := by decide +kernel
theorem dM_letters_20 : decode cM_letters 20 = .ok (.aload_n 0, 1) := by decide +kernel
theorem dM_letters_21 : decode cM_letters 21 = .ok (.getfield 13, 3) := by decide +kernel
theorem dM_letters_24 : decode cM_letters 24 = .ok (.iload_n 2, 1) := by decide +kernel
theorem dM_letters_25 : decode cM_letters 25 = .ok (.iaload, 1) := by decide +kernel
theorem dM_letters_26 : decode cM_letters 26 = .ok (.istore_n 3, 1) := by decide +kernel
theorem dM_letters_27 : decode cM_letters 27 = .ok (.iload_n 3, 1) := by decide +kernel
theorem dM_letters_28 : decode cM_letters 28 = .ok (.bipush 38, 2) := by decide +kernel
theorem dM_letters_30 : decode cM_letters 30 = .ok (.if_icmp .ne 17, 3) := by decide +kernel
theorem dM_letters_33 : decode cM_letters 33 = .ok (.aload_n 0, 1) := by decide +kernel
theorem dM_letters_34 : decode cM_letters 34 = .ok (.bipush 97, 2) := by decide +kernel
theorem dM_letters_36 : decode cM_letters 36 = .ok (.bipush 109, 2) := by decide +kernel
theorem dM_letters_38 : decode cM_letters 38 = .ok (.bipush 112, 2) := by decide +kernel
theorem dM_letters_40 : decode cM_letters 40 = .ok (.iconst 0, 1) := by decide +kernel
theorem dM_letters_41 : decode cM_letters 41 = .ok (.invokevirtual 131, 3) := by decide +kernel
theorem dM_letters_44 : decode cM_letters 44 = .ok (.goto 67, 3) := by decide +kernel
theorem dM_letters_47 : decode cM_letters 47 = .ok (.iload_n 3, 1) := by decide +kernel
theorem dM_letters_48 : decode cM_letters 48 = .ok (.bipush 60, 2) := by decide +kernel
theorem dM_letters_50 : decode cM_letters 50 = .ok (.if_icmp .ne 16, 3) := by decide +kernel
theorem dM_letters_53 : decode cM_letters 53 = .ok (.aload_n 0, 1) := by decide +kernel
theorem dM_letters_54 : decode cM_letters 54 = .ok (.bipush 108, 2) := by decide +kernel
theorem dM_letters_56 : decode cM_letters 56 = .ok (.bipush 116, 2) := by decide +kernel
theorem dM_letters_58 : decode cM_letters 58 = .ok (.iconst 0, 1) := by decide +kernel
theorem dM_letters_59 : decode cM_letters 59 = .ok (.iconst 0, 1) := by decide +kernel
theorem dM_letters_60 : decode cM_letters 60 = .ok (.invokevirtual 131, 3) := by decide +kernel
theorem dM_letters_63 : decode cM_letters 63 = .ok (.goto 48, 3) := by decide +kernel
theorem dM_letters_66 : decode cM_letters 66 = .ok (.iload_n 3, 1) := by decide +kernel
theorem dM_letters_67 : decode cM_letters 67 = .ok (.bipush 62, 2) := by decide +kernel
theorem dM_letters_69 : decode cM_letters 69 = .ok (.if_icmp .ne 16, 3) := by decide +kernel
theorem dM_letters_72 : decode cM_letters 72 = .ok (.aload_n 0, 1) := by decide +kernel
theorem dM_letters_73 : decode cM_letters 73 = .ok (.bipush 103, 2) := by decide +kernel
theorem dM_letters_75 : decode cM_letters 75 = .ok (.bipush 116, 2) := by decide +kernel
theorem dM_letters_77 : decode cM_letters 77 = .ok (.iconst 0, 1) := by decide +kernel
theorem dM_letters_78 : decode cM_letters 78 = .ok (.iconst 0, 1) := by decide +kernel
theorem dM_letters_79 : decode cM_letters 79 = .ok (.invokevirtual 131, 3) := by decide +kernel
theorem dM_letters_82 : decode cM_letters 82 = .ok (.goto 29, 3) := by decide +kernel
theorem dM_letters_85 : decode cM_letters 85 = .ok (.iload_n 3, 1) := by decide +kernel
theorem dM_letters_86 : decode cM_letters 86 = .ok (.bipush 34, 2) := by decide +kernel
theorem dM_letters_88 : decode cM_letters 88 = .ok (.if_icmp .ne 18, 3) := by decide +kernel
theorem dM_letters_91 : decode cM_letters 91 = .ok (.aload_n 0, 1) := by decide +kernel
theorem dM_letters_92 : decode cM_letters 92 = .ok (.bipush 113, 2) := by decide +kernel
theorem dM_letters_94 : decode cM_letters 94 = .ok (.bipush 117, 2) := by decide +kernel
theorem dM_letters_96 : decode cM_letters 96 = .ok (.bipush 111, 2) := by decide +kernel
theorem dM_letters_98 : decode cM_letters 98 = .ok (.bipush 116, 2) := by decide +kernel
theorem dM_letters_100 : decode cM_letters 100 = .ok (.invokevirtual 131, 3) := by decide +kernel
theorem dM_letters_103 : decode cM_letters 103 = .ok (.goto 8, 3) := by decide +kernel
theorem dM_letters_106 : decode cM_letters 106 = .ok (.aload_n 0, 1) := by decide +kernel
theorem dM_letters_107 : decode cM_letters 107 = .ok (.iload_n 3, 1) := by decide +kernel
theorem dM_letters_108 : decode cM_letters 108 = .ok (.invokevirtual 125, 3) := by decide +kernel
theorem dM_letters_111 : decode cM_letters 111 = .ok (.iinc 2 1, 3) := by decide +kernel
theorem dM_letters_114 : decode cM_letters 114 = .ok (.goto (-109), 3) := by decide +kernel
theorem dM_letters_117 : decode cM_letters 117 = .ok (.return_, 1) := by decide +kernel
theorem dM_entity_0 : decode cM_entity 0 = .ok (.aload_n 0, 1) := by decide +kernel
theorem dM_entity_1 : decode cM_entity 1 = .ok (.bipush 38, 2) := by decide +kernel
theorem dM_entity_3 : decode cM_entity 3 = .ok (.invokevirtual 125, 3) := by decide +kernel
theorem dM_entity_6 : decode cM_entity 6 = .ok (.aload_n 0, 1) := by decide +kernel
theorem dM_entity_7 : decode cM_entity 7 = .ok (.iload_n 1, 1) := by decide +kernel
theorem dM_entity_8 : decode cM_entity 8 = .ok (.invokevirtual 125, 3) := by decide +kernel
theorem dM_entity_11 : decode cM_entity 11 = .ok (.aload_n 0, 1) := by decide +kernel
theorem dM_entity_12 : decode cM_entity 12 = .ok (.iload_n 2, 1) := by decide +kernel
theorem dM_entity_13 : decode cM_entity 13 = .ok (.invokevirtual 125, 3) := by decide +kernel
theorem dM_entity_16 : decode cM_entity 16 = .ok (.iload_n 3, 1) := by decide +kernel
theorem dM_entity_17 : decode cM_entity 17 = .ok (.ifCond .le 8, 3) := by decide +kernel
theorem dM_entity_20 : decode cM_entity 20 = .ok (.aload_n 0, 1) := by decide +kernel
theorem dM_entity_21 : decode cM_entity 21 = .ok (.iload_n 3, 1) := by decide +kernel
theorem dM_entity_22 : decode cM_entity 22 = .ok (.invokevirtual 125, 3) := by decide +kernel
theorem dM_entity_25 : decode cM_entity 25 = .ok (.iload 4, 2) := by decide +kernel
theorem dM_entity_27 : decode cM_entity 27 = .ok (.ifCond .le 9, 3) := by decide +kernel
theorem dM_entity_30 : decode cM_entity 30 = .ok (.aload_n 0, 1) := by decide +kernel
theorem dM_entity_31 : decode cM_entity 31 = .ok (.iload 4, 2) := by decide +kernel
theorem dM_entity_33 : decode cM_entity 33 = .ok (.invokevirtual 125, 3) := by decide +kernel
theorem dM_entity_36 : decode cM_entity 36 = .ok (.aload_n 0, 1) := by decide +kernel
theorem dM_entity_37 : decode cM_entity 37 = .ok (.bipush 59, 2) := by decide +kernel
theorem dM_entity_39 : decode cM_entity 39 = .ok (.invokevirtual 125, 3) := by decide +kernel
theorem dM_entity_42 : decode cM_entity 42 = .ok (.return_, 1) := by decide +kernel
theorem dM_element_0 : decode cM_element 0 = .ok (.aload_n 0, 1) := by decide +kernel
theorem dM_element_1 : decode cM_element 1 = .ok (.iload_n 1, 1) := by decide +kernel
theorem dM_element_2 : decode cM_element 2 = .ok (.iconst 0, 1) := by decide +kernel
theorem dM_element_3 : decode cM_element 3 = .ok (.iconst 0, 1) := by decide +kernel
theorem dM_element_4 : decode cM_element 4 = .ok (.invokevirtual 135, 3) := by decide +kernel
theorem dM_element_7 : decode cM_element 7 = .ok (.aload_n 0, 1) := by decide +kernel
theorem dM_element_8 : decode cM_element 8 = .ok (.iload_n 2, 1) := by decide +kernel
theorem dM_element_9 : decode cM_element 9 = .ok (.invokevirtual 139, 3) := by decide +kernel
theorem dM_element_12 : decode cM_element 12 = .ok (.aload_n 0, 1) := by decide +kernel
theorem dM_element_13 : decode cM_element 13 = .ok (.iload_n 1, 1) := by decide +kernel
theorem dM_element_14 : decode cM_element 14 = .ok (.iconst 0, 1) := by decide +kernel
theorem dM_element_15 : decode cM_element 15 = .ok (.iconst 1, 1) := by decide +kernel
theorem dM_element_16 : decode cM_element 16 = .ok (.invokevirtual 135, 3) := by decide +kernel
theorem dM_element_19 : decode cM_element 19 = .ok (.return_, 1) := by decide +kernel
theorem dM_grant_0 : decode cM_grant 0 = .ok (.aload_n 0, 1) := by decide +kernel
theorem dM_grant_1 : decode cM_grant 1 = .ok (.getfield 68, 3) := by decide +kernel
theorem dM_grant_4 : decode cM_grant 4 = .ok (.iload_n 1, 1) := by decide +kernel
theorem dM_grant_5 : decode cM_grant 5 = .ok (.iaload, 1) := by decide +kernel
theorem dM_grant_6 : decode cM_grant 6 = .ok (.istore_n 2, 1) := by decide +kernel
theorem dM_grant_7 : decode cM_grant 7 = .ok (.iload_n 2, 1) := by decide +kernel
theorem dM_grant_8 : decode cM_grant 8 = .ok (.ifCond .lt 23, 3) := by decide +kernel
theorem dM_grant_11 : decode cM_grant 11 = .ok (.aload_n 0, 1) := by decide +kernel
theorem dM_grant_12 : decode cM_grant 12 = .ok (.getfield 53, 3) := by decide +kernel
theorem dM_grant_15 : decode cM_grant 15 = .ok (.iload_n 2, 1) := by decide +kernel
theorem dM_grant_16 : decode cM_grant 16 = .ok (.iaload, 1) := by decide +kernel
theorem dM_grant_17 : decode cM_grant 17 = .ok (.iconst 2, 1) := by decide +kernel
theorem dM_grant_18 : decode cM_grant 18 = .ok (.if_icmp .eq 13, 3) := by decide +kernel
theorem dM_grant_21 : decode cM_grant 21 = .ok (.aload_n 0, 1) := by decide +kernel
theorem dM_grant_22 : decode cM_grant 22 = .ok (.getfield 68, 3) := by decide +kernel
theorem dM_grant_25 : decode cM_grant 25 = .ok (.iload_n 2, 1) := by decide +kernel
theorem dM_grant_26 : decode cM_grant 26 = .ok (.iaload, 1) := by decide +kernel
theorem dM_grant_27 : decode cM_grant 27 = .ok (.istore_n 2, 1) := by decide +kernel
theorem dM_grant_28 : decode cM_grant 28 = .ok (.goto (-21), 3) := by decide +kernel
theorem dM_grant_31 : decode cM_grant 31 = .ok (.iload_n 2, 1) := by decide +kernel
theorem dM_grant_32 : decode cM_grant 32 = .ok (.ireturn, 1) := by decide +kernel
theorem dM_logout_0 : decode cM_logout 0 = .ok (.aload_n 0, 1) := by decide +kernel
theorem dM_logout_1 : decode cM_logout 1 = .ok (.iload_n 1, 1) := by decide +kernel
theorem dM_logout_2 : decode cM_logout 2 = .ok (.iconst 0, 1) := by decide +kernel
theorem dM_logout_3 : decode cM_logout 3 = .ok (.aload_n 0, 1) := by decide +kernel
theorem dM_logout_4 : decode cM_logout 4 = .ok (.getfield 104, 3) := by decide +kernel
theorem dM_logout_7 : decode cM_logout 7 = .ok (.iconst 1, 1) := by decide +kernel
theorem dM_logout_8 : decode cM_logout 8 = .ok (.isub, 1) := by decide +kernel
theorem dM_logout_9 : decode cM_logout 9 = .ok (.invokestatic 90, 3) := by decide +kernel
theorem dM_logout_12 : decode cM_logout 12 = .ok (.ifCond .ne 7, 3) := by decide +kernel
theorem dM_logout_15 : decode cM_logout 15 = .ok (.iconst 1, 1) := by decide +kernel
theorem dM_logout_16 : decode cM_logout 16 = .ok (.goto 17, 3) := by decide +kernel
theorem dM_logout_19 : decode cM_logout 19 = .ok (.aload_n 0, 1) := by decide +kernel
theorem dM_logout_20 : decode cM_logout 20 = .ok (.getfield 50, 3) := by decide +kernel
theorem dM_logout_23 : decode cM_logout 23 = .ok (.iload_n 1, 1) := by decide +kernel
theorem dM_logout_24 : decode cM_logout 24 = .ok (.baload, 1) := by decide +kernel
theorem dM_logout_25 : decode cM_logout 25 = .ok (.ifCond .eq 7, 3) := by decide +kernel
theorem dM_logout_28 : decode cM_logout 28 = .ok (.iconst 2, 1) := by decide +kernel
theorem dM_logout_29 : decode cM_logout 29 = .ok (.goto 4, 3) := by decide +kernel
theorem dM_logout_32 : decode cM_logout 32 = .ok (.iconst 0, 1) := by decide +kernel
theorem dM_logout_33 : decode cM_logout 33 = .ok (.putfield 87, 3) := by decide +kernel
theorem dM_logout_36 : decode cM_logout 36 = .ok (.aload_n 0, 1) := by decide +kernel
theorem dM_logout_37 : decode cM_logout 37 = .ok (.getfield 87, 3) := by decide +kernel
theorem dM_logout_40 : decode cM_logout 40 = .ok (.ifCond .le 7, 3) := by decide +kernel
theorem dM_logout_43 : decode cM_logout 43 = .ok (.iconst 0, 1) := by decide +kernel
theorem dM_logout_44 : decode cM_logout 44 = .ok (.goto 8, 3) := by decide +kernel
theorem dM_logout_47 : decode cM_logout 47 = .ok (.aload_n 0, 1) := by decide +kernel
theorem dM_logout_48 : decode cM_logout 48 = .ok (.iload_n 1, 1) := by decide +kernel
theorem dM_logout_49 : decode cM_logout 49 = .ok (.invokevirtual 166, 3) := by decide +kernel
theorem dM_logout_52 : decode cM_logout 52 = .ok (.ireturn, 1) := by decide +kernel
theorem dM_ends_0 : decode cM_ends 0 = .ok (.aload_n 0, 1) := by decide +kernel
theorem dM_ends_1 : decode cM_ends 1 = .ok (.getfield 50, 3) := by decide +kernel
theorem dM_ends_4 : decode cM_ends 4 = .ok (.iload_n 1, 1) := by decide +kernel
theorem dM_ends_5 : decode cM_ends 5 = .ok (.iconst 1, 1) := by decide +kernel
theorem dM_ends_6 : decode cM_ends 6 = .ok (.bastore, 1) := by decide +kernel
theorem dM_ends_7 : decode cM_ends 7 = .ok (.iconst 0, 1) := by decide +kernel
theorem dM_ends_8 : decode cM_ends 8 = .ok (.istore_n 2, 1) := by decide +kernel
theorem dM_ends_9 : decode cM_ends 9 = .ok (.iconst 0, 1) := by decide +kernel
theorem dM_ends_10 : decode cM_ends 10 = .ok (.istore_n 3, 1) := by decide +kernel
theorem dM_ends_11 : decode cM_ends 11 = .ok (.iload_n 3, 1) := by decide +kernel
theorem dM_ends_12 : decode cM_ends 12 = .ok (.aload_n 0, 1) := by decide +kernel
theorem dM_ends_13 : decode cM_ends 13 = .ok (.getfield 111, 3) := by decide +kernel
theorem dM_ends_16 : decode cM_ends 16 = .ok (.if_icmp .ge 81, 3) := by decide +kernel
