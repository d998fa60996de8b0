theorem dM_ends_19 : decode cM_ends 19 = .ok (.aload_n 0, 1) := by decide +kernel
theorem dM_ends_20 : decode cM_ends 20 = .ok (.getfield 56, 3) := by decide +kernel
theorem dM_ends_23 : decode cM_ends 23 = .ok (.iload_n 3, 1) := by decide +kernel
theorem dM_ends_24 : decode cM_ends 24 = .ok (.iaload, 1) := by decide +kernel
theorem dM_ends_25 : decode cM_ends 25 = .ok (.iload_n 1, 1) := by decide +kernel
theorem dM_ends_26 : decode cM_ends 26 = .ok (.if_icmp .ne 65, 3) := by decide +kernel
theorem dM_ends_29 : decode cM_ends 29 = .ok (.aload_n 0, 1) := by decide +kernel
theorem dM_ends_30 : decode cM_ends 30 = .ok (.getfield 53, 3) := by decide +kernel
theorem dM_ends_33 : decode cM_ends 33 = .ok (.iload_n 3, 1) := by decide +kernel
theorem dM_ends_34 : decode cM_ends 34 = .ok (.iaload, 1) := by decide +kernel
theorem dM_ends_35 : decode cM_ends 35 = .ok (.ifCond .ne 56, 3) := by decide +kernel
theorem dM_ends_38 : decode cM_ends 38 = .ok (.aload_n 0, 1) := by decide +kernel
theorem dM_ends_39 : decode cM_ends 39 = .ok (.getfield 32, 3) := by decide +kernel
theorem dM_ends_42 : decode cM_ends 42 = .ok (.aload_n 0, 1) := by decide +kernel
theorem dM_ends_43 : decode cM_ends 43 = .ok (.getfield 59, 3) := by decide +kernel
theorem dM_ends_46 : decode cM_ends 46 = .ok (.iload_n 3, 1) := by decide +kernel
theorem dM_ends_47 : decode cM_ends 47 = .ok (.iaload, 1) := by decide +kernel
theorem dM_ends_48 : decode cM_ends 48 = .ok (.iaload, 1) := by decide +kernel
theorem dM_ends_49 : decode cM_ends 49 = .ok (.iconst 4, 1) := by decide +kernel
theorem dM_ends_50 : decode cM_ends 50 = .ok (.idiv, 1) := by decide +kernel
theorem dM_ends_51 : decode cM_ends 51 = .ok (.iconst 2, 1) := by decide +kernel
theorem dM_ends_52 : decode cM_ends 52 = .ok (.irem, 1) := by decide +kernel
theorem dM_ends_53 : decode cM_ends 53 = .ok (.iconst 1, 1) := by decide +kernel
theorem dM_ends_54 : decode cM_ends 54 = .ok (.if_icmp .ne 37, 3) := by decide +kernel
theorem dM_ends_57 : decode cM_ends 57 = .ok (.aload_n 0, 1) := by decide +kernel
theorem dM_ends_58 : decode cM_ends 58 = .ok (.getfield 74, 3) := by decide +kernel
theorem dM_ends_61 : decode cM_ends 61 = .ok (.aload_n 0, 1) := by decide +kernel
theorem dM_ends_62 : decode cM_ends 62 = .ok (.getfield 163, 3) := by decide +kernel
theorem dM_ends_65 : decode cM_ends 65 = .ok (.sipush 1000, 3) := by decide +kernel
theorem dM_ends_68 : decode cM_ends 68 = .ok (.aload_n 0, 1) := by decide +kernel
theorem dM_ends_69 : decode cM_ends 69 = .ok (.getfield 59, 3) := by decide +kernel
theorem dM_ends_72 : decode cM_ends 72 = .ok (.iload_n 3, 1) := by decide +kernel
theorem dM_ends_73 : decode cM_ends 73 = .ok (.iaload, 1) := by decide +kernel
theorem dM_ends_74 : decode cM_ends 74 = .ok (.imul, 1) := by decide +kernel
theorem dM_ends_75 : decode cM_ends 75 = .ok (.iload_n 3, 1) := by decide +kernel
theorem dM_ends_76 : decode cM_ends 76 = .ok (.iadd, 1) := by decide +kernel
theorem dM_ends_77 : decode cM_ends 77 = .ok (.iastore, 1) := by decide +kernel
theorem dM_ends_78 : decode cM_ends 78 = .ok (.aload_n 0, 1) := by decide +kernel
theorem dM_ends_79 : decode cM_ends 79 = .ok (.dup, 1) := by decide +kernel
theorem dM_ends_80 : decode cM_ends 80 = .ok (.getfield 163, 3) := by decide +kernel
theorem dM_ends_83 : decode cM_ends 83 = .ok (.iconst 1, 1) := by decide +kernel
theorem dM_ends_84 : decode cM_ends 84 = .ok (.iadd, 1) := by decide +kernel
theorem dM_ends_85 : decode cM_ends 85 = .ok (.putfield 163, 3) := by decide +kernel
theorem dM_ends_88 : decode cM_ends 88 = .ok (.iinc 2 1, 3) := by decide +kernel
theorem dM_ends_91 : decode cM_ends 91 = .ok (.iinc 3 1, 3) := by decide +kernel
theorem dM_ends_94 : decode cM_ends 94 = .ok (.goto (-83), 3) := by decide +kernel
theorem dM_ends_97 : decode cM_ends 97 = .ok (.iload_n 2, 1) := by decide +kernel
theorem dM_ends_98 : decode cM_ends 98 = .ok (.ireturn, 1) := by decide +kernel
theorem dM_tick_0 : decode cM_tick 0 = .ok (.aload_n 0, 1) := by decide +kernel
theorem dM_tick_1 : decode cM_tick 1 = .ok (.iload_n 1, 1) := by decide +kernel
theorem dM_tick_2 : decode cM_tick 2 = .ok (.iconst 1, 1) := by decide +kernel
theorem dM_tick_3 : decode cM_tick 3 = .ok (.sipush 200, 3) := by decide +kernel
theorem dM_tick_6 : decode cM_tick 6 = .ok (.invokestatic 90, 3) := by decide +kernel
theorem dM_tick_9 : decode cM_tick 9 = .ok (.ifCond .eq 7, 3) := by decide +kernel
theorem dM_tick_12 : decode cM_tick 12 = .ok (.iconst 0, 1) := by decide +kernel
theorem dM_tick_13 : decode cM_tick 13 = .ok (.goto 4, 3) := by decide +kernel
theorem dM_tick_16 : decode cM_tick 16 = .ok (.iconst 1, 1) := by decide +kernel
theorem dM_tick_17 : decode cM_tick 17 = .ok (.putfield 87, 3) := by decide +kernel
theorem dM_tick_20 : decode cM_tick 20 = .ok (.aload_n 0, 1) := by decide +kernel
theorem dM_tick_21 : decode cM_tick 21 = .ok (.getfield 87, 3) := by decide +kernel
theorem dM_tick_24 : decode cM_tick 24 = .ok (.ifCond .le 5, 3) := by decide +kernel
theorem dM_tick_27 : decode cM_tick 27 = .ok (.iconst 0, 1) := by decide +kernel
theorem dM_tick_28 : decode cM_tick 28 = .ok (.ireturn, 1) := by decide +kernel
theorem dM_tick_29 : decode cM_tick 29 = .ok (.aload_n 0, 1) := by decide +kernel
theorem dM_tick_30 : decode cM_tick 30 = .ok (.dup, 1) := by decide +kernel
theorem dM_tick_31 : decode cM_tick 31 = .ok (.getfield 97, 3) := by decide +kernel
theorem dM_tick_34 : decode cM_tick 34 = .ok (.iload_n 1, 1) := by decide +kernel
theorem dM_tick_35 : decode cM_tick 35 = .ok (.iadd, 1) := by decide +kernel
theorem dM_tick_36 : decode cM_tick 36 = .ok (.putfield 97, 3) := by decide +kernel
theorem dM_tick_39 : decode cM_tick 39 = .ok (.iconst 0, 1) := by decide +kernel
theorem dM_tick_40 : decode cM_tick 40 = .ok (.istore_n 2, 1) := by decide +kernel
theorem dM_tick_41 : decode cM_tick 41 = .ok (.iload_n 2, 1) := by decide +kernel
theorem dM_tick_42 : decode cM_tick 42 = .ok (.aload_n 0, 1) := by decide +kernel
theorem dM_tick_43 : decode cM_tick 43 = .ok (.getfield 104, 3) := by decide +kernel
theorem dM_tick_46 : decode cM_tick 46 = .ok (.if_icmp .ge 108, 3) := by decide +kernel
theorem dM_tick_49 : decode cM_tick 49 = .ok (.aload_n 0, 1) := by decide +kernel
theorem dM_tick_50 : decode cM_tick 50 = .ok (.getfield 97, 3) := by decide +kernel
theorem dM_tick_53 : decode cM_tick 53 = .ok (.aload_n 0, 1) := by decide +kernel
theorem dM_tick_54 : decode cM_tick 54 = .ok (.getfield 44, 3) := by decide +kernel
theorem dM_tick_57 : decode cM_tick 57 = .ok (.iload_n 2, 1) := by decide +kernel
theorem dM_tick_58 : decode cM_tick 58 = .ok (.iaload, 1) := by decide +kernel
theorem dM_tick_59 : decode cM_tick 59 = .ok (.isub, 1) := by decide +kernel
theorem dM_tick_60 : decode cM_tick 60 = .ok (.aload_n 0, 1) := by decide +kernel
theorem dM_tick_61 : decode cM_tick 61 = .ok (.getfield 47, 3) := by decide +kernel
theorem dM_tick_64 : decode cM_tick 64 = .ok (.iload_n 2, 1) := by decide +kernel
theorem dM_tick_65 : decode cM_tick 65 = .ok (.baload, 1) := by decide +kernel
theorem dM_tick_66 : decode cM_tick 66 = .ok (.ifCond .eq 9, 3) := by decide +kernel
theorem dM_tick_69 : decode cM_tick 69 = .ok (.sipush 150, 3) := by decide +kernel
theorem dM_tick_72 : decode cM_tick 72 = .ok (.goto 5, 3) := by decide +kernel
theorem dM_tick_75 : decode cM_tick 75 = .ok (.bipush 30, 2) := by decide +kernel
theorem dM_tick_77 : decode cM_tick 77 = .ok (.if_icmp .le 7, 3) := by decide +kernel
theorem dM_tick_80 : decode cM_tick 80 = .ok (.iconst 1, 1) := by decide +kernel
theorem dM_tick_81 : decode cM_tick 81 = .ok (.goto 4, 3) := by decide +kernel
theorem dM_tick_84 : decode cM_tick 84 = .ok (.iconst 0, 1) := by decide +kernel
theorem dM_tick_85 : decode cM_tick 85 = .ok (.istore_n 3, 1) := by decide +kernel
theorem dM_tick_86 : decode cM_tick 86 = .ok (.aload_n 0, 1) := by decide +kernel
theorem dM_tick_87 : decode cM_tick 87 = .ok (.getfield 97, 3) := by decide +kernel
theorem dM_tick_90 : decode cM_tick 90 = .ok (.aload_n 0, 1) := by decide +kernel
theorem dM_tick_91 : decode cM_tick 91 = .ok (.getfield 41, 3) := by decide +kernel
theorem dM_tick_94 : decode cM_tick 94 = .ok (.iload_n 2, 1) := by decide +kernel
theorem dM_tick_95 : decode cM_tick 95 = .ok (.iaload, 1) := by decide +kernel
theorem dM_tick_96 : decode cM_tick 96 = .ok (.isub, 1) := by decide +kernel
theorem dM_tick_97 : decode cM_tick 97 = .ok (.aload_n 0, 1) := by decide +kernel
theorem dM_tick_98 : decode cM_tick 98 = .ok (.getfield 47, 3) := by decide +kernel
theorem dM_tick_101 : decode cM_tick 101 = .ok (.iload_n 2, 1) := by decide +kernel
theorem dM_tick_102 : decode cM_tick 102 = .ok (.baload, 1) := by decide +kernel
theorem dM_tick_103 : decode cM_tick 103 = .ok (.ifCond .eq 9, 3) := by decide +kernel
theorem dM_tick_106 : decode cM_tick 106 = .ok (.sipush 400, 3) := by decide +kernel
theorem dM_tick_109 : decode cM_tick 109 = .ok (.goto 5, 3) := by decide +kernel
theorem dM_tick_112 : decode cM_tick 112 = .ok (.bipush 120, 2) := by decide +kernel
theorem dM_tick_114 : decode cM_tick 114 = .ok (.if_icmp .le 7, 3) := by decide +kernel
theorem dM_tick_117 : decode cM_tick 117 = .ok (.iconst 1, 1) := by decide +kernel
theorem dM_tick_118 : decode cM_tick 118 = .ok (.goto 4, 3) := by decide +kernel
theorem dM_tick_121 : decode cM_tick 121 = .ok (.iconst 0, 1) := by decide +kernel
theorem dM_tick_122 : decode cM_tick 122 = .ok (.istore 4, 2) := by decide +kernel
theorem dM_tick_124 : decode cM_tick 124 = .ok (.aload_n 0, 1) := by decide +kernel
theorem dM_tick_125 : decode cM_tick 125 = .ok (.getfield 50, 3) := by decide +kernel
theorem dM_tick_128 : decode cM_tick 128 = .ok (.iload_n 2, 1) := by decide +kernel
theorem dM_tick_129 : decode cM_tick 129 = .ok (.baload, 1) := by decide +kernel
theorem dM_tick_130 : decode cM_tick 130 = .ok (.ifCond .ne 18, 3) := by decide +kernel
theorem dM_tick_133 : decode cM_tick 133 = .ok (.iload_n 3, 1) := by decide +kernel
theorem dM_tick_134 : decode cM_tick 134 = .ok (.ifCond .ne 8, 3) := by decide +kernel
theorem dM_tick_137 : decode cM_tick 137 = .ok (.iload 4, 2) := by decide +kernel
theorem dM_tick_139 : decode cM_tick 139 = .ok (.ifCond .eq 9, 3) := by decide +kernel
theorem dM_tick_142 : decode cM_tick 142 = .ok (.aload_n 0, 1) := by decide +kernel
theorem dM_tick_143 : decode cM_tick 143 = .ok (.iload_n 2, 1) := by decide +kernel
theorem dM_tick_144 : decode cM_tick 144 = .ok (.invokevirtual 166, 3) := by decide +kernel
theorem dM_tick_147 : decode cM_tick 147 = .ok (.pop, 1) := by decide +kernel
theorem dM_tick_148 : decode cM_tick 148 = .ok (.iinc 2 1, 3) := by decide +kernel
theorem dM_tick_151 : decode cM_tick 151 = .ok (.goto (-110), 3) := by decide +kernel
theorem dM_tick_154 : decode cM_tick 154 = .ok (.aload_n 0, 1) := by decide +kernel
theorem dM_tick_155 : decode cM_tick 155 = .ok (.getfield 97, 3) := by decide +kernel
theorem dM_tick_158 : decode cM_tick 158 = .ok (.ireturn, 1) := by decide +kernel
theorem dM_document_0 : decode cM_document 0 = .ok (.aload_n 0, 1) := by decide +kernel
theorem dM_document_1 : decode cM_document 1 = .ok (.iconst 0, 1) := by decide +kernel
theorem dM_document_2 : decode cM_document 2 = .ok (.putfield 87, 3) := by decide +kernel
theorem dM_document_5 : decode cM_document 5 = .ok (.iload_n 1, 1) := by decide +kernel
theorem dM_document_6 : decode cM_document 6 = .ok (.iconst (-1), 1) := by decide +kernel
theorem dM_document_7 : decode cM_document 7 = .ok (.if_icmp .ne 8, 3) := by decide +kernel
theorem dM_document_10 : decode cM_document 10 = .ok (.aload_n 0, 1) := by decide +kernel
theorem dM_document_11 : decode cM_document 11 = .ok (.getfield 80, 3) := by decide +kernel
theorem dM_document_14 : decode cM_document 14 = .ok (.ireturn, 1) := by decide +kernel
theorem dM_document_15 : decode cM_document 15 = .ok (.iload_n 1, 1) := by decide +kernel
theorem dM_document_16 : decode cM_document 16 = .ok (.ifCond .lt 20, 3) := by decide +kernel
theorem dM_document_19 : decode cM_document 19 = .ok (.iload_n 1, 1) := by decide +kernel
theorem dM_document_20 : decode cM_document 20 = .ok (.aload_n 0, 1) := by decide +kernel
theorem dM_document_21 : decode cM_document 21 = .ok (.getfield 80, 3) := by decide +kernel
theorem dM_document_24 : decode cM_document 24 = .ok (.if_icmp .ge 12, 3) := by decide +kernel
theorem dM_document_27 : decode cM_document 27 = .ok (.aload_n 0, 1) := by decide +kernel
theorem dM_document_28 : decode cM_document 28 = .ok (.getfield 77, 3) := by decide +kernel
theorem dM_document_31 : decode cM_document 31 = .ok (.iload_n 1, 1) := by decide +kernel
theorem dM_document_32 : decode cM_document 32 = .ok (.iaload, 1) := by decide +kernel
theorem dM_document_33 : decode cM_document 33 = .ok (.goto 4, 3) := by decide +kernel
theorem dM_document_36 : decode cM_document 36 = .ok (.iconst (-1), 1) := by decide +kernel
theorem dM_document_37 : decode cM_document 37 = .ok (.ireturn, 1) := by decide +kernel
theorem dM_session_0 : decode cM_session 0 = .ok (.aload_n 0, 1) := by decide +kernel
theorem dM_session_1 : decode cM_session 1 = .ok (.iconst 0, 1) := by decide +kernel
theorem dM_session_2 : decode cM_session 2 = .ok (.putfield 87, 3) := by decide +kernel
theorem dM_session_5 : decode cM_session 5 = .ok (.iload_n 1, 1) := by decide +kernel
theorem dM_session_6 : decode cM_session 6 = .ok (.iconst 0, 1) := by decide +kernel
theorem dM_session_7 : decode cM_session 7 = .ok (.aload_n 0, 1) := by decide +kernel
theorem dM_session_8 : decode cM_session 8 = .ok (.getfield 104, 3) := by decide +kernel
theorem dM_session_11 : decode cM_session 11 = .ok (.iconst 1, 1) := by decide +kernel
theorem dM_session_12 : decode cM_session 12 = .ok (.isub, 1) := by decide +kernel
theorem dM_session_13 : decode cM_session 13 = .ok (.invokestatic 90, 3) := by decide +kernel
theorem dM_session_16 : decode cM_session 16 = .ok (.ifCond .ne 5, 3) := by decide +kernel
theorem dM_session_19 : decode cM_session 19 = .ok (.iconst (-1), 1) := by decide +kernel
theorem dM_session_20 : decode cM_session 20 = .ok (.ireturn, 1) := by decide +kernel
theorem dM_session_21 : decode cM_session 21 = .ok (.iload_n 2, 1) := by decide +kernel
theorem dM_session_22 : decode cM_session 22 = .ok (.tableswitch 85 0 4 #[34, 41, 56, 63, 70], 34) := by decide +kernel
theorem dM_session_56 : decode cM_session 56 = .ok (.aload_n 0, 1) := by decide +kernel
theorem dM_session_57 : decode cM_session 57 = .ok (.getfield 38, 3) := by decide +kernel
theorem dM_session_60 : decode cM_session 60 = .ok (.iload_n 1, 1) := by decide +kernel
theorem dM_session_61 : decode cM_session 61 = .ok (.iaload, 1) := by decide +kernel
theorem dM_session_62 : decode cM_session 62 = .ok (.ireturn, 1) := by decide +kernel
theorem dM_session_63 : decode cM_session 63 = .ok (.aload_n 0, 1) := by decide +kernel
theorem dM_session_64 : decode cM_session 64 = .ok (.getfield 50, 3) := by decide +kernel
theorem dM_session_67 : decode cM_session 67 = .ok (.iload_n 1, 1) := by decide +kernel
theorem dM_session_68 : decode cM_session 68 = .ok (.baload, 1) := by decide +kernel
theorem dM_session_69 : decode cM_session 69 = .ok (.ifCond .eq 7, 3) := by decide +kernel
theorem dM_session_72 : decode cM_session 72 = .ok (.iconst 0, 1) := by decide +kernel
theorem dM_session_73 : decode cM_session 73 = .ok (.goto 4, 3) := by decide +kernel
theorem dM_session_76 : decode cM_session 76 = .ok (.iconst 1, 1) := by decide +kernel
theorem dM_session_77 : decode cM_session 77 = .ok (.ireturn, 1) := by decide +kernel
theorem dM_session_78 : decode cM_session 78 = .ok (.aload_n 0, 1) := by decide +kernel
theorem dM_session_79 : decode cM_session 79 = .ok (.getfield 41, 3) := by decide +kernel
theorem dM_session_82 : decode cM_session 82 = .ok (.iload_n 1, 1) := by decide +kernel
theorem dM_session_83 : decode cM_session 83 = .ok (.iaload, 1) := by decide +kernel
theorem dM_session_84 : decode cM_session 84 = .ok (.ireturn, 1) := by decide +kernel
theorem dM_session_85 : decode cM_session 85 = .ok (.aload_n 0, 1) := by decide +kernel
theorem dM_session_86 : decode cM_session 86 = .ok (.getfield 44, 3) := by decide +kernel
theorem dM_session_89 : decode cM_session 89 = .ok (.iload_n 1, 1) := by decide +kernel
theorem dM_session_90 : decode cM_session 90 = .ok (.iaload, 1) := by decide +kernel
theorem dM_session_91 : decode cM_session 91 = .ok (.ireturn, 1) := by decide +kernel
theorem dM_session_92 : decode cM_session 92 = .ok (.aload_n 0, 1) := by decide +kernel
theorem dM_session_93 : decode cM_session 93 = .ok (.getfield 47, 3) := by decide +kernel
theorem dM_session_96 : decode cM_session 96 = .ok (.iload_n 1, 1) := by decide +kernel
theorem dM_session_97 : decode cM_session 97 = .ok (.baload, 1) := by decide +kernel
theorem dM_session_98 : decode cM_session 98 = .ok (.ifCond .eq 7, 3) := by decide +kernel
theorem dM_session_101 : decode cM_session 101 = .ok (.iconst 1, 1) := by decide +kernel
theorem dM_session_102 : decode cM_session 102 = .ok (.goto 4, 3) := by decide +kernel
theorem dM_session_105 : decode cM_session 105 = .ok (.iconst 0, 1) := by decide +kernel
theorem dM_session_106 : decode cM_session 106 = .ok (.ireturn, 1) := by decide +kernel
theorem dM_session_107 : decode cM_session 107 = .ok (.iconst (-1), 1) := by decide +kernel
theorem dM_session_108 : decode cM_session 108 = .ok (.ireturn, 1) := by decide +kernel
theorem dM_about_0 : decode cM_about 0 = .ok (.aload_n 0, 1) := by decide +kernel
theorem dM_about_1 : decode cM_about 1 = .ok (.iconst 0, 1) := by decide +kernel
theorem dM_about_2 : decode cM_about 2 = .ok (.putfield 87, 3) := by decide +kernel
theorem dM_about_5 : decode cM_about 5 = .ok (.iload_n 1, 1) := by decide +kernel
theorem dM_about_6 : decode cM_about 6 = .ok (.iconst 0, 1) := by decide +kernel
theorem dM_about_7 : decode cM_about 7 = .ok (.aload_n 0, 1) := by decide +kernel
theorem dM_about_8 : decode cM_about 8 = .ok (.getfield 111, 3) := by decide +kernel
theorem dM_about_11 : decode cM_about 11 = .ok (.iconst 1, 1) := by decide +kernel
theorem dM_about_12 : decode cM_about 12 = .ok (.isub, 1) := by decide +kernel
theorem dM_about_13 : decode cM_about 13 = .ok (.invokestatic 90, 3) := by decide +kernel
theorem dM_about_16 : decode cM_about 16 = .ok (.ifCond .ne 5, 3) := by decide +kernel
theorem dM_about_19 : decode cM_about 19 = .ok (.iconst (-1), 1) := by decide +kernel
theorem dM_about_20 : decode cM_about 20 = .ok (.ireturn, 1) := by decide +kernel
theorem dM_about_21 : decode cM_about 21 = .ok (.aload_n 0, 1) := by decide +kernel
theorem dM_about_22 : decode cM_about 22 = .ok (.getfield 53, 3) := by decide +kernel
theorem dM_about_25 : decode cM_about 25 = .ok (.iload_n 1, 1) := by decide +kernel
theorem dM_about_26 : decode cM_about 26 = .ok (.iaload, 1) := by decide +kernel
theorem dM_about_27 : decode cM_about 27 = .ok (.iconst 2, 1) := by decide +kernel
theorem dM_about_28 : decode cM_about 28 = .ok (.if_icmp .ne 7, 3) := by decide +kernel
theorem dM_about_31 : decode cM_about 31 = .ok (.iconst 1, 1) := by decide +kernel
theorem dM_about_32 : decode cM_about 32 = .ok (.goto 4, 3) := by decide +kernel
theorem dM_about_35 : decode cM_about 35 = .ok (.iconst 0, 1) := by decide +kernel
theorem dM_about_36 : decode cM_about 36 = .ok (.istore_n 3, 1) := by decide +kernel
theorem dM_about_37 : decode cM_about 37 = .ok (.aload_n 0, 1) := by decide +kernel
theorem dM_about_38 : decode cM_about 38 = .ok (.iload_n 1, 1) := by decide +kernel
theorem dM_about_39 : decode cM_about 39 = .ok (.invokevirtual 149, 3) := by decide +kernel
theorem dM_about_42 : decode cM_about 42 = .ok (.istore 4, 2) := by decide +kernel
theorem dM_about_44 : decode cM_about 44 = .ok (.iload 4, 2) := by decide +kernel
theorem dM_about_46 : decode cM_about 46 = .ok (.ifCond .lt 17, 3) := by decide +kernel
theorem dM_about_49 : decode cM_about 49 = .ok (.iinc 3 1, 3) := by decide +kernel
theorem dM_about_52 : decode cM_about 52 = .ok (.aload_n 0, 1) := by decide +kernel
theorem dM_about_53 : decode cM_about 53 = .ok (.iload 4, 2) := by decide +kernel
theorem dM_about_55 : decode cM_about 55 = .ok (.invokevirtual 149, 3) := by decide +kernel
theorem dM_about_58 : decode cM_about 58 = .ok (.istore 4, 2) := by decide +kernel
theorem dM_about_60 : decode cM_about 60 = .ok (.goto (-16), 3) := by decide +kernel
theorem dM_about_63 : decode cM_about 63 = .ok (.iload_n 2, 1) := by decide +kernel
theorem dM_about_64 : decode cM_about 64 = .ok (.tableswitch 114 0 7 #[48, 55, 69, 76, 83, 90, 105, 112], 48) := by decide +kernel
theorem dM_about_112 : decode cM_about 112 = .ok (.aload_n 0, 1) := by decide +kernel
theorem dM_about_113 : decode cM_about 113 = .ok (.getfield 53, 3) := by decide +kernel
theorem dM_about_116 : decode cM_about 116 = .ok (.iload_n 1, 1) := by decide +kernel
theorem dM_about_117 : decode cM_about 117 = .ok (.iaload, 1) := by decide +kernel
theorem dM_about_118 : decode cM_about 118 = .ok (.ireturn, 1) := by decide +kernel
theorem dM_about_119 : decode cM_about 119 = .ok (.aload_n 0, 1) := by decide +kernel
theorem dM_about_120 : decode cM_about 120 = .ok (.iload_n 1, 1) := by decide +kernel
theorem dM_about_121 : decode cM_about 121 = .ok (.invokevirtual 122, 3) := by decide +kernel
theorem dM_about_124 : decode cM_about 124 = .ok (.ifCond .eq 7, 3) := by decide +kernel
theorem dM_about_127 : decode cM_about 127 = .ok (.iconst 1, 1) := by decide +kernel
theorem dM_about_128 : decode cM_about 128 = .ok (.goto 4, 3) := by decide +kernel
theorem dM_about_131 : decode cM_about 131 = .ok (.iconst 0, 1) := by decide +kernel
theorem dM_about_132 : decode cM_about 132 = .ok (.ireturn, 1) := by decide +kernel
theorem dM_about_133 : decode cM_about 133 = .ok (.aload_n 0, 1) := by decide +kernel
theorem dM_about_134 : decode cM_about 134 = .ok (.getfield 56, 3) := by decide +kernel
theorem dM_about_137 : decode cM_about 137 = .ok (.iload_n 1, 1) := by decide +kernel
theorem dM_about_138 : decode cM_about 138 = .ok (.iaload, 1) := by decide +kernel
theorem dM_about_139 : decode cM_about 139 = .ok (.ireturn, 1) := by decide +kernel
theorem dM_about_140 : decode cM_about 140 = .ok (.aload_n 0, 1) := by decide +kernel
theorem dM_about_141 : decode cM_about 141 = .ok (.getfield 59, 3) := by decide +kernel
theorem dM_about_144 : decode cM_about 144 = .ok (.iload_n 1, 1) := by decide +kernel
theorem dM_about_145 : decode cM_about 145 = .ok (.iaload, 1) := by decide +kernel
theorem dM_about_146 : decode cM_about 146 = .ok (.ireturn, 1) := by decide +kernel
theorem dM_about_147 : decode cM_about 147 = .ok (.aload_n 0, 1) := by decide +kernel
theorem dM_about_148 : decode cM_about 148 = .ok (.getfield 62, 3) := by decide +kernel
theorem dM_about_151 : decode cM_about 151 = .ok (.iload_n 1, 1) := by decide +kernel
theorem dM_about_152 : decode cM_about 152 = .ok (.iaload, 1) := by decide +kernel
theorem dM_about_153 : decode cM_about 153 = .ok (.ireturn, 1) := by decide +kernel
theorem dM_about_154 : decode cM_about 154 = .ok (.aload_n 0, 1) := by decide +kernel
theorem dM_about_155 : decode cM_about 155 = .ok (.getfield 65, 3) := by decide +kernel
theorem dM_about_158 : decode cM_about 158 = .ok (.iload_n 1, 1) := by decide +kernel
theorem dM_about_159 : decode cM_about 159 = .ok (.baload, 1) := by decide +kernel
theorem dM_about_160 : decode cM_about 160 = .ok (.ifCond .eq 7, 3) := by decide +kernel
theorem dM_about_163 : decode cM_about 163 = .ok (.iconst 1, 1) := by decide +kernel
theorem dM_about_164 : decode cM_about 164 = .ok (.goto 4, 3) := by decide +kernel
theorem dM_about_167 : decode cM_about 167 = .ok (.iconst 0, 1) := by decide +kernel
theorem dM_about_168 : decode cM_about 168 = .ok (.ireturn, 1) := by decide +kernel
theorem dM_about_169 : decode cM_about 169 = .ok (.aload_n 0, 1) := by decide +kernel
theorem dM_about_170 : decode cM_about 170 = .ok (.getfield 68, 3) := by decide +kernel
theorem dM_about_173 : decode cM_about 173 = .ok (.iload_n 1, 1) := by decide +kernel
theorem dM_about_174 : decode cM_about 174 = .ok (.iaload, 1) := by decide +kernel
theorem dM_about_175 : decode cM_about 175 = .ok (.ireturn, 1) := by decide +kernel
theorem dM_about_176 : decode cM_about 176 = .ok (.iload_n 3, 1) := by decide +kernel
theorem dM_about_177 : decode cM_about 177 = .ok (.ireturn, 1) := by decide +kernel
theorem dM_about_178 : decode cM_about 178 = .ok (.iconst (-1), 1) := by decide +kernel
theorem dM_about_179 : decode cM_about 179 = .ok (.ireturn, 1) := by decide +kernel
theorem dM_message_0 : decode cM_message 0 = .ok (.aload_n 0, 1) := by decide +kernel
theorem dM_message_1 : decode cM_message 1 = .ok (.iconst 0, 1) := by decide +kernel
theorem dM_message_2 : decode cM_message 2 = .ok (.putfield 87, 3) := by decide +kernel
theorem dM_message_5 : decode cM_message 5 = .ok (.iload_n 1, 1) := by decide +kernel
theorem dM_message_6 : decode cM_message 6 = .ok (.ifCond .lt 20, 3) := by decide +kernel
theorem dM_message_9 : decode cM_message 9 = .ok (.iload_n 1, 1) := by decide +kernel
theorem dM_message_10 : decode cM_message 10 = .ok (.aload_n 0, 1) := by decide +kernel
theorem dM_message_11 : decode cM_message 11 = .ok (.getfield 163, 3) := by decide +kernel
theorem dM_message_14 : decode cM_message 14 = .ok (.if_icmp .ge 12, 3) := by decide +kernel
theorem dM_message_17 : decode cM_message 17 = .ok (.aload_n 0, 1) := by decide +kernel
theorem dM_message_18 : decode cM_message 18 = .ok (.getfield 74, 3) := by decide +kernel
theorem dM_message_21 : decode cM_message 21 = .ok (.iload_n 1, 1) := by decide +kernel
theorem dM_message_22 : decode cM_message 22 = .ok (.iaload, 1) := by decide +kernel
theorem dM_message_23 : decode cM_message 23 = .ok (.goto 4, 3) := by decide +kernel
theorem dM_message_26 : decode cM_message 26 = .ok (.iconst (-1), 1) := by decide +kernel
theorem dM_message_27 : decode cM_message 27 = .ok (.ireturn, 1) := by decide +kernel
theorem dM_house_0 : decode cM_house 0 = .ok (.aload_n 0, 1) := by decide +kernel
theorem dM_house_1 : decode cM_house 1 = .ok (.iconst 0, 1) := by decide +kernel
theorem dM_house_2 : decode cM_house 2 = .ok (.putfield 87, 3) := by decide +kernel
theorem dM_house_5 : decode cM_house 5 = .ok (.iload_n 1, 1) := by decide +kernel
theorem dM_house_6 : decode cM_house 6 = .ok (.iconst 5, 1) := by decide +kernel
theorem dM_house_7 : decode cM_house 7 = .ok (.bipush 8, 2) := by decide +kernel
theorem dM_house_9 : decode cM_house 9 = .ok (.invokestatic 90, 3) := by decide +kernel
theorem dM_house_12 : decode cM_house 12 = .ok (.ifCond .eq 11, 3) := by decide +kernel
theorem dM_house_15 : decode cM_house 15 = .ok (.aload_n 0, 1) := by decide +kernel
theorem dM_house_16 : decode cM_house 16 = .ok (.iload_n 1, 1) := by decide +kernel
theorem dM_house_17 : decode cM_house 17 = .ok (.iconst 5, 1) := by decide +kernel
theorem dM_house_18 : decode cM_house 18 = .ok (.isub, 1) := by decide +kernel
theorem dM_house_19 : decode cM_house 19 = .ok (.invokevirtual 100, 3) := by decide +kernel
theorem dM_house_22 : decode cM_house 22 = .ok (.ireturn, 1) := by decide +kernel
theorem dM_house_23 : decode cM_house 23 = .ok (.iload_n 1, 1) := by decide +kernel
theorem dM_house_24 : decode cM_house 24 = .ok (.tableswitch 61 0 4 #[36, 41, 46, 51, 56], 36) := by decide +kernel
theorem dM_house_60 : decode cM_house 60 = .ok (.aload_n 0, 1) := by decide +kernel
theorem dM_house_61 : decode cM_house 61 = .ok (.getfield 97, 3) := by decide +kernel
theorem dM_house_64 : decode cM_house 64 = .ok (.ireturn, 1) := by decide +kernel
theorem dM_house_65 : decode cM_house 65 = .ok (.aload_n 0, 1) := by decide +kernel
theorem dM_house_66 : decode cM_house 66 = .ok (.getfield 104, 3) := by decide +kernel
theorem dM_house_69 : decode cM_house 69 = .ok (.ireturn, 1) := by decide +kernel
theorem dM_house_70 : decode cM_house 70 = .ok (.aload_n 0, 1) := by decide +kernel
theorem dM_house_71 : decode cM_house 71 = .ok (.getfield 111, 3) := by decide +kernel
theorem dM_house_74 : decode cM_house 74 = .ok (.ireturn, 1) := by decide +kernel
theorem dM_house_75 : decode cM_house 75 = .ok (.aload_n 0, 1) := by decide +kernel
theorem dM_house_76 : decode cM_house 76 = .ok (.getfield 163, 3) := by decide +kernel
theorem dM_house_79 : decode cM_house 79 = .ok (.ireturn, 1) := by decide +kernel
theorem dM_house_80 : decode cM_house 80 = .ok (.aload_n 0, 1) := by decide +kernel
theorem dM_house_81 : decode cM_house 81 = .ok (.getfield 94, 3) := by decide +kernel
theorem dM_house_84 : decode cM_house 84 = .ok (.ireturn, 1) := by decide +kernel
theorem dM_house_85 : decode cM_house 85 = .ok (.iconst (-1), 1) := by decide +kernel
theorem dM_house_86 : decode cM_house 86 = .ok (.ireturn, 1) := by decide +kernel
theorem dL_law_0 : decode cL_law 0 = .ok (.new 8, 3) := by decide +kernel
theorem dL_law_3 : decode cL_law 3 = .ok (.dup, 1) := by decide +kernel
theorem dL_law_4 : decode cL_law 4 = .ok (.invokespecial 56, 3) := by decide +kernel
theorem dL_law_7 : decode cL_law 7 = .ok (.astore_n 1, 1) := by decide +kernel
theorem dL_law_8 : decode cL_law 8 = .ok (.new 57, 3) := by decide +kernel
theorem dL_law_11 : decode cL_law 11 = .ok (.dup, 1) := by decide +kernel
theorem dL_law_12 : decode cL_law 12 = .ok (.invokespecial 59, 3) := by decide +kernel
theorem dL_law_15 : decode cL_law 15 = .ok (.astore_n 2, 1) := by decide +kernel
theorem dL_law_16 : decode cL_law 16 = .ok (.iconst 1, 1) := by decide +kernel
theorem dL_law_17 : decode cL_law 17 = .ok (.newarray .long, 2) := by decide +kernel
theorem dL_law_19 : decode cL_law 19 = .ok (.astore_n 3, 1) := by decide +kernel
theorem dL_law_20 : decode cL_law 20 = .ok (.iconst 0, 1) := by decide +kernel
theorem dL_law_21 : decode cL_law 21 = .ok (.istore 4, 2) := by decide +kernel
theorem dL_law_23 : decode cL_law 23 = .ok (.iload 4, 2) := by decide +kernel
theorem dL_law_25 : decode cL_law 25 = .ok (.aload_n 0, 1) := by decide +kernel
theorem dL_law_26 : decode cL_law 26 = .ok (.arraylength, 1) := by decide +kernel
theorem dL_law_27 : decode cL_law 27 = .ok (.iconst 5, 1) := by decide +kernel
theorem dL_law_28 : decode cL_law 28 = .ok (.isub, 1) := by decide +kernel
theorem dL_law_29 : decode cL_law 29 = .ok (.if_icmp .gt 770, 3) := by decide +kernel
theorem dL_law_32 : decode cL_law 32 = .ok (.aload_n 0, 1) := by decide +kernel
theorem dL_law_33 : decode cL_law 33 = .ok (.iload 4, 2) := by decide +kernel
theorem dL_law_35 : decode cL_law 35 = .ok (.iaload, 1) := by decide +kernel
theorem dL_law_36 : decode cL_law 36 = .ok (.bipush 31, 2) := by decide +kernel
theorem dL_law_38 : decode cL_law 38 = .ok (.iand, 1) := by decide +kernel
theorem dL_law_39 : decode cL_law 39 = .ok (.tableswitch 754 0 16 #[81, 109, 149, 189, 229, 285, 353, 405, 445, 485, 549, 577, 605, 630, 667, 704, 729], 81) := by decide +kernel
theorem dL_law_120 : decode cL_law 120 = .ok (.aload_n 1, 1) := by decide +kernel
theorem dL_law_121 : decode cL_law 121 = .ok (.aload_n 0, 1) := by decide +kernel
theorem dL_law_122 : decode cL_law 122 = .ok (.iload 4, 2) := by decide +kernel
theorem dL_law_124 : decode cL_law 124 = .ok (.iconst 1, 1) := by decide +kernel
theorem dL_law_125 : decode cL_law 125 = .ok (.iadd, 1) := by decide +kernel
theorem dL_law_126 : decode cL_law 126 = .ok (.iaload, 1) := by decide +kernel
theorem dL_law_127 : decode cL_law 127 = .ok (.aload_n 3, 1) := by decide +kernel
theorem dL_law_128 : decode cL_law 128 = .ok (.invokestatic 60, 3) := by decide +kernel
theorem dL_law_131 : decode cL_law 131 = .ok (.istore 5, 2) := by decide +kernel
theorem dL_law_133 : decode cL_law 133 = .ok (.aload_n 2, 1) := by decide +kernel
theorem dL_law_134 : decode cL_law 134 = .ok (.aload_n 0, 1) := by decide +kernel
theorem dL_law_135 : decode cL_law 135 = .ok (.iload 4, 2) := by decide +kernel
theorem dL_law_137 : decode cL_law 137 = .ok (.iconst 1, 1) := by decide +kernel
theorem dL_law_138 : decode cL_law 138 = .ok (.iadd, 1) := by decide +kernel
theorem dL_law_139 : decode cL_law 139 = .ok (.iaload, 1) := by decide +kernel
theorem dL_law_140 : decode cL_law 140 = .ok (.invokevirtual 65, 3) := by decide +kernel
theorem dL_law_143 : decode cL_law 143 = .ok (.istore 6, 2) := by decide +kernel
theorem dL_law_145 : decode cL_law 145 = .ok (.goto 648, 3) := by decide +kernel
theorem dL_law_148 : decode cL_law 148 = .ok (.aload_n 1, 1) := by decide +kernel
theorem dL_law_149 : decode cL_law 149 = .ok (.aload_n 0, 1) := by decide +kernel
theorem dL_law_150 : decode cL_law 150 = .ok (.iload 4, 2) := by decide +kernel
theorem dL_law_152 : decode cL_law 152 = .ok (.iconst 1, 1) := by decide +kernel
theorem dL_law_153 : decode cL_law 153 = .ok (.iadd, 1) := by decide +kernel
theorem dL_law_154 : decode cL_law 154 = .ok (.iaload, 1) := by decide +kernel
theorem dL_law_155 : decode cL_law 155 = .ok (.aload_n 0, 1) := by decide +kernel
theorem dL_law_156 : decode cL_law 156 = .ok (.iload 4, 2) := by decide +kernel
theorem dL_law_158 : decode cL_law 158 = .ok (.iconst 2, 1) := by decide +kernel
theorem dL_law_159 : decode cL_law 159 = .ok (.iadd, 1) := by decide +kernel
theorem dL_law_160 : decode cL_law 160 = .ok (.iaload, 1) := by decide +kernel
theorem dL_law_161 : decode cL_law 161 = .ok (.aload_n 3, 1) := by decide +kernel
theorem dL_law_162 : decode cL_law 162 = .ok (.invokestatic 66, 3) := by decide +kernel
theorem dL_law_165 : decode cL_law 165 = .ok (.istore 5, 2) := by decide +kernel
theorem dL_law_167 : decode cL_law 167 = .ok (.aload_n 2, 1) := by decide +kernel
theorem dL_law_168 : decode cL_law 168 = .ok (.aload_n 0, 1) := by decide +kernel
theorem dL_law_169 : decode cL_law 169 = .ok (.iload 4, 2) := by decide +kernel
theorem dL_law_171 : decode cL_law 171 = .ok (.iconst 1, 1) := by decide +kernel
theorem dL_law_172 : decode cL_law 172 = .ok (.iadd, 1) := by decide +kernel
theorem dL_law_173 : decode cL_law 173 = .ok (.iaload, 1) := by decide +kernel
theorem dL_law_174 : decode cL_law 174 = .ok (.aload_n 0, 1) := by decide +kernel
theorem dL_law_175 : decode cL_law 175 = .ok (.iload 4, 2) := by decide +kernel
theorem dL_law_177 : decode cL_law 177 = .ok (.iconst 2, 1) := by decide +kernel
theorem dL_law_178 : decode cL_law 178 = .ok (.iadd, 1) := by decide +kernel
theorem dL_law_179 : decode cL_law 179 = .ok (.iaload, 1) := by decide +kernel
theorem dL_law_180 : decode cL_law 180 = .ok (.invokevirtual 69, 3) := by decide +kernel
theorem dL_law_183 : decode cL_law 183 = .ok (.istore 6, 2) := by decide +kernel
theorem dL_law_185 : decode cL_law 185 = .ok (.goto 608, 3) := by decide +kernel
theorem dL_law_188 : decode cL_law 188 = .ok (.aload_n 1, 1) := by decide +kernel
theorem dL_law_189 : decode cL_law 189 = .ok (.aload_n 0, 1) := by decide +kernel
theorem dL_law_190 : decode cL_law 190 = .ok (.iload 4, 2) := by decide +kernel
theorem dL_law_192 : decode cL_law 192 = .ok (.iconst 1, 1) := by decide +kernel
theorem dL_law_193 : decode cL_law 193 = .ok (.iadd, 1) := by decide +kernel
theorem dL_law_194 : decode cL_law 194 = .ok (.iaload, 1) := by decide +kernel
theorem dL_law_195 : decode cL_law 195 = .ok (.aload_n 0, 1) := by decide +kernel
theorem dL_law_196 : decode cL_law 196 = .ok (.iload 4, 2) := by decide +kernel
theorem dL_law_198 : decode cL_law 198 = .ok (.iconst 2, 1) := by decide +kernel
theorem dL_law_199 : decode cL_law 199 = .ok (.iadd, 1) := by decide +kernel
theorem dL_law_200 : decode cL_law 200 = .ok (.iaload, 1) := by decide +kernel
theorem dL_law_201 : decode cL_law 201 = .ok (.aload_n 3, 1) := by decide +kernel
theorem dL_law_202 : decode cL_law 202 = .ok (.invokestatic 70, 3) := by decide +kernel
theorem dL_law_205 : decode cL_law 205 = .ok (.istore 5, 2) := by decide +kernel
theorem dL_law_207 : decode cL_law 207 = .ok (.aload_n 2, 1) := by decide +kernel
theorem dL_law_208 : decode cL_law 208 = .ok (.aload_n 0, 1) := by decide +kernel
theorem dL_law_209 : decode cL_law 209 = .ok (.iload 4, 2) := by decide +kernel
theorem dL_law_211 : decode cL_law 211 = .ok (.iconst 1, 1) := by decide +kernel
theorem dL_law_212 : decode cL_law 212 = .ok (.iadd, 1) := by decide +kernel
theorem dL_law_213 : decode cL_law 213 = .ok (.iaload, 1) := by decide +kernel
theorem dL_law_214 : decode cL_law 214 = .ok (.aload_n 0, 1) := by decide +kernel
theorem dL_law_215 : decode cL_law 215 = .ok (.iload 4, 2) := by decide +kernel
theorem dL_law_217 : decode cL_law 217 = .ok (.iconst 2, 1) := by decide +kernel
theorem dL_law_218 : decode cL_law 218 = .ok (.iadd, 1) := by decide +kernel
theorem dL_law_219 : decode cL_law 219 = .ok (.iaload, 1) := by decide +kernel
theorem dL_law_220 : decode cL_law 220 = .ok (.invokevirtual 72, 3) := by decide +kernel
theorem dL_law_223 : decode cL_law 223 = .ok (.istore 6, 2) := by decide +kernel
theorem dL_law_225 : decode cL_law 225 = .ok (.goto 568, 3) := by decide +kernel
theorem dL_law_228 : decode cL_law 228 = .ok (.aload_n 1, 1) := by decide +kernel
theorem dL_law_229 : decode cL_law 229 = .ok (.aload_n 0, 1) := by decide +kernel
theorem dL_law_230 : decode cL_law 230 = .ok (.iload 4, 2) := by decide +kernel
theorem dL_law_232 : decode cL_law 232 = .ok (.iconst 1, 1) := by decide +kernel
theorem dL_law_233 : decode cL_law 233 = .ok (.iadd, 1) := by decide +kernel
theorem dL_law_234 : decode cL_law 234 = .ok (.iaload, 1) := by decide +kernel
theorem dL_law_235 : decode cL_law 235 = .ok (.aload_n 0, 1) := by decide +kernel
theorem dL_law_236 : decode cL_law 236 = .ok (.iload 4, 2) := by decide +kernel
theorem dL_law_238 : decode cL_law 238 = .ok (.iconst 2, 1) := by decide +kernel
theorem dL_law_239 : decode cL_law 239 = .ok (.iadd, 1) := by decide +kernel
theorem dL_law_240 : decode cL_law 240 = .ok (.iaload, 1) := by decide +kernel
theorem dL_law_241 : decode cL_law 241 = .ok (.aload_n 3, 1) := by decide +kernel
theorem dL_law_242 : decode cL_law 242 = .ok (.invokestatic 73, 3) := by decide +kernel
theorem dL_law_245 : decode cL_law 245 = .ok (.istore 5, 2) := by decide +kernel
theorem dL_law_247 : decode cL_law 247 = .ok (.aload_n 2, 1) := by decide +kernel
theorem dL_law_248 : decode cL_law 248 = .ok (.aload_n 0, 1) := by decide +kernel
theorem dL_law_249 : decode cL_law 249 = .ok (.iload 4, 2) := by decide +kernel
theorem dL_law_251 : decode cL_law 251 = .ok (.iconst 1, 1) := by decide +kernel
theorem dL_law_252 : decode cL_law 252 = .ok (.iadd, 1) := by decide +kernel
theorem dL_law_253 : decode cL_law 253 = .ok (.iaload, 1) := by decide +kernel
theorem dL_law_254 : decode cL_law 254 = .ok (.aload_n 0, 1) := by decide +kernel
theorem dL_law_255 : decode cL_law 255 = .ok (.iload 4, 2) := by decide +kernel
theorem dL_law_257 : decode cL_law 257 = .ok (.iconst 2, 1) := by decide +kernel
theorem dL_law_258 : decode cL_law 258 = .ok (.iadd, 1) := by decide +kernel
theorem dL_law_259 : decode cL_law 259 = .ok (.iaload, 1) := by decide +kernel
theorem dL_law_260 : decode cL_law 260 = .ok (.invokevirtual 75, 3) := by decide +kernel
theorem dL_law_263 : decode cL_law 263 = .ok (.istore 6, 2) := by decide +kernel
theorem dL_law_265 : decode cL_law 265 = .ok (.goto 528, 3) := by decide +kernel
theorem dL_law_268 : decode cL_law 268 = .ok (.aload_n 1, 1) := by decide +kernel
theorem dL_law_269 : decode cL_law 269 = .ok (.aload_n 0, 1) := by decide +kernel
theorem dL_law_270 : decode cL_law 270 = .ok (.iload 4, 2) := by decide +kernel
theorem dL_law_272 : decode cL_law 272 = .ok (.iconst 1, 1) := by decide +kernel
theorem dL_law_273 : decode cL_law 273 = .ok (.iadd, 1) := by decide +kernel
theorem dL_law_274 : decode cL_law 274 = .ok (.iaload, 1) := by decide +kernel
theorem dL_law_275 : decode cL_law 275 = .ok (.aload_n 0, 1) := by decide +kernel
theorem dL_law_276 : decode cL_law 276 = .ok (.iload 4, 2) := by decide +kernel
theorem dL_law_278 : decode cL_law 278 = .ok (.iconst 2, 1) := by decide +kernel
theorem dL_law_279 : decode cL_law 279 = .ok (.iadd, 1) := by decide +kernel
theorem dL_law_280 : decode cL_law 280 = .ok (.iaload, 1) := by decide +kernel
theorem dL_law_281 : decode cL_law 281 = .ok (.ifCond .eq 7, 3) := by decide +kernel
theorem dL_law_284 : decode cL_law 284 = .ok (.iconst 1, 1) := by decide +kernel
theorem dL_law_285 : decode cL_law 285 = .ok (.goto 4, 3) := by decide +kernel
theorem dL_law_288 : decode cL_law 288 = .ok (.iconst 0, 1) := by decide +kernel
theorem dL_law_289 : decode cL_law 289 = .ok (.aload_n 3, 1) := by decide +kernel
theorem dL_law_290 : decode cL_law 290 = .ok (.invokestatic 76, 3) := by decide +kernel
theorem dL_law_293 : decode cL_law 293 = .ok (.istore 5, 2) := by decide +kernel
theorem dL_law_295 : decode cL_law 295 = .ok (.aload_n 2, 1) := by decide +kernel
theorem dL_law_296 : decode cL_law 296 = .ok (.aload_n 0, 1) := by decide +kernel
theorem dL_law_297 : decode cL_law 297 = .ok (.iload 4, 2) := by decide +kernel
theorem dL_law_299 : decode cL_law 299 = .ok (.iconst 1, 1) := by decide +kernel
theorem dL_law_300 : decode cL_law 300 = .ok (.iadd, 1) := by decide +kernel
theorem dL_law_301 : decode cL_law 301 = .ok (.iaload, 1) := by decide +kernel
theorem dL_law_302 : decode cL_law 302 = .ok (.aload_n 0, 1) := by decide +kernel
theorem dL_law_303 : decode cL_law 303 = .ok (.iload 4, 2) := by decide +kernel
theorem dL_law_305 : decode cL_law 305 = .ok (.iconst 2, 1) := by decide +kernel
theorem dL_law_306 : decode cL_law 306 = .ok (.iadd, 1) := by decide +kernel
theorem dL_law_307 : decode cL_law 307 = .ok (.iaload, 1) := by decide +kernel
theorem dL_law_308 : decode cL_law 308 = .ok (.ifCond .eq 7, 3) := by decide +kernel
theorem dL_law_311 : decode cL_law 311 = .ok (.iconst 1, 1) := by decide +kernel
theorem dL_law_312 : decode cL_law 312 = .ok (.goto 4, 3) := by decide +kernel
theorem dL_law_315 : decode cL_law 315 = .ok (.iconst 0, 1) := by decide +kernel
theorem dL_law_316 : decode cL_law 316 = .ok (.invokevirtual 79, 3) := by decide +kernel
theorem dL_law_319 : decode cL_law 319 = .ok (.istore 6, 2) := by decide +kernel
theorem dL_law_321 : decode cL_law 321 = .ok (.goto 472, 3) := by decide +kernel
theorem dL_law_324 : decode cL_law 324 = .ok (.aload_n 1, 1) := by decide +kernel
theorem dL_law_325 : decode cL_law 325 = .ok (.aload_n 0, 1) := by decide +kernel
theorem dL_law_326 : decode cL_law 326 = .ok (.iload 4, 2) := by decide +kernel
theorem dL_law_328 : decode cL_law 328 = .ok (.iconst 1, 1) := by decide +kernel
theorem dL_law_329 : decode cL_law 329 = .ok (.iadd, 1) := by decide +kernel
theorem dL_law_330 : decode cL_law 330 = .ok (.iaload, 1) := by decide +kernel
theorem dL_law_331 : decode cL_law 331 = .ok (.aload_n 0, 1) := by decide +kernel
theorem dL_law_332 : decode cL_law 332 = .ok (.iload 4, 2) := by decide +kernel
theorem dL_law_334 : decode cL_law 334 = .ok (.iconst 2, 1) := by decide +kernel
theorem dL_law_335 : decode cL_law 335 = .ok (.iadd, 1) := by decide +kernel
theorem dL_law_336 : decode cL_law 336 = .ok (.iaload, 1) := by decide +kernel
theorem dL_law_337 : decode cL_law 337 = .ok (.aload_n 0, 1) := by decide +kernel
theorem dL_law_338 : decode cL_law 338 = .ok (.iload 4, 2) := by decide +kernel
theorem dL_law_340 : decode cL_law 340 = .ok (.iconst 3, 1) := by decide +kernel
theorem dL_law_341 : decode cL_law 341 = .ok (.iadd, 1) := by decide +kernel
theorem dL_law_342 : decode cL_law 342 = .ok (.iaload, 1) := by decide +kernel
theorem dL_law_343 : decode cL_law 343 = .ok (.ifCond .eq 7, 3) := by decide +kernel
theorem dL_law_346 : decode cL_law 346 = .ok (.iconst 1, 1) := by decide +kernel
theorem dL_law_347 : decode cL_law 347 = .ok (.goto 4, 3) := by decide +kernel
theorem dL_law_350 : decode cL_law 350 = .ok (.iconst 0, 1) := by decide +kernel
theorem dL_law_351 : decode cL_law 351 = .ok (.aload_n 3, 1) := by decide +kernel
theorem dL_law_352 : decode cL_law 352 = .ok (.invokestatic 80, 3) := by decide +kernel
theorem dL_law_355 : decode cL_law 355 = .ok (.istore 5, 2) := by decide +kernel
theorem dL_law_357 : decode cL_law 357 = .ok (.aload_n 2, 1) := by decide +kernel
theorem dL_law_358 : decode cL_law 358 = .ok (.aload_n 0, 1) := by decide +kernel
theorem dL_law_359 : decode cL_law 359 = .ok (.iload 4, 2) := by decide +kernel
theorem dL_law_361 : decode cL_law 361 = .ok (.iconst 1, 1) := by decide +kernel
theorem dL_law_362 : decode cL_law 362 = .ok (.iadd, 1) := by decide +kernel
theorem dL_law_363 : decode cL_law 363 = .ok (.iaload, 1) := by decide +kernel
theorem dL_law_364 : decode cL_law 364 = .ok (.aload_n 0, 1) := by decide +kernel
theorem dL_law_365 : decode cL_law 365 = .ok (.iload 4, 2) := by decide +kernel
theorem dL_law_367 : decode cL_law 367 = .ok (.iconst 2, 1) := by decide +kernel
theorem dL_law_368 : decode cL_law 368 = .ok (.iadd, 1) := by decide +kernel
theorem dL_law_369 : decode cL_law 369 = .ok (.iaload, 1) := by decide +kernel
theorem dL_law_370 : decode cL_law 370 = .ok (.aload_n 0, 1) := by decide +kernel
theorem dL_law_371 : decode cL_law 371 = .ok (.iload 4, 2) := by decide +kernel
theorem dL_law_373 : decode cL_law 373 = .ok (.iconst 3, 1) := by decide +kernel
theorem dL_law_374 : decode cL_law 374 = .ok (.iadd, 1) := by decide +kernel
theorem dL_law_375 : decode cL_law 375 = .ok (.iaload, 1) := by decide +kernel
theorem dL_law_376 : decode cL_law 376 = .ok (.ifCond .eq 7, 3) := by decide +kernel
theorem dL_law_379 : decode cL_law 379 = .ok (.iconst 1, 1) := by decide +kernel
theorem dL_law_380 : decode cL_law 380 = .ok (.goto 4, 3) := by decide +kernel
theorem dL_law_383 : decode cL_law 383 = .ok (.iconst 0, 1) := by decide +kernel
theorem dL_law_384 : decode cL_law 384 = .ok (.invokevirtual 83, 3) := by decide +kernel
theorem dL_law_387 : decode cL_law 387 = .ok (.istore 6, 2) := by decide +kernel
theorem dL_law_389 : decode cL_law 389 = .ok (.goto 404, 3) := by decide +kernel
theorem dL_law_392 : decode cL_law 392 = .ok (.aload_n 1, 1) := by decide +kernel
theorem dL_law_393 : decode cL_law 393 = .ok (.aload_n 0, 1) := by decide +kernel
theorem dL_law_394 : decode cL_law 394 = .ok (.iload 4, 2) := by decide +kernel
theorem dL_law_396 : decode cL_law 396 = .ok (.iconst 1, 1) := by decide +kernel
theorem dL_law_397 : decode cL_law 397 = .ok (.iadd, 1) := by decide +kernel
theorem dL_law_398 : decode cL_law 398 = .ok (.iaload, 1) := by decide +kernel
theorem dL_law_399 : decode cL_law 399 = .ok (.aload_n 0, 1) := by decide +kernel
theorem dL_law_400 : decode cL_law 400 = .ok (.iload 4, 2) := by decide +kernel
theorem dL_law_402 : decode cL_law 402 = .ok (.iconst 2, 1) := by decide +kernel
theorem dL_law_403 : decode cL_law 403 = .ok (.iadd, 1) := by decide +kernel
theorem dL_law_404 : decode cL_law 404 = .ok (.iaload, 1) := by decide +kernel
theorem dL_law_405 : decode cL_law 405 = .ok (.aload_n 0, 1) := by decide +kernel
theorem dL_law_406 : decode cL_law 406 = .ok (.iload 4, 2) := by decide +kernel
theorem dL_law_408 : decode cL_law 408 = .ok (.iconst 3, 1) := by decide +kernel
theorem dL_law_409 : decode cL_law 409 = .ok (.iadd, 1) := by decide +kernel
theorem dL_law_410 : decode cL_law 410 = .ok (.iaload, 1) := by decide +kernel
theorem dL_law_411 : decode cL_law 411 = .ok (.aload_n 3, 1) := by decide +kernel
theorem dL_law_412 : decode cL_law 412 = .ok (.invokestatic 84, 3) := by decide +kernel
theorem dL_law_415 : decode cL_law 415 = .ok (.istore 5, 2) := by decide +kernel
theorem dL_law_417 : decode cL_law 417 = .ok (.aload_n 2, 1) := by decide +kernel
theorem dL_law_418 : decode cL_law 418 = .ok (.aload_n 0, 1) := by decide +kernel
theorem dL_law_419 : decode cL_law 419 = .ok (.iload 4, 2) := by decide +kernel
theorem dL_law_421 : decode cL_law 421 = .ok (.iconst 1, 1) := by decide +kernel
theorem dL_law_422 : decode cL_law 422 = .ok (.iadd, 1) := by decide +kernel
theorem dL_law_423 : decode cL_law 423 = .ok (.iaload, 1) := by decide +kernel
theorem dL_law_424 : decode cL_law 424 = .ok (.aload_n 0, 1) := by decide +kernel
theorem dL_law_425 : decode cL_law 425 = .ok (.iload 4, 2) := by decide +kernel
theorem dL_law_427 : decode cL_law 427 = .ok (.iconst 2, 1) := by decide +kernel
theorem dL_law_428 : decode cL_law 428 = .ok (.iadd, 1) := by decide +kernel
theorem dL_law_429 : decode cL_law 429 = .ok (.iaload, 1) := by decide +kernel
theorem dL_law_430 : decode cL_law 430 = .ok (.aload_n 0, 1) := by decide +kernel
theorem dL_law_431 : decode cL_law 431 = .ok (.iload 4, 2) := by decide +kernel
theorem dL_law_433 : decode cL_law 433 = .ok (.iconst 3, 1) := by decide +kernel
theorem dL_law_434 : decode cL_law 434 = .ok (.iadd, 1) := by decide +kernel
theorem dL_law_435 : decode cL_law 435 = .ok (.iaload, 1) := by decide +kernel
theorem dL_law_436 : decode cL_law 436 = .ok (.invokevirtual 87, 3) := by decide +kernel
theorem dL_law_439 : decode cL_law 439 = .ok (.istore 6, 2) := by decide +kernel
theorem dL_law_441 : decode cL_law 441 = .ok (.goto 352, 3) := by decide +kernel
theorem dL_law_444 : decode cL_law 444 = .ok (.aload_n 1, 1) := by decide +kernel
theorem dL_law_445 : decode cL_law 445 = .ok (.aload_n 0, 1) := by decide +kernel
theorem dL_law_446 : decode cL_law 446 = .ok (.iload 4, 2) := by decide +kernel
theorem dL_law_448 : decode cL_law 448 = .ok (.iconst 1, 1) := by decide +kernel
theorem dL_law_449 : decode cL_law 449 = .ok (.iadd, 1) := by decide +kernel
theorem dL_law_450 : decode cL_law 450 = .ok (.iaload, 1) := by decide +kernel
theorem dL_law_451 : decode cL_law 451 = .ok (.aload_n 0, 1) := by decide +kernel
theorem dL_law_452 : decode cL_law 452 = .ok (.iload 4, 2) := by decide +kernel
theorem dL_law_454 : decode cL_law 454 = .ok (.iconst 2, 1) := by decide +kernel
theorem dL_law_455 : decode cL_law 455 = .ok (.iadd, 1) := by decide +kernel
theorem dL_law_456 : decode cL_law 456 = .ok (.iaload, 1) := by decide +kernel
theorem dL_law_457 : decode cL_law 457 = .ok (.aload_n 3, 1) := by decide +kernel
theorem dL_law_458 : decode cL_law 458 = .ok (.invokestatic 88, 3) := by decide +kernel
theorem dL_law_461 : decode cL_law 461 = .ok (.istore 5, 2) := by decide +kernel
theorem dL_law_463 : decode cL_law 463 = .ok (.aload_n 2, 1) := by decide +kernel
theorem dL_law_464 : decode cL_law 464 = .ok (.aload_n 0, 1) := by decide +kernel
theorem dL_law_465 : decode cL_law 465 = .ok (.iload 4, 2) := by decide +kernel
theorem dL_law_467 : decode cL_law 467 = .ok (.iconst 1, 1) := by decide +kernel
theorem dL_law_468 : decode cL_law 468 = .ok (.iadd, 1) := by decide +kernel
theorem dL_law_469 : decode cL_law 469 = .ok (.iaload, 1) := by decide +kernel
theorem dL_law_470 : decode cL_law 470 = .ok (.aload_n 0, 1) := by decide +kernel
theorem dL_law_471 : decode cL_law 471 = .ok (.iload 4, 2) := by decide +kernel
theorem dL_law_473 : decode cL_law 473 = .ok (.iconst 2, 1) := by decide +kernel
theorem dL_law_474 : decode cL_law 474 = .ok (.iadd, 1) := by decide +kernel
theorem dL_law_475 : decode cL_law 475 = .ok (.iaload, 1) := by decide +kernel
theorem dL_law_476 : decode cL_law 476 = .ok (.invokevirtual 90, 3) := by decide +kernel
theorem dL_law_479 : decode cL_law 479 = .ok (.istore 6, 2) := by decide +kernel
theorem dL_law_481 : decode cL_law 481 = .ok (.goto 312, 3) := by decide +kernel
theorem dL_law_484 : decode cL_law 484 = .ok (.aload_n 1, 1) := by decide +kernel
theorem dL_law_485 : decode cL_law 485 = .ok (.aload_n 0, 1) := by decide +kernel
theorem dL_law_486 : decode cL_law 486 = .ok (.iload 4, 2) := by decide +kernel
theorem dL_law_488 : decode cL_law 488 = .ok (.iconst 1, 1) := by decide +kernel
theorem dL_law_489 : decode cL_law 489 = .ok (.iadd, 1) := by decide +kernel
theorem dL_law_490 : decode cL_law 490 = .ok (.iaload, 1) := by decide +kernel
theorem dL_law_491 : decode cL_law 491 = .ok (.aload_n 0, 1) := by decide +kernel
theorem dL_law_492 : decode cL_law 492 = .ok (.iload 4, 2) := by decide +kernel
theorem dL_law_494 : decode cL_law 494 = .ok (.iconst 2, 1) := by decide +kernel
theorem dL_law_495 : decode cL_law 495 = .ok (.iadd, 1) := by decide +kernel
theorem dL_law_496 : decode cL_law 496 = .ok (.iaload, 1) := by decide +kernel
theorem dL_law_497 : decode cL_law 497 = .ok (.aload_n 3, 1) := by decide +kernel
theorem dL_law_498 : decode cL_law 498 = .ok (.invokestatic 91, 3) := by decide +kernel
theorem dL_law_501 : decode cL_law 501 = .ok (.istore 5, 2) := by decide +kernel
theorem dL_law_503 : decode cL_law 503 = .ok (.aload_n 2, 1) := by decide +kernel
theorem dL_law_504 : decode cL_law 504 = .ok (.aload_n 0, 1) := by decide +kernel
theorem dL_law_505 : decode cL_law 505 = .ok (.iload 4, 2) := by decide +kernel
theorem dL_law_507 : decode cL_law 507 = .ok (.iconst 1, 1) := by decide +kernel
theorem dL_law_508 : decode cL_law 508 = .ok (.iadd, 1) := by decide +kernel
theorem dL_law_509 : decode cL_law 509 = .ok (.iaload, 1) := by decide +kernel
theorem dL_law_510 : decode cL_law 510 = .ok (.aload_n 0, 1) := by decide +kernel
theorem dL_law_511 : decode cL_law 511 = .ok (.iload 4, 2) := by decide +kernel
theorem dL_law_513 : decode cL_law 513 = .ok (.iconst 2, 1) := by decide +kernel
theorem dL_law_514 : decode cL_law 514 = .ok (.iadd, 1) := by decide +kernel
theorem dL_law_515 : decode cL_law 515 = .ok (.iaload, 1) := by decide +kernel
theorem dL_law_516 : decode cL_law 516 = .ok (.invokevirtual 93, 3) := by decide +kernel
theorem dL_law_519 : decode cL_law 519 = .ok (.istore 6, 2) := by decide +kernel
theorem dL_law_521 : decode cL_law 521 = .ok (.goto 272, 3) := by decide +kernel
theorem dL_law_524 : decode cL_law 524 = .ok (.aload_n 1, 1) := by decide +kernel
theorem dL_law_525 : decode cL_law 525 = .ok (.aload_n 0, 1) := by decide +kernel
theorem dL_law_526 : decode cL_law 526 = .ok (.iload 4, 2) := by decide +kernel
theorem dL_law_528 : decode cL_law 528 = .ok (.iconst 1, 1) := by decide +kernel
theorem dL_law_529 : decode cL_law 529 = .ok (.iadd, 1) := by decide +kernel
theorem dL_law_530 : decode cL_law 530 = .ok (.iaload, 1) := by decide +kernel
theorem dL_law_531 : decode cL_law 531 = .ok (.aload_n 0, 1) := by decide +kernel
theorem dL_law_532 : decode cL_law 532 = .ok (.iload 4, 2) := by decide +kernel
theorem dL_law_534 : decode cL_law 534 = .ok (.iconst 2, 1) := by decide +kernel
theorem dL_law_535 : decode cL_law 535 = .ok (.iadd, 1) := by decide +kernel
theorem dL_law_536 : decode cL_law 536 = .ok (.iaload, 1) := by decide +kernel
theorem dL_law_537 : decode cL_law 537 = .ok (.aload_n 0, 1) := by decide +kernel
theorem dL_law_538 : decode cL_law 538 = .ok (.iload 4, 2) := by decide +kernel
theorem dL_law_540 : decode cL_law 540 = .ok (.iconst 3, 1) := by decide +kernel
theorem dL_law_541 : decode cL_law 541 = .ok (.iadd, 1) := by decide +kernel
theorem dL_law_542 : decode cL_law 542 = .ok (.iaload, 1) := by decide +kernel
theorem dL_law_543 : decode cL_law 543 = .ok (.aload_n 0, 1) := by decide +kernel
theorem dL_law_544 : decode cL_law 544 = .ok (.iload 4, 2) := by decide +kernel
theorem dL_law_546 : decode cL_law 546 = .ok (.iconst 4, 1) := by decide +kernel
theorem dL_law_547 : decode cL_law 547 = .ok (.iadd, 1) := by decide +kernel
theorem dL_law_548 : decode cL_law 548 = .ok (.iaload, 1) := by decide +kernel
theorem dL_law_549 : decode cL_law 549 = .ok (.aload_n 3, 1) := by decide +kernel
theorem dL_law_550 : decode cL_law 550 = .ok (.invokestatic 94, 3) := by decide +kernel
theorem dL_law_553 : decode cL_law 553 = .ok (.istore 5, 2) := by decide +kernel
theorem dL_law_555 : decode cL_law 555 = .ok (.aload_n 2, 1) := by decide +kernel
theorem dL_law_556 : decode cL_law 556 = .ok (.aload_n 0, 1) := by decide +kernel
theorem dL_law_557 : decode cL_law 557 = .ok (.iload 4, 2) := by decide +kernel
theorem dL_law_559 : decode cL_law 559 = .ok (.iconst 1, 1) := by decide +kernel
theorem dL_law_560 : decode cL_law 560 = .ok (.iadd, 1) := by decide +kernel
theorem dL_law_561 : decode cL_law 561 = .ok (.iaload, 1) := by decide +kernel
theorem dL_law_562 : decode cL_law 562 = .ok (.aload_n 0, 1) := by decide +kernel
theorem dL_law_563 : decode cL_law 563 = .ok (.iload 4, 2) := by decide +kernel
theorem dL_law_565 : decode cL_law 565 = .ok (.iconst 2, 1) := by decide +kernel
theorem dL_law_566 : decode cL_law 566 = .ok (.iadd, 1) := by decide +kernel
theorem dL_law_567 : decode cL_law 567 = .ok (.iaload, 1) := by decide +kernel
theorem dL_law_568 : decode cL_law 568 = .ok (.aload_n 0, 1) := by decide +kernel
theorem dL_law_569 : decode cL_law 569 = .ok (.iload 4, 2) := by decide +kernel
theorem dL_law_571 : decode cL_law 571 = .ok (.iconst 3, 1) := by decide +kernel
theorem dL_law_572 : decode cL_law 572 = .ok (.iadd, 1) := by decide +kernel
theorem dL_law_573 : decode cL_law 573 = .ok (.iaload, 1) := by decide +kernel
theorem dL_law_574 : decode cL_law 574 = .ok (.aload_n 0, 1) := by decide +kernel
theorem dL_law_575 : decode cL_law 575 = .ok (.iload 4, 2) := by decide +kernel
theorem dL_law_577 : decode cL_law 577 = .ok (.iconst 4, 1) := by decide +kernel
theorem dL_law_578 : decode cL_law 578 = .ok (.iadd, 1) := by decide +kernel
theorem dL_law_579 : decode cL_law 579 = .ok (.iaload, 1) := by decide +kernel
theorem dL_law_580 : decode cL_law 580 = .ok (.invokevirtual 97, 3) := by decide +kernel
theorem dL_law_583 : decode cL_law 583 = .ok (.istore 6, 2) := by decide +kernel
theorem dL_law_585 : decode cL_law 585 = .ok (.goto 208, 3) := by decide +kernel
theorem dL_law_588 : decode cL_law 588 = .ok (.aload_n 1, 1) := by decide +kernel
theorem dL_law_589 : decode cL_law 589 = .ok (.aload_n 0, 1) := by decide +kernel
theorem dL_law_590 : decode cL_law 590 = .ok (.iload 4, 2) := by decide +kernel
theorem dL_law_592 : decode cL_law 592 = .ok (.iconst 1, 1) := by decide +kernel
theorem dL_law_593 : decode cL_law 593 = .ok (.iadd, 1) := by decide +kernel
theorem dL_law_594 : decode cL_law 594 = .ok (.iaload, 1) := by decide +kernel
theorem dL_law_595 : decode cL_law 595 = .ok (.aload_n 3, 1) := by decide +kernel
theorem dL_law_596 : decode cL_law 596 = .ok (.invokestatic 98, 3) := by decide +kernel
theorem dL_law_599 : decode cL_law 599 = .ok (.istore 5, 2) := by decide +kernel
theorem dL_law_601 : decode cL_law 601 = .ok (.aload_n 2, 1) := by decide +kernel
theorem dL_law_602 : decode cL_law 602 = .ok (.aload_n 0, 1) := by decide +kernel
theorem dL_law_603 : decode cL_law 603 = .ok (.iload 4, 2) := by decide +kernel
theorem dL_law_605 : decode cL_law 605 = .ok (.iconst 1, 1) := by decide +kernel
theorem dL_law_606 : decode cL_law 606 = .ok (.iadd, 1) := by decide +kernel
theorem dL_law_607 : decode cL_law 607 = .ok (.iaload, 1) := by decide +kernel
theorem dL_law_608 : decode cL_law 608 = .ok (.invokevirtual 100, 3) := by decide +kernel
theorem dL_law_611 : decode cL_law 611 = .ok (.istore 6, 2) := by decide +kernel
theorem dL_law_613 : decode cL_law 613 = .ok (.goto 180, 3) := by decide +kernel
theorem dL_law_616 : decode cL_law 616 = .ok (.aload_n 1, 1) := by decide +kernel
theorem dL_law_617 : decode cL_law 617 = .ok (.aload_n 0, 1) := by decide +kernel
theorem dL_law_618 : decode cL_law 618 = .ok (.iload 4, 2) := by decide +kernel
theorem dL_law_620 : decode cL_law 620 = .ok (.iconst 1, 1) := by decide +kernel
theorem dL_law_621 : decode cL_law 621 = .ok (.iadd, 1) := by decide +kernel
theorem dL_law_622 : decode cL_law 622 = .ok (.iaload, 1) := by decide +kernel
theorem dL_law_623 : decode cL_law 623 = .ok (.aload_n 3, 1) := by decide +kernel
theorem dL_law_624 : decode cL_law 624 = .ok (.invokestatic 101, 3) := by decide +kernel
theorem dL_law_627 : decode cL_law 627 = .ok (.istore 5, 2) := by decide +kernel
theorem dL_law_629 : decode cL_law 629 = .ok (.aload_n 2, 1) := by decide +kernel
theorem dL_law_630 : decode cL_law 630 = .ok (.aload_n 0, 1) := by decide +kernel
theorem dL_law_631 : decode cL_law 631 = .ok (.iload 4, 2) := by decide +kernel
theorem dL_law_633 : decode cL_law 633 = .ok (.iconst 1, 1) := by decide +kernel
theorem dL_law_634 : decode cL_law 634 = .ok (.iadd, 1) := by decide +kernel
theorem dL_law_635 : decode cL_law 635 = .ok (.iaload, 1) := by decide +kernel
theorem dL_law_636 : decode cL_law 636 = .ok (.invokevirtual 103, 3) := by decide +kernel
theorem dL_law_639 : decode cL_law 639 = .ok (.istore 6, 2) := by decide +kernel
theorem dL_law_641 : decode cL_law 641 = .ok (.goto 152, 3) := by decide +kernel
theorem dL_law_644 : decode cL_law 644 = .ok (.aload_n 1, 1) := by decide +kernel
theorem dL_law_645 : decode cL_law 645 = .ok (.aload_n 0, 1) := by decide +kernel
theorem dL_law_646 : decode cL_law 646 = .ok (.iload 4, 2) := by decide +kernel
theorem dL_law_648 : decode cL_law 648 = .ok (.iconst 1, 1) := by decide +kernel
theorem dL_law_649 : decode cL_law 649 = .ok (.iadd, 1) := by decide +kernel
theorem dL_law_650 : decode cL_law 650 = .ok (.iaload, 1) := by decide +kernel
theorem dL_law_651 : decode cL_law 651 = .ok (.invokevirtual 104, 3) := by decide +kernel
theorem dL_law_654 : decode cL_law 654 = .ok (.pop, 1) := by decide +kernel
theorem dL_law_655 : decode cL_law 655 = .ok (.aload_n 2, 1) := by decide +kernel
theorem dL_law_656 : decode cL_law 656 = .ok (.aload_n 0, 1) := by decide +kernel
theorem dL_law_657 : decode cL_law 657 = .ok (.iload 4, 2) := by decide +kernel
theorem dL_law_659 : decode cL_law 659 = .ok (.iconst 1, 1) := by decide +kernel
theorem dL_law_660 : decode cL_law 660 = .ok (.iadd, 1) := by decide +kernel
theorem dL_law_661 : decode cL_law 661 = .ok (.iaload, 1) := by decide +kernel
theorem dL_law_662 : decode cL_law 662 = .ok (.invokevirtual 107, 3) := by decide +kernel
theorem dL_law_665 : decode cL_law 665 = .ok (.pop, 1) := by decide +kernel
theorem dL_law_666 : decode cL_law 666 = .ok (.goto 127, 3) := by decide +kernel
theorem dL_law_669 : decode cL_law 669 = .ok (.aload_n 1, 1) := by decide +kernel
theorem dL_law_670 : decode cL_law 670 = .ok (.aload_n 0, 1) := by decide +kernel
theorem dL_law_671 : decode cL_law 671 = .ok (.iload 4, 2) := by decide +kernel
theorem dL_law_673 : decode cL_law 673 = .ok (.iconst 1, 1) := by decide +kernel
theorem dL_law_674 : decode cL_law 674 = .ok (.iadd, 1) := by decide +kernel
theorem dL_law_675 : decode cL_law 675 = .ok (.iaload, 1) := by decide +kernel
theorem dL_law_676 : decode cL_law 676 = .ok (.aload_n 0, 1) := by decide +kernel
theorem dL_law_677 : decode cL_law 677 = .ok (.iload 4, 2) := by decide +kernel
theorem dL_law_679 : decode cL_law 679 = .ok (.iconst 2, 1) := by decide +kernel
theorem dL_law_680 : decode cL_law 680 = .ok (.iadd, 1) := by decide +kernel
theorem dL_law_681 : decode cL_law 681 = .ok (.iaload, 1) := by decide +kernel
theorem dL_law_682 : decode cL_law 682 = .ok (.invokevirtual 108, 3) := by decide +kernel
theorem dL_law_685 : decode cL_law 685 = .ok (.pop, 1) := by decide +kernel
theorem dL_law_686 : decode cL_law 686 = .ok (.aload_n 2, 1) := by decide +kernel
theorem dL_law_687 : decode cL_law 687 = .ok (.aload_n 0, 1) := by decide +kernel
theorem dL_law_688 : decode cL_law 688 = .ok (.iload 4, 2) := by decide +kernel
theorem dL_law_690 : decode cL_law 690 = .ok (.iconst 1, 1) := by decide +kernel
theorem dL_law_691 : decode cL_law 691 = .ok (.iadd, 1) := by decide +kernel
theorem dL_law_692 : decode cL_law 692 = .ok (.iaload, 1) := by decide +kernel
theorem dL_law_693 : decode cL_law 693 = .ok (.aload_n 0, 1) := by decide +kernel
theorem dL_law_694 : decode cL_law 694 = .ok (.iload 4, 2) := by decide +kernel
theorem dL_law_696 : decode cL_law 696 = .ok (.iconst 2, 1) := by decide +kernel
theorem dL_law_697 : decode cL_law 697 = .ok (.iadd, 1) := by decide +kernel
theorem dL_law_698 : decode cL_law 698 = .ok (.iaload, 1) := by decide +kernel
theorem dL_law_699 : decode cL_law 699 = .ok (.invokevirtual 111, 3) := by decide +kernel
theorem dL_law_702 : decode cL_law 702 = .ok (.pop, 1) := by decide +kernel
theorem dL_law_703 : decode cL_law 703 = .ok (.goto 90, 3) := by decide +kernel
theorem dL_law_706 : decode cL_law 706 = .ok (.aload_n 1, 1) := by decide +kernel
theorem dL_law_707 : decode cL_law 707 = .ok (.aload_n 0, 1) := by decide +kernel
theorem dL_law_708 : decode cL_law 708 = .ok (.iload 4, 2) := by decide +kernel
theorem dL_law_710 : decode cL_law 710 = .ok (.iconst 1, 1) := by decide +kernel
theorem dL_law_711 : decode cL_law 711 = .ok (.iadd, 1) := by decide +kernel
theorem dL_law_712 : decode cL_law 712 = .ok (.iaload, 1) := by decide +kernel
theorem dL_law_713 : decode cL_law 713 = .ok (.aload_n 0, 1) := by decide +kernel
theorem dL_law_714 : decode cL_law 714 = .ok (.iload 4, 2) := by decide +kernel
theorem dL_law_716 : decode cL_law 716 = .ok (.iconst 2, 1) := by decide +kernel
theorem dL_law_717 : decode cL_law 717 = .ok (.iadd, 1) := by decide +kernel
theorem dL_law_718 : decode cL_law 718 = .ok (.iaload, 1) := by decide +kernel
theorem dL_law_719 : decode cL_law 719 = .ok (.invokevirtual 112, 3) := by decide +kernel
theorem dL_law_722 : decode cL_law 722 = .ok (.pop, 1) := by decide +kernel
theorem dL_law_723 : decode cL_law 723 = .ok (.aload_n 2, 1) := by decide +kernel
theorem dL_law_724 : decode cL_law 724 = .ok (.aload_n 0, 1) := by decide +kernel
theorem dL_law_725 : decode cL_law 725 = .ok (.iload 4, 2) := by decide +kernel
theorem dL_law_727 : decode cL_law 727 = .ok (.iconst 1, 1) := by decide +kernel
theorem dL_law_728 : decode cL_law 728 = .ok (.iadd, 1) := by decide +kernel
theorem dL_law_729 : decode cL_law 729 = .ok (.iaload, 1) := by decide +kernel
theorem dL_law_730 : decode cL_law 730 = .ok (.aload_n 0, 1) := by decide +kernel
theorem dL_law_731 : decode cL_law 731 = .ok (.iload 4, 2) := by decide +kernel
theorem dL_law_733 : decode cL_law 733 = .ok (.iconst 2, 1) := by decide +kernel
theorem dL_law_734 : decode cL_law 734 = .ok (.iadd, 1) := by decide +kernel
theorem dL_law_735 : decode cL_law 735 = .ok (.iaload, 1) := by decide +kernel
theorem dL_law_736 : decode cL_law 736 = .ok (.invokevirtual 115, 3) := by decide +kernel
theorem dL_law_739 : decode cL_law 739 = .ok (.pop, 1) := by decide +kernel
theorem dL_law_740 : decode cL_law 740 = .ok (.goto 53, 3) := by decide +kernel
theorem dL_law_743 : decode cL_law 743 = .ok (.aload_n 1, 1) := by decide +kernel
theorem dL_law_744 : decode cL_law 744 = .ok (.aload_n 0, 1) := by decide +kernel
theorem dL_law_745 : decode cL_law 745 = .ok (.iload 4, 2) := by decide +kernel
theorem dL_law_747 : decode cL_law 747 = .ok (.iconst 1, 1) := by decide +kernel
theorem dL_law_748 : decode cL_law 748 = .ok (.iadd, 1) := by decide +kernel
theorem dL_law_749 : decode cL_law 749 = .ok (.iaload, 1) := by decide +kernel
theorem dL_law_750 : decode cL_law 750 = .ok (.invokevirtual 116, 3) := by decide +kernel
theorem dL_law_753 : decode cL_law 753 = .ok (.pop, 1) := by decide +kernel
theorem dL_law_754 : decode cL_law 754 = .ok (.aload_n 2, 1) := by decide +kernel
theorem dL_law_755 : decode cL_law 755 = .ok (.aload_n 0, 1) := by decide +kernel
theorem dL_law_756 : decode cL_law 756 = .ok (.iload 4, 2) := by decide +kernel
theorem dL_law_758 : decode cL_law 758 = .ok (.iconst 1, 1) := by decide +kernel
theorem dL_law_759 : decode cL_law 759 = .ok (.iadd, 1) := by decide +kernel
theorem dL_law_760 : decode cL_law 760 = .ok (.iaload, 1) := by decide +kernel
theorem dL_law_761 : decode cL_law 761 = .ok (.invokevirtual 119, 3) := by decide +kernel
theorem dL_law_764 : decode cL_law 764 = .ok (.pop, 1) := by decide +kernel
theorem dL_law_765 : decode cL_law 765 = .ok (.goto 28, 3) := by decide +kernel
theorem dL_law_768 : decode cL_law 768 = .ok (.aload_n 1, 1) := by decide +kernel
theorem dL_law_769 : decode cL_law 769 = .ok (.aload_n 0, 1) := by decide +kernel
theorem dL_law_770 : decode cL_law 770 = .ok (.iload 4, 2) := by decide +kernel
theorem dL_law_772 : decode cL_law 772 = .ok (.iconst 1, 1) := by decide +kernel
theorem dL_law_773 : decode cL_law 773 = .ok (.iadd, 1) := by decide +kernel
theorem dL_law_774 : decode cL_law 774 = .ok (.iaload, 1) := by decide +kernel
theorem dL_law_775 : decode cL_law 775 = .ok (.invokevirtual 120, 3) := by decide +kernel
theorem dL_law_778 : decode cL_law 778 = .ok (.aload_n 2, 1) := by decide +kernel
theorem dL_law_779 : decode cL_law 779 = .ok (.aload_n 0, 1) := by decide +kernel
theorem dL_law_780 : decode cL_law 780 = .ok (.iload 4, 2) := by decide +kernel
theorem dL_law_782 : decode cL_law 782 = .ok (.iconst 1, 1) := by decide +kernel
theorem dL_law_783 : decode cL_law 783 = .ok (.iadd, 1) := by decide +kernel
theorem dL_law_784 : decode cL_law 784 = .ok (.iaload, 1) := by decide +kernel
theorem dL_law_785 : decode cL_law 785 = .ok (.invokevirtual 123, 3) := by decide +kernel
theorem dL_law_788 : decode cL_law 788 = .ok (.if_icmp .eq 5, 3) := by decide +kernel
theorem dL_law_791 : decode cL_law 791 = .ok (.iconst 0, 1) := by decide +kernel
theorem dL_law_792 : decode cL_law 792 = .ok (.ireturn, 1) := by decide +kernel
theorem dL_law_793 : decode cL_law 793 = .ok (.iinc 4 5, 3) := by decide +kernel
theorem dL_law_796 : decode cL_law 796 = .ok (.goto (-773), 3) := by decide +kernel
theorem dL_law_799 : decode cL_law 799 = .ok (.iconst 1, 1) := by decide +kernel
theorem dL_law_800 : decode cL_law 800 = .ok (.ireturn, 1) := by decide +kernel
