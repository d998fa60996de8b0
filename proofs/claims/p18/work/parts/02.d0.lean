theorem dH_init_0 : decode cH_init 0 = .ok (.aload_n 0, 1) := by decide +kernel
theorem dH_init_1 : decode cH_init 1 = .ok (.invokespecial 1, 3) := by decide +kernel
theorem dH_init_4 : decode cH_init 4 = .ok (.aload_n 0, 1) := by decide +kernel
theorem dH_init_5 : decode cH_init 5 = .ok (.iconst 4, 1) := by decide +kernel
theorem dH_init_6 : decode cH_init 6 = .ok (.anewarray 9, 3) := by decide +kernel
theorem dH_init_9 : decode cH_init 9 = .ok (.putfield 11, 3) := by decide +kernel
theorem dH_init_12 : decode cH_init 12 = .ok (.aload_n 0, 1) := by decide +kernel
theorem dH_init_13 : decode cH_init 13 = .ok (.bipush 6, 2) := by decide +kernel
theorem dH_init_15 : decode cH_init 15 = .ok (.newarray .int, 2) := by decide +kernel
theorem dH_init_17 : decode cH_init 17 = .ok (.putfield 15, 3) := by decide +kernel
theorem dH_init_20 : decode cH_init 20 = .ok (.aload_n 0, 1) := by decide +kernel
theorem dH_init_21 : decode cH_init 21 = .ok (.bipush 6, 2) := by decide +kernel
theorem dH_init_23 : decode cH_init 23 = .ok (.newarray .boolean, 2) := by decide +kernel
theorem dH_init_25 : decode cH_init 25 = .ok (.putfield 19, 3) := by decide +kernel
theorem dH_init_28 : decode cH_init 28 = .ok (.aload_n 0, 1) := by decide +kernel
theorem dH_init_29 : decode cH_init 29 = .ok (.bipush 40, 2) := by decide +kernel
theorem dH_init_31 : decode cH_init 31 = .ok (.anewarray 23, 3) := by decide +kernel
theorem dH_init_34 : decode cH_init 34 = .ok (.putfield 25, 3) := by decide +kernel
theorem dH_init_37 : decode cH_init 37 = .ok (.aload_n 0, 1) := by decide +kernel
theorem dH_init_38 : decode cH_init 38 = .ok (.sipush 150, 3) := by decide +kernel
theorem dH_init_41 : decode cH_init 41 = .ok (.anewarray 29, 3) := by decide +kernel
theorem dH_init_44 : decode cH_init 44 = .ok (.putfield 31, 3) := by decide +kernel
theorem dH_init_47 : decode cH_init 47 = .ok (.aload_n 0, 1) := by decide +kernel
theorem dH_init_48 : decode cH_init 48 = .ok (.sipush 150, 3) := by decide +kernel
theorem dH_init_51 : decode cH_init 51 = .ok (.newarray .int, 2) := by decide +kernel
theorem dH_init_53 : decode cH_init 53 = .ok (.putfield 35, 3) := by decide +kernel
theorem dH_init_56 : decode cH_init 56 = .ok (.aload_n 0, 1) := by decide +kernel
theorem dH_init_57 : decode cH_init 57 = .ok (.new 38, 3) := by decide +kernel
theorem dH_init_60 : decode cH_init 60 = .ok (.dup, 1) := by decide +kernel
theorem dH_init_61 : decode cH_init 61 = .ok (.bipush 8, 2) := by decide +kernel
theorem dH_init_63 : decode cH_init 63 = .ok (.invokespecial 40, 3) := by decide +kernel
theorem dH_init_66 : decode cH_init 66 = .ok (.putfield 43, 3) := by decide +kernel
theorem dH_init_69 : decode cH_init 69 = .ok (.aload_n 0, 1) := by decide +kernel
theorem dH_init_70 : decode cH_init 70 = .ok (.new 38, 3) := by decide +kernel
theorem dH_init_73 : decode cH_init 73 = .ok (.dup, 1) := by decide +kernel
theorem dH_init_74 : decode cH_init 74 = .ok (.sipush 1024, 3) := by decide +kernel
theorem dH_init_77 : decode cH_init 77 = .ok (.invokespecial 40, 3) := by decide +kernel
theorem dH_init_80 : decode cH_init 80 = .ok (.putfield 47, 3) := by decide +kernel
theorem dH_init_83 : decode cH_init 83 = .ok (.iconst 0, 1) := by decide +kernel
theorem dH_init_84 : decode cH_init 84 = .ok (.istore_n 1, 1) := by decide +kernel
theorem dH_init_85 : decode cH_init 85 = .ok (.iload_n 1, 1) := by decide +kernel
theorem dH_init_86 : decode cH_init 86 = .ok (.iconst 4, 1) := by decide +kernel
theorem dH_init_87 : decode cH_init 87 = .ok (.if_icmp .ge 23, 3) := by decide +kernel
theorem dH_init_90 : decode cH_init 90 = .ok (.aload_n 0, 1) := by decide +kernel
theorem dH_init_91 : decode cH_init 91 = .ok (.getfield 11, 3) := by decide +kernel
theorem dH_init_94 : decode cH_init 94 = .ok (.iload_n 1, 1) := by decide +kernel
theorem dH_init_95 : decode cH_init 95 = .ok (.new 9, 3) := by decide +kernel
theorem dH_init_98 : decode cH_init 98 = .ok (.dup, 1) := by decide +kernel
theorem dH_init_99 : decode cH_init 99 = .ok (.iload_n 1, 1) := by decide +kernel
theorem dH_init_100 : decode cH_init 100 = .ok (.invokespecial 50, 3) := by decide +kernel
theorem dH_init_103 : decode cH_init 103 = .ok (.aastore, 1) := by decide +kernel
theorem dH_init_104 : decode cH_init 104 = .ok (.iinc 1 1, 3) := by decide +kernel
theorem dH_init_107 : decode cH_init 107 = .ok (.goto (-22), 3) := by decide +kernel
theorem dH_init_110 : decode cH_init 110 = .ok (.iconst 1, 1) := by decide +kernel
theorem dH_init_111 : decode cH_init 111 = .ok (.istore_n 1, 1) := by decide +kernel
theorem dH_init_112 : decode cH_init 112 = .ok (.iload_n 1, 1) := by decide +kernel
theorem dH_init_113 : decode cH_init 113 = .ok (.iconst 5, 1) := by decide +kernel
theorem dH_init_114 : decode cH_init 114 = .ok (.if_icmp .gt 16, 3) := by decide +kernel
theorem dH_init_117 : decode cH_init 117 = .ok (.aload_n 0, 1) := by decide +kernel
theorem dH_init_118 : decode cH_init 118 = .ok (.getfield 19, 3) := by decide +kernel
theorem dH_init_121 : decode cH_init 121 = .ok (.iload_n 1, 1) := by decide +kernel
theorem dH_init_122 : decode cH_init 122 = .ok (.iconst 1, 1) := by decide +kernel
theorem dH_init_123 : decode cH_init 123 = .ok (.bastore, 1) := by decide +kernel
theorem dH_init_124 : decode cH_init 124 = .ok (.iinc 1 1, 3) := by decide +kernel
theorem dH_init_127 : decode cH_init 127 = .ok (.goto (-15), 3) := by decide +kernel
theorem dH_init_130 : decode cH_init 130 = .ok (.return_, 1) := by decide +kernel
theorem dT_init_0 : decode cT_init 0 = .ok (.aload_n 0, 1) := by decide +kernel
theorem dT_init_1 : decode cT_init 1 = .ok (.invokespecial 3, 3) := by decide +kernel
theorem dT_init_4 : decode cT_init 4 = .ok (.aload_n 0, 1) := by decide +kernel
theorem dT_init_5 : decode cT_init 5 = .ok (.iload_n 1, 1) := by decide +kernel
theorem dT_init_6 : decode cT_init 6 = .ok (.newarray .char, 2) := by decide +kernel
theorem dT_init_8 : decode cT_init 8 = .ok (.putfield 9, 3) := by decide +kernel
theorem dT_init_11 : decode cT_init 11 = .ok (.return_, 1) := by decide +kernel
theorem dU_init_0 : decode cU_init 0 = .ok (.aload_n 0, 1) := by decide +kernel
theorem dU_init_1 : decode cU_init 1 = .ok (.invokespecial 3, 3) := by decide +kernel
theorem dU_init_4 : decode cU_init 4 = .ok (.aload_n 0, 1) := by decide +kernel
theorem dU_init_5 : decode cU_init 5 = .ok (.iconst 4, 1) := by decide +kernel
theorem dU_init_6 : decode cU_init 6 = .ok (.anewarray 9, 3) := by decide +kernel
theorem dU_init_9 : decode cU_init 9 = .ok (.putfield 11, 3) := by decide +kernel
theorem dU_init_12 : decode cU_init 12 = .ok (.aload_n 0, 1) := by decide +kernel
theorem dU_init_13 : decode cU_init 13 = .ok (.iload_n 1, 1) := by decide +kernel
theorem dU_init_14 : decode cU_init 14 = .ok (.putfield 17, 3) := by decide +kernel
theorem dU_init_17 : decode cU_init 17 = .ok (.iconst 0, 1) := by decide +kernel
theorem dU_init_18 : decode cU_init 18 = .ok (.istore_n 2, 1) := by decide +kernel
theorem dU_init_19 : decode cU_init 19 = .ok (.iload_n 2, 1) := by decide +kernel
theorem dU_init_20 : decode cU_init 20 = .ok (.aload_n 0, 1) := by decide +kernel
theorem dU_init_21 : decode cU_init 21 = .ok (.getfield 11, 3) := by decide +kernel
theorem dU_init_24 : decode cU_init 24 = .ok (.arraylength, 1) := by decide +kernel
theorem dU_init_25 : decode cU_init 25 = .ok (.if_icmp .ge 24, 3) := by decide +kernel
theorem dU_init_28 : decode cU_init 28 = .ok (.aload_n 0, 1) := by decide +kernel
theorem dU_init_29 : decode cU_init 29 = .ok (.getfield 11, 3) := by decide +kernel
theorem dU_init_32 : decode cU_init 32 = .ok (.iload_n 2, 1) := by decide +kernel
theorem dU_init_33 : decode cU_init 33 = .ok (.new 9, 3) := by decide +kernel
theorem dU_init_36 : decode cU_init 36 = .ok (.dup, 1) := by decide +kernel
theorem dU_init_37 : decode cU_init 37 = .ok (.bipush 8, 2) := by decide +kernel
theorem dU_init_39 : decode cU_init 39 = .ok (.invokespecial 21, 3) := by decide +kernel
theorem dU_init_42 : decode cU_init 42 = .ok (.aastore, 1) := by decide +kernel
theorem dU_init_43 : decode cU_init 43 = .ok (.iinc 2 1, 3) := by decide +kernel
theorem dU_init_46 : decode cU_init 46 = .ok (.goto (-27), 3) := by decide +kernel
theorem dU_init_49 : decode cU_init 49 = .ok (.return_, 1) := by decide +kernel
theorem dH_document_0 : decode cH_document 0 = .ok (.iload_n 1, 1) := by decide +kernel
theorem dH_document_1 : decode cH_document 1 = .ok (.iconst (-1), 1) := by decide +kernel
theorem dH_document_2 : decode cH_document 2 = .ok (.if_icmp .ne 13, 3) := by decide +kernel
theorem dH_document_5 : decode cH_document 5 = .ok (.aload_n 0, 1) := by decide +kernel
theorem dH_document_6 : decode cH_document 6 = .ok (.getfield 47, 3) := by decide +kernel
theorem dH_document_9 : decode cH_document 9 = .ok (.getfield 58, 3) := by decide +kernel
theorem dH_document_12 : decode cH_document 12 = .ok (.goto 11, 3) := by decide +kernel
theorem dH_document_15 : decode cH_document 15 = .ok (.aload_n 0, 1) := by decide +kernel
theorem dH_document_16 : decode cH_document 16 = .ok (.getfield 47, 3) := by decide +kernel
theorem dH_document_19 : decode cH_document 19 = .ok (.iload_n 1, 1) := by decide +kernel
theorem dH_document_20 : decode cH_document 20 = .ok (.invokevirtual 207, 3) := by decide +kernel
theorem dH_document_23 : decode cH_document 23 = .ok (.ireturn, 1) := by decide +kernel
theorem dT_at_0 : decode cT_at 0 = .ok (.iload_n 1, 1) := by decide +kernel
theorem dT_at_1 : decode cT_at 1 = .ok (.ifCond .lt 20, 3) := by decide +kernel
theorem dT_at_4 : decode cT_at 4 = .ok (.iload_n 1, 1) := by decide +kernel
theorem dT_at_5 : decode cT_at 5 = .ok (.aload_n 0, 1) := by decide +kernel
theorem dT_at_6 : decode cT_at 6 = .ok (.getfield 15, 3) := by decide +kernel
theorem dT_at_9 : decode cT_at 9 = .ok (.if_icmp .ge 12, 3) := by decide +kernel
theorem dT_at_12 : decode cT_at 12 = .ok (.aload_n 0, 1) := by decide +kernel
theorem dT_at_13 : decode cT_at 13 = .ok (.getfield 9, 3) := by decide +kernel
theorem dT_at_16 : decode cT_at 16 = .ok (.iload_n 1, 1) := by decide +kernel
theorem dT_at_17 : decode cT_at 17 = .ok (.caload, 1) := by decide +kernel
theorem dT_at_18 : decode cT_at 18 = .ok (.goto 4, 3) := by decide +kernel
theorem dT_at_21 : decode cT_at 21 = .ok (.iconst (-1), 1) := by decide +kernel
theorem dT_at_22 : decode cT_at 22 = .ok (.ireturn, 1) := by decide +kernel
theorem dH_session_0 : decode cH_session 0 = .ok (.aload_n 0, 1) := by decide +kernel
theorem dH_session_1 : decode cH_session 1 = .ok (.iload_n 1, 1) := by decide +kernel
theorem dH_session_2 : decode cH_session 2 = .ok (.invokevirtual 139, 3) := by decide +kernel
theorem dH_session_5 : decode cH_session 5 = .ok (.astore_n 3, 1) := by decide +kernel
theorem dH_session_6 : decode cH_session 6 = .ok (.aload_n 3, 1) := by decide +kernel
theorem dH_session_7 : decode cH_session 7 = .ok (.ifnonnull 5, 3) := by decide +kernel
theorem dH_session_10 : decode cH_session 10 = .ok (.iconst (-1), 1) := by decide +kernel
theorem dH_session_11 : decode cH_session 11 = .ok (.ireturn, 1) := by decide +kernel
theorem dH_session_12 : decode cH_session 12 = .ok (.iload_n 2, 1) := by decide +kernel
theorem dH_session_13 : decode cH_session 13 = .ok (.tableswitch 69 0 4 #[35, 43, 51, 56, 61], 35) := by decide +kernel
theorem dH_session_48 : decode cH_session 48 = .ok (.aload_n 3, 1) := by decide +kernel
theorem dH_session_49 : decode cH_session 49 = .ok (.getfield 211, 3) := by decide +kernel
theorem dH_session_52 : decode cH_session 52 = .ok (.getfield 215, 3) := by decide +kernel
theorem dH_session_55 : decode cH_session 55 = .ok (.ireturn, 1) := by decide +kernel
theorem dH_session_56 : decode cH_session 56 = .ok (.aload_n 3, 1) := by decide +kernel
theorem dH_session_57 : decode cH_session 57 = .ok (.getfield 145, 3) := by decide +kernel
theorem dH_session_60 : decode cH_session 60 = .ok (.invokestatic 216, 3) := by decide +kernel
theorem dH_session_63 : decode cH_session 63 = .ok (.ireturn, 1) := by decide +kernel
theorem dH_session_64 : decode cH_session 64 = .ok (.aload_n 3, 1) := by decide +kernel
theorem dH_session_65 : decode cH_session 65 = .ok (.getfield 220, 3) := by decide +kernel
theorem dH_session_68 : decode cH_session 68 = .ok (.ireturn, 1) := by decide +kernel
theorem dH_session_69 : decode cH_session 69 = .ok (.aload_n 3, 1) := by decide +kernel
theorem dH_session_70 : decode cH_session 70 = .ok (.getfield 150, 3) := by decide +kernel
theorem dH_session_73 : decode cH_session 73 = .ok (.ireturn, 1) := by decide +kernel
theorem dH_session_74 : decode cH_session 74 = .ok (.aload_n 3, 1) := by decide +kernel
theorem dH_session_75 : decode cH_session 75 = .ok (.getfield 223, 3) := by decide +kernel
theorem dH_session_78 : decode cH_session 78 = .ok (.invokestatic 216, 3) := by decide +kernel
theorem dH_session_81 : decode cH_session 81 = .ok (.ireturn, 1) := by decide +kernel
theorem dH_session_82 : decode cH_session 82 = .ok (.iconst (-1), 1) := by decide +kernel
theorem dH_session_83 : decode cH_session 83 = .ok (.ireturn, 1) := by decide +kernel
theorem dH_findSession_0 : decode cH_findSession 0 = .ok (.iload_n 1, 1) := by decide +kernel
theorem dH_findSession_1 : decode cH_findSession 1 = .ok (.ifCond .lt 20, 3) := by decide +kernel
theorem dH_findSession_4 : decode cH_findSession 4 = .ok (.iload_n 1, 1) := by decide +kernel
theorem dH_findSession_5 : decode cH_findSession 5 = .ok (.aload_n 0, 1) := by decide +kernel
theorem dH_findSession_6 : decode cH_findSession 6 = .ok (.getfield 101, 3) := by decide +kernel
theorem dH_findSession_9 : decode cH_findSession 9 = .ok (.if_icmp .ge 12, 3) := by decide +kernel
theorem dH_findSession_12 : decode cH_findSession 12 = .ok (.aload_n 0, 1) := by decide +kernel
theorem dH_findSession_13 : decode cH_findSession 13 = .ok (.getfield 25, 3) := by decide +kernel
theorem dH_findSession_16 : decode cH_findSession 16 = .ok (.iload_n 1, 1) := by decide +kernel
theorem dH_findSession_17 : decode cH_findSession 17 = .ok (.aaload, 1) := by decide +kernel
theorem dH_findSession_18 : decode cH_findSession 18 = .ok (.goto 4, 3) := by decide +kernel
theorem dH_findSession_21 : decode cH_findSession 21 = .ok (.aconst_null, 1) := by decide +kernel
theorem dH_findSession_22 : decode cH_findSession 22 = .ok (.areturn, 1) := by decide +kernel
theorem dH_oneIf_0 : decode cH_oneIf 0 = .ok (.iload_n 0, 1) := by decide +kernel
theorem dH_oneIf_1 : decode cH_oneIf 1 = .ok (.ifCond .eq 7, 3) := by decide +kernel
theorem dH_oneIf_4 : decode cH_oneIf 4 = .ok (.iconst 1, 1) := by decide +kernel
theorem dH_oneIf_5 : decode cH_oneIf 5 = .ok (.goto 4, 3) := by decide +kernel
theorem dH_oneIf_8 : decode cH_oneIf 8 = .ok (.iconst 0, 1) := by decide +kernel
theorem dH_oneIf_9 : decode cH_oneIf 9 = .ok (.ireturn, 1) := by decide +kernel
theorem dH_about_0 : decode cH_about 0 = .ok (.aload_n 0, 1) := by decide +kernel
theorem dH_about_1 : decode cH_about 1 = .ok (.iload_n 1, 1) := by decide +kernel
theorem dH_about_2 : decode cH_about 2 = .ok (.invokevirtual 153, 3) := by decide +kernel
theorem dH_about_5 : decode cH_about 5 = .ok (.astore_n 3, 1) := by decide +kernel
theorem dH_about_6 : decode cH_about 6 = .ok (.aload_n 3, 1) := by decide +kernel
theorem dH_about_7 : decode cH_about 7 = .ok (.ifnonnull 5, 3) := by decide +kernel
theorem dH_about_10 : decode cH_about 10 = .ok (.iconst (-1), 1) := by decide +kernel
theorem dH_about_11 : decode cH_about 11 = .ok (.ireturn, 1) := by decide +kernel
theorem dH_about_12 : decode cH_about 12 = .ok (.iload_n 2, 1) := by decide +kernel
theorem dH_about_13 : decode cH_about 13 = .ok (.tableswitch 114 0 7 #[47, 52, 64, 72, 77, 82, 90, 109], 47) := by decide +kernel
theorem dH_about_60 : decode cH_about 60 = .ok (.aload_n 3, 1) := by decide +kernel
theorem dH_about_61 : decode cH_about 61 = .ok (.getfield 157, 3) := by decide +kernel
theorem dH_about_64 : decode cH_about 64 = .ok (.ireturn, 1) := by decide +kernel
theorem dH_about_65 : decode cH_about 65 = .ok (.aload_n 3, 1) := by decide +kernel
theorem dH_about_66 : decode cH_about 66 = .ok (.aload_n 0, 1) := by decide +kernel
theorem dH_about_67 : decode cH_about 67 = .ok (.getfield 106, 3) := by decide +kernel
theorem dH_about_70 : decode cH_about 70 = .ok (.invokevirtual 162, 3) := by decide +kernel
theorem dH_about_73 : decode cH_about 73 = .ok (.invokestatic 216, 3) := by decide +kernel
theorem dH_about_76 : decode cH_about 76 = .ok (.ireturn, 1) := by decide +kernel
theorem dH_about_77 : decode cH_about 77 = .ok (.aload_n 3, 1) := by decide +kernel
theorem dH_about_78 : decode cH_about 78 = .ok (.getfield 167, 3) := by decide +kernel
theorem dH_about_81 : decode cH_about 81 = .ok (.getfield 117, 3) := by decide +kernel
theorem dH_about_84 : decode cH_about 84 = .ok (.ireturn, 1) := by decide +kernel
theorem dH_about_85 : decode cH_about 85 = .ok (.aload_n 3, 1) := by decide +kernel
theorem dH_about_86 : decode cH_about 86 = .ok (.getfield 226, 3) := by decide +kernel
theorem dH_about_89 : decode cH_about 89 = .ok (.ireturn, 1) := by decide +kernel
theorem dH_about_90 : decode cH_about 90 = .ok (.aload_n 3, 1) := by decide +kernel
theorem dH_about_91 : decode cH_about 91 = .ok (.getfield 229, 3) := by decide +kernel
theorem dH_about_94 : decode cH_about 94 = .ok (.ireturn, 1) := by decide +kernel
theorem dH_about_95 : decode cH_about 95 = .ok (.aload_n 3, 1) := by decide +kernel
theorem dH_about_96 : decode cH_about 96 = .ok (.getfield 134, 3) := by decide +kernel
theorem dH_about_99 : decode cH_about 99 = .ok (.invokestatic 216, 3) := by decide +kernel
theorem dH_about_102 : decode cH_about 102 = .ok (.ireturn, 1) := by decide +kernel
theorem dH_about_103 : decode cH_about 103 = .ok (.aload_n 3, 1) := by decide +kernel
theorem dH_about_104 : decode cH_about 104 = .ok (.getfield 232, 3) := by decide +kernel
theorem dH_about_107 : decode cH_about 107 = .ok (.ifnonnull 7, 3) := by decide +kernel
theorem dH_about_110 : decode cH_about 110 = .ok (.iconst (-1), 1) := by decide +kernel
theorem dH_about_111 : decode cH_about 111 = .ok (.goto 10, 3) := by decide +kernel
theorem dH_about_114 : decode cH_about 114 = .ok (.aload_n 3, 1) := by decide +kernel
theorem dH_about_115 : decode cH_about 115 = .ok (.getfield 232, 3) := by decide +kernel
theorem dH_about_118 : decode cH_about 118 = .ok (.getfield 138, 3) := by decide +kernel
theorem dH_about_121 : decode cH_about 121 = .ok (.ireturn, 1) := by decide +kernel
theorem dH_about_122 : decode cH_about 122 = .ok (.aload_n 3, 1) := by decide +kernel
theorem dH_about_123 : decode cH_about 123 = .ok (.getfield 236, 3) := by decide +kernel
theorem dH_about_126 : decode cH_about 126 = .ok (.ireturn, 1) := by decide +kernel
theorem dH_about_127 : decode cH_about 127 = .ok (.iconst (-1), 1) := by decide +kernel
theorem dH_about_128 : decode cH_about 128 = .ok (.ireturn, 1) := by decide +kernel
theorem dH_findTicket_0 : decode cH_findTicket 0 = .ok (.iload_n 1, 1) := by decide +kernel
theorem dH_findTicket_1 : decode cH_findTicket 1 = .ok (.ifCond .lt 20, 3) := by decide +kernel
theorem dH_findTicket_4 : decode cH_findTicket 4 = .ok (.iload_n 1, 1) := by decide +kernel
theorem dH_findTicket_5 : decode cH_findTicket 5 = .ok (.aload_n 0, 1) := by decide +kernel
theorem dH_findTicket_6 : decode cH_findTicket 6 = .ok (.getfield 125, 3) := by decide +kernel
theorem dH_findTicket_9 : decode cH_findTicket 9 = .ok (.if_icmp .ge 12, 3) := by decide +kernel
theorem dH_findTicket_12 : decode cH_findTicket 12 = .ok (.aload_n 0, 1) := by decide +kernel
theorem dH_findTicket_13 : decode cH_findTicket 13 = .ok (.getfield 31, 3) := by decide +kernel
theorem dH_findTicket_16 : decode cH_findTicket 16 = .ok (.iload_n 1, 1) := by decide +kernel
theorem dH_findTicket_17 : decode cH_findTicket 17 = .ok (.aaload, 1) := by decide +kernel
theorem dH_findTicket_18 : decode cH_findTicket 18 = .ok (.goto 4, 3) := by decide +kernel
theorem dH_findTicket_21 : decode cH_findTicket 21 = .ok (.aconst_null, 1) := by decide +kernel
theorem dH_findTicket_22 : decode cH_findTicket 22 = .ok (.areturn, 1) := by decide +kernel
theorem dK_isGood_0 : decode cK_isGood 0 = .ok (.aload_n 0, 1) := by decide +kernel
theorem dK_isGood_1 : decode cK_isGood 1 = .ok (.getfield 15, 3) := by decide +kernel
theorem dK_isGood_4 : decode cK_isGood 4 = .ok (.iconst 2, 1) := by decide +kernel
theorem dK_isGood_5 : decode cK_isGood 5 = .ok (.if_icmp .ne 8, 3) := by decide +kernel
theorem dK_isGood_8 : decode cK_isGood 8 = .ok (.bipush 60, 2) := by decide +kernel
theorem dK_isGood_10 : decode cK_isGood 10 = .ok (.goto 5, 3) := by decide +kernel
theorem dK_isGood_13 : decode cK_isGood 13 = .ok (.bipush 10, 2) := by decide +kernel
theorem dK_isGood_15 : decode cK_isGood 15 = .ok (.istore_n 2, 1) := by decide +kernel
theorem dK_isGood_16 : decode cK_isGood 16 = .ok (.aload_n 0, 1) := by decide +kernel
theorem dK_isGood_17 : decode cK_isGood 17 = .ok (.getfield 35, 3) := by decide +kernel
theorem dK_isGood_20 : decode cK_isGood 20 = .ok (.ifCond .ne 27, 3) := by decide +kernel
theorem dK_isGood_23 : decode cK_isGood 23 = .ok (.aload_n 0, 1) := by decide +kernel
theorem dK_isGood_24 : decode cK_isGood 24 = .ok (.getfield 18, 3) := by decide +kernel
theorem dK_isGood_27 : decode cK_isGood 27 = .ok (.getfield 39, 3) := by decide +kernel
theorem dK_isGood_30 : decode cK_isGood 30 = .ok (.ifCond .eq 17, 3) := by decide +kernel
theorem dK_isGood_33 : decode cK_isGood 33 = .ok (.iload_n 1, 1) := by decide +kernel
theorem dK_isGood_34 : decode cK_isGood 34 = .ok (.aload_n 0, 1) := by decide +kernel
theorem dK_isGood_35 : decode cK_isGood 35 = .ok (.getfield 25, 3) := by decide +kernel
theorem dK_isGood_38 : decode cK_isGood 38 = .ok (.isub, 1) := by decide +kernel
theorem dK_isGood_39 : decode cK_isGood 39 = .ok (.iload_n 2, 1) := by decide +kernel
theorem dK_isGood_40 : decode cK_isGood 40 = .ok (.if_icmp .gt 7, 3) := by decide +kernel
theorem dK_isGood_43 : decode cK_isGood 43 = .ok (.iconst 1, 1) := by decide +kernel
theorem dK_isGood_44 : decode cK_isGood 44 = .ok (.goto 4, 3) := by decide +kernel
theorem dK_isGood_47 : decode cK_isGood 47 = .ok (.iconst 0, 1) := by decide +kernel
theorem dK_isGood_48 : decode cK_isGood 48 = .ok (.ireturn, 1) := by decide +kernel
theorem dH_message_0 : decode cH_message 0 = .ok (.iload_n 1, 1) := by decide +kernel
theorem dH_message_1 : decode cH_message 1 = .ok (.ifCond .lt 20, 3) := by decide +kernel
theorem dH_message_4 : decode cH_message 4 = .ok (.iload_n 1, 1) := by decide +kernel
theorem dH_message_5 : decode cH_message 5 = .ok (.aload_n 0, 1) := by decide +kernel
theorem dH_message_6 : decode cH_message 6 = .ok (.getfield 239, 3) := by decide +kernel
theorem dH_message_9 : decode cH_message 9 = .ok (.if_icmp .ge 12, 3) := by decide +kernel
theorem dH_message_12 : decode cH_message 12 = .ok (.aload_n 0, 1) := by decide +kernel
theorem dH_message_13 : decode cH_message 13 = .ok (.getfield 35, 3) := by decide +kernel
theorem dH_message_16 : decode cH_message 16 = .ok (.iload_n 1, 1) := by decide +kernel
theorem dH_message_17 : decode cH_message 17 = .ok (.iaload, 1) := by decide +kernel
theorem dH_message_18 : decode cH_message 18 = .ok (.goto 4, 3) := by decide +kernel
theorem dH_message_21 : decode cH_message 21 = .ok (.iconst (-1), 1) := by decide +kernel
theorem dH_message_22 : decode cH_message 22 = .ok (.ireturn, 1) := by decide +kernel
theorem dH_house_0 : decode cH_house 0 = .ok (.iload_n 1, 1) := by decide +kernel
theorem dH_house_1 : decode cH_house 1 = .ok (.tableswitch 63 0 4 #[35, 40, 45, 50, 55], 35) := by decide +kernel
theorem dH_house_36 : decode cH_house 36 = .ok (.aload_n 0, 1) := by decide +kernel
theorem dH_house_37 : decode cH_house 37 = .ok (.getfield 106, 3) := by decide +kernel
theorem dH_house_40 : decode cH_house 40 = .ok (.ireturn, 1) := by decide +kernel
theorem dH_house_41 : decode cH_house 41 = .ok (.aload_n 0, 1) := by decide +kernel
theorem dH_house_42 : decode cH_house 42 = .ok (.getfield 101, 3) := by decide +kernel
theorem dH_house_45 : decode cH_house 45 = .ok (.ireturn, 1) := by decide +kernel
theorem dH_house_46 : decode cH_house 46 = .ok (.aload_n 0, 1) := by decide +kernel
theorem dH_house_47 : decode cH_house 47 = .ok (.getfield 125, 3) := by decide +kernel
theorem dH_house_50 : decode cH_house 50 = .ok (.ireturn, 1) := by decide +kernel
theorem dH_house_51 : decode cH_house 51 = .ok (.aload_n 0, 1) := by decide +kernel
theorem dH_house_52 : decode cH_house 52 = .ok (.getfield 239, 3) := by decide +kernel
theorem dH_house_55 : decode cH_house 55 = .ok (.ireturn, 1) := by decide +kernel
theorem dH_house_56 : decode cH_house 56 = .ok (.aload_n 0, 1) := by decide +kernel
theorem dH_house_57 : decode cH_house 57 = .ok (.getfield 43, 3) := by decide +kernel
theorem dH_house_60 : decode cH_house 60 = .ok (.getfield 58, 3) := by decide +kernel
theorem dH_house_63 : decode cH_house 63 = .ok (.ireturn, 1) := by decide +kernel
theorem dH_house_64 : decode cH_house 64 = .ok (.aload_n 0, 1) := by decide +kernel
theorem dH_house_65 : decode cH_house 65 = .ok (.iload_n 1, 1) := by decide +kernel
theorem dH_house_66 : decode cH_house 66 = .ok (.iconst 5, 1) := by decide +kernel
theorem dH_house_67 : decode cH_house 67 = .ok (.isub, 1) := by decide +kernel
theorem dH_house_68 : decode cH_house 68 = .ok (.invokevirtual 242, 3) := by decide +kernel
theorem dH_house_71 : decode cH_house 71 = .ok (.ireturn, 1) := by decide +kernel
theorem dH_wrongTries_0 : decode cH_wrongTries 0 = .ok (.aload_n 0, 1) := by decide +kernel
theorem dH_wrongTries_1 : decode cH_wrongTries 1 = .ok (.iload_n 1, 1) := by decide +kernel
theorem dH_wrongTries_2 : decode cH_wrongTries 2 = .ok (.invokevirtual 71, 3) := by decide +kernel
theorem dH_wrongTries_5 : decode cH_wrongTries 5 = .ok (.astore_n 2, 1) := by decide +kernel
theorem dH_wrongTries_6 : decode cH_wrongTries 6 = .ok (.aload_n 2, 1) := by decide +kernel
theorem dH_wrongTries_7 : decode cH_wrongTries 7 = .ok (.ifnonnull 7, 3) := by decide +kernel
theorem dH_wrongTries_10 : decode cH_wrongTries 10 = .ok (.iconst (-1), 1) := by decide +kernel
theorem dH_wrongTries_11 : decode cH_wrongTries 11 = .ok (.goto 7, 3) := by decide +kernel
theorem dH_wrongTries_14 : decode cH_wrongTries 14 = .ok (.aload_n 2, 1) := by decide +kernel
theorem dH_wrongTries_15 : decode cH_wrongTries 15 = .ok (.getfield 245, 3) := by decide +kernel
theorem dH_wrongTries_18 : decode cH_wrongTries 18 = .ok (.ireturn, 1) := by decide +kernel
theorem dH_findUser_0 : decode cH_findUser 0 = .ok (.iload_n 1, 1) := by decide +kernel
theorem dH_findUser_1 : decode cH_findUser 1 = .ok (.ifCond .lt 17, 3) := by decide +kernel
theorem dH_findUser_4 : decode cH_findUser 4 = .ok (.iload_n 1, 1) := by decide +kernel
theorem dH_findUser_5 : decode cH_findUser 5 = .ok (.iconst 4, 1) := by decide +kernel
theorem dH_findUser_6 : decode cH_findUser 6 = .ok (.if_icmp .ge 12, 3) := by decide +kernel
theorem dH_findUser_9 : decode cH_findUser 9 = .ok (.aload_n 0, 1) := by decide +kernel
theorem dH_findUser_10 : decode cH_findUser 10 = .ok (.getfield 11, 3) := by decide +kernel
theorem dH_findUser_13 : decode cH_findUser 13 = .ok (.iload_n 1, 1) := by decide +kernel
theorem dH_findUser_14 : decode cH_findUser 14 = .ok (.aaload, 1) := by decide +kernel
theorem dH_findUser_15 : decode cH_findUser 15 = .ok (.goto 4, 3) := by decide +kernel
theorem dH_findUser_18 : decode cH_findUser 18 = .ok (.aconst_null, 1) := by decide +kernel
theorem dH_findUser_19 : decode cH_findUser 19 = .ok (.areturn, 1) := by decide +kernel
theorem dL_letter_0 : decode cL_letter 0 = .ok (.aload_n 2, 1) := by decide +kernel
theorem dL_letter_1 : decode cL_letter 1 = .ok (.iconst 0, 1) := by decide +kernel
theorem dL_letter_2 : decode cL_letter 2 = .ok (.aload_n 0, 1) := by decide +kernel
theorem dL_letter_3 : decode cL_letter 3 = .ok (.iload_n 1, 1) := by decide +kernel
theorem dL_letter_4 : decode cL_letter 4 = .ok (.invokevirtual 7, 3) := by decide +kernel
theorem dL_letter_7 : decode cL_letter 7 = .ok (.i2l, 1) := by decide +kernel
theorem dL_letter_8 : decode cL_letter 8 = .ok (.lastore, 1) := by decide +kernel
theorem dL_letter_9 : decode cL_letter 9 = .ok (.goto 9, 3) := by decide +kernel
theorem dL_letter_12 : decode cL_letter 12 = .ok (.astore_n 3, 1) := by decide +kernel
theorem dL_letter_13 : decode cL_letter 13 = .ok (.iconst 1, 1) := by decide +kernel
theorem dL_letter_14 : decode cL_letter 14 = .ok (.ireturn, 1) := by decide +kernel
theorem dL_letter_15 : decode cL_letter 15 = .ok (.astore_n 3, 1) := by decide +kernel
theorem dL_letter_16 : decode cL_letter 16 = .ok (.iconst 2, 1) := by decide +kernel
theorem dL_letter_17 : decode cL_letter 17 = .ok (.ireturn, 1) := by decide +kernel
theorem dL_letter_18 : decode cL_letter 18 = .ok (.iconst 0, 1) := by decide +kernel
theorem dL_letter_19 : decode cL_letter 19 = .ok (.ireturn, 1) := by decide +kernel
theorem dH_letter_0 : decode cH_letter 0 = .ok (.iload_n 1, 1) := by decide +kernel
theorem dH_letter_1 : decode cH_letter 1 = .ok (.bipush 32, 2) := by decide +kernel
theorem dH_letter_3 : decode cH_letter 3 = .ok (.if_icmp .lt 9, 3) := by decide +kernel
theorem dH_letter_6 : decode cH_letter 6 = .ok (.iload_n 1, 1) := by decide +kernel
theorem dH_letter_7 : decode cH_letter 7 = .ok (.bipush 126, 2) := by decide +kernel
theorem dH_letter_9 : decode cH_letter 9 = .ok (.if_icmp .le 13, 3) := by decide +kernel
theorem dH_letter_12 : decode cH_letter 12 = .ok (.new 51, 3) := by decide +kernel
theorem dH_letter_15 : decode cH_letter 15 = .ok (.dup, 1) := by decide +kernel
theorem dH_letter_16 : decode cH_letter 16 = .ok (.ldc 53, 2) := by decide +kernel
theorem dH_letter_18 : decode cH_letter 18 = .ok (.invokespecial 55, 3) := by decide +kernel
theorem dH_letter_21 : decode cH_letter 21 = .ok (.athrow, 1) := by decide +kernel
theorem dH_letter_22 : decode cH_letter 22 = .ok (.aload_n 0, 1) := by decide +kernel
theorem dH_letter_23 : decode cH_letter 23 = .ok (.getfield 43, 3) := by decide +kernel
theorem dH_letter_26 : decode cH_letter 26 = .ok (.getfield 58, 3) := by decide +kernel
theorem dH_letter_29 : decode cH_letter 29 = .ok (.bipush 8, 2) := by decide +kernel
theorem dH_letter_31 : decode cH_letter 31 = .ok (.if_icmp .lt 13, 3) := by decide +kernel
theorem dH_letter_34 : decode cH_letter 34 = .ok (.new 62, 3) := by decide +kernel
theorem dH_letter_37 : decode cH_letter 37 = .ok (.dup, 1) := by decide +kernel
theorem dH_letter_38 : decode cH_letter 38 = .ok (.ldc 64, 2) := by decide +kernel
theorem dH_letter_40 : decode cH_letter 40 = .ok (.invokespecial 66, 3) := by decide +kernel
theorem dH_letter_43 : decode cH_letter 43 = .ok (.athrow, 1) := by decide +kernel
theorem dH_letter_44 : decode cH_letter 44 = .ok (.aload_n 0, 1) := by decide +kernel
theorem dH_letter_45 : decode cH_letter 45 = .ok (.getfield 43, 3) := by decide +kernel
theorem dH_letter_48 : decode cH_letter 48 = .ok (.iload_n 1, 1) := by decide +kernel
theorem dH_letter_49 : decode cH_letter 49 = .ok (.i2c, 1) := by decide +kernel
theorem dH_letter_50 : decode cH_letter 50 = .ok (.invokevirtual 67, 3) := by decide +kernel
theorem dH_letter_53 : decode cH_letter 53 = .ok (.aload_n 0, 1) := by decide +kernel
theorem dH_letter_54 : decode cH_letter 54 = .ok (.getfield 43, 3) := by decide +kernel
theorem dH_letter_57 : decode cH_letter 57 = .ok (.getfield 58, 3) := by decide +kernel
theorem dH_letter_60 : decode cH_letter 60 = .ok (.ireturn, 1) := by decide +kernel
theorem dT_add_0 : decode cT_add 0 = .ok (.aload_n 0, 1) := by decide +kernel
theorem dT_add_1 : decode cT_add 1 = .ok (.getfield 15, 3) := by decide +kernel
theorem dT_add_4 : decode cT_add 4 = .ok (.aload_n 0, 1) := by decide +kernel
theorem dT_add_5 : decode cT_add 5 = .ok (.getfield 9, 3) := by decide +kernel
theorem dT_add_8 : decode cT_add 8 = .ok (.arraylength, 1) := by decide +kernel
theorem dT_add_9 : decode cT_add 9 = .ok (.if_icmp .ge 23, 3) := by decide +kernel
theorem dT_add_12 : decode cT_add 12 = .ok (.aload_n 0, 1) := by decide +kernel
theorem dT_add_13 : decode cT_add 13 = .ok (.getfield 9, 3) := by decide +kernel
theorem dT_add_16 : decode cT_add 16 = .ok (.aload_n 0, 1) := by decide +kernel
theorem dT_add_17 : decode cT_add 17 = .ok (.getfield 15, 3) := by decide +kernel
theorem dT_add_20 : decode cT_add 20 = .ok (.iload_n 1, 1) := by decide +kernel
theorem dT_add_21 : decode cT_add 21 = .ok (.castore, 1) := by decide +kernel
theorem dT_add_22 : decode cT_add 22 = .ok (.aload_n 0, 1) := by decide +kernel
theorem dT_add_23 : decode cT_add 23 = .ok (.dup, 1) := by decide +kernel
theorem dT_add_24 : decode cT_add 24 = .ok (.getfield 15, 3) := by decide +kernel
theorem dT_add_27 : decode cT_add 27 = .ok (.iconst 1, 1) := by decide +kernel
theorem dT_add_28 : decode cT_add 28 = .ok (.iadd, 1) := by decide +kernel
theorem dT_add_29 : decode cT_add 29 = .ok (.putfield 15, 3) := by decide +kernel
theorem dT_add_32 : decode cT_add 32 = .ok (.return_, 1) := by decide +kernel
theorem dL_text_0 : decode cL_text 0 = .ok (.aload_n 3, 1) := by decide +kernel
theorem dL_text_1 : decode cL_text 1 = .ok (.iconst 0, 1) := by decide +kernel
theorem dL_text_2 : decode cL_text 2 = .ok (.aload_n 0, 1) := by decide +kernel
theorem dL_text_3 : decode cL_text 3 = .ok (.iload_n 1, 1) := by decide +kernel
theorem dL_text_4 : decode cL_text 4 = .ok (.iload_n 2, 1) := by decide +kernel
theorem dL_text_5 : decode cL_text 5 = .ok (.invokevirtual 17, 3) := by decide +kernel
theorem dL_text_8 : decode cL_text 8 = .ok (.i2l, 1) := by decide +kernel
theorem dL_text_9 : decode cL_text 9 = .ok (.lastore, 1) := by decide +kernel
theorem dL_text_10 : decode cL_text 10 = .ok (.goto 7, 3) := by decide +kernel
theorem dL_text_13 : decode cL_text 13 = .ok (.astore 4, 2) := by decide +kernel
theorem dL_text_15 : decode cL_text 15 = .ok (.iconst 1, 1) := by decide +kernel
theorem dL_text_16 : decode cL_text 16 = .ok (.ireturn, 1) := by decide +kernel
theorem dL_text_17 : decode cL_text 17 = .ok (.iconst 0, 1) := by decide +kernel
theorem dL_text_18 : decode cL_text 18 = .ok (.ireturn, 1) := by decide +kernel
theorem dH_text_0 : decode cH_text 0 = .ok (.aload_n 0, 1) := by decide +kernel
theorem dH_text_1 : decode cH_text 1 = .ok (.iload_n 1, 1) := by decide +kernel
theorem dH_text_2 : decode cH_text 2 = .ok (.invokevirtual 71, 3) := by decide +kernel
theorem dH_text_5 : decode cH_text 5 = .ok (.astore_n 3, 1) := by decide +kernel
theorem dH_text_6 : decode cH_text 6 = .ok (.aload_n 3, 1) := by decide +kernel
theorem dH_text_7 : decode cH_text 7 = .ok (.ifnull 12, 3) := by decide +kernel
theorem dH_text_10 : decode cH_text 10 = .ok (.iload_n 2, 1) := by decide +kernel
theorem dH_text_11 : decode cH_text 11 = .ok (.ifCond .lt 8, 3) := by decide +kernel
theorem dH_text_14 : decode cH_text 14 = .ok (.iload_n 2, 1) := by decide +kernel
theorem dH_text_15 : decode cH_text 15 = .ok (.iconst 3, 1) := by decide +kernel
theorem dH_text_16 : decode cH_text 16 = .ok (.if_icmp .le 13, 3) := by decide +kernel
theorem dH_text_19 : decode cH_text 19 = .ok (.new 51, 3) := by decide +kernel
theorem dH_text_22 : decode cH_text 22 = .ok (.dup, 1) := by decide +kernel
theorem dH_text_23 : decode cH_text 23 = .ok (.ldc 75, 2) := by decide +kernel
theorem dH_text_25 : decode cH_text 25 = .ok (.invokespecial 55, 3) := by decide +kernel
theorem dH_text_28 : decode cH_text 28 = .ok (.athrow, 1) := by decide +kernel
theorem dH_text_29 : decode cH_text 29 = .ok (.aload_n 3, 1) := by decide +kernel
theorem dH_text_30 : decode cH_text 30 = .ok (.getfield 77, 3) := by decide +kernel
theorem dH_text_33 : decode cH_text 33 = .ok (.iload_n 2, 1) := by decide +kernel
theorem dH_text_34 : decode cH_text 34 = .ok (.aaload, 1) := by decide +kernel
theorem dH_text_35 : decode cH_text 35 = .ok (.astore 4, 2) := by decide +kernel
theorem dH_text_37 : decode cH_text 37 = .ok (.aload 4, 2) := by decide +kernel
theorem dH_text_39 : decode cH_text 39 = .ok (.aload_n 0, 1) := by decide +kernel
theorem dH_text_40 : decode cH_text 40 = .ok (.getfield 43, 3) := by decide +kernel
theorem dH_text_43 : decode cH_text 43 = .ok (.invokevirtual 81, 3) := by decide +kernel
theorem dH_text_46 : decode cH_text 46 = .ok (.aload_n 0, 1) := by decide +kernel
theorem dH_text_47 : decode cH_text 47 = .ok (.getfield 43, 3) := by decide +kernel
theorem dH_text_50 : decode cH_text 50 = .ok (.invokevirtual 85, 3) := by decide +kernel
theorem dH_text_53 : decode cH_text 53 = .ok (.aload 4, 2) := by decide +kernel
theorem dH_text_55 : decode cH_text 55 = .ok (.getfield 58, 3) := by decide +kernel
theorem dH_text_58 : decode cH_text 58 = .ok (.ireturn, 1) := by decide +kernel
theorem dT_become_0 : decode cT_become 0 = .ok (.aload_n 0, 1) := by decide +kernel
theorem dT_become_1 : decode cT_become 1 = .ok (.invokevirtual 56, 3) := by decide +kernel
theorem dT_become_4 : decode cT_become 4 = .ok (.iconst 0, 1) := by decide +kernel
theorem dT_become_5 : decode cT_become 5 = .ok (.istore_n 2, 1) := by decide +kernel
theorem dT_become_6 : decode cT_become 6 = .ok (.iload_n 2, 1) := by decide +kernel
theorem dT_become_7 : decode cT_become 7 = .ok (.aload_n 1, 1) := by decide +kernel
theorem dT_become_8 : decode cT_become 8 = .ok (.getfield 15, 3) := by decide +kernel
theorem dT_become_11 : decode cT_become 11 = .ok (.if_icmp .ge 19, 3) := by decide +kernel
theorem dT_become_14 : decode cT_become 14 = .ok (.aload_n 0, 1) := by decide +kernel
theorem dT_become_15 : decode cT_become 15 = .ok (.aload_n 1, 1) := by decide +kernel
theorem dT_become_16 : decode cT_become 16 = .ok (.getfield 9, 3) := by decide +kernel
theorem dT_become_19 : decode cT_become 19 = .ok (.iload_n 2, 1) := by decide +kernel
theorem dT_become_20 : decode cT_become 20 = .ok (.caload, 1) := by decide +kernel
theorem dT_become_21 : decode cT_become 21 = .ok (.invokevirtual 28, 3) := by decide +kernel
theorem dT_become_24 : decode cT_become 24 = .ok (.iinc 2 1, 3) := by decide +kernel
theorem dT_become_27 : decode cT_become 27 = .ok (.goto (-21), 3) := by decide +kernel
theorem dT_become_30 : decode cT_become 30 = .ok (.return_, 1) := by decide +kernel
theorem dT_clear_0 : decode cT_clear 0 = .ok (.aload_n 0, 1) := by decide +kernel
theorem dT_clear_1 : decode cT_clear 1 = .ok (.iconst 0, 1) := by decide +kernel
theorem dT_clear_2 : decode cT_clear 2 = .ok (.putfield 15, 3) := by decide +kernel
theorem dT_clear_5 : decode cT_clear 5 = .ok (.return_, 1) := by decide +kernel
theorem dL_password_0 : decode cL_password 0 = .ok (.aload_n 3, 1) := by decide +kernel
theorem dL_password_1 : decode cL_password 1 = .ok (.iconst 0, 1) := by decide +kernel
theorem dL_password_2 : decode cL_password 2 = .ok (.aload_n 0, 1) := by decide +kernel
theorem dL_password_3 : decode cL_password 3 = .ok (.iload_n 1, 1) := by decide +kernel
theorem dL_password_4 : decode cL_password 4 = .ok (.iload_n 2, 1) := by decide +kernel
theorem dL_password_5 : decode cL_password 5 = .ok (.invokevirtual 21, 3) := by decide +kernel
theorem dL_password_8 : decode cL_password 8 = .ok (.ifCond .eq 7, 3) := by decide +kernel
theorem dL_password_11 : decode cL_password 11 = .ok (.lconst 1, 1) := by decide +kernel
theorem dL_password_12 : decode cL_password 12 = .ok (.goto 4, 3) := by decide +kernel
theorem dL_password_15 : decode cL_password 15 = .ok (.lconst 0, 1) := by decide +kernel
theorem dL_password_16 : decode cL_password 16 = .ok (.lastore, 1) := by decide +kernel
theorem dL_password_17 : decode cL_password 17 = .ok (.goto 7, 3) := by decide +kernel
theorem dL_password_20 : decode cL_password 20 = .ok (.astore 4, 2) := by decide +kernel
theorem dL_password_22 : decode cL_password 22 = .ok (.iconst 1, 1) := by decide +kernel
theorem dL_password_23 : decode cL_password 23 = .ok (.ireturn, 1) := by decide +kernel
theorem dL_password_24 : decode cL_password 24 = .ok (.iconst 0, 1) := by decide +kernel
theorem dL_password_25 : decode cL_password 25 = .ok (.ireturn, 1) := by decide +kernel
theorem dH_password_0 : decode cH_password 0 = .ok (.aload_n 0, 1) := by decide +kernel
theorem dH_password_1 : decode cH_password 1 = .ok (.iload_n 1, 1) := by decide +kernel
theorem dH_password_2 : decode cH_password 2 = .ok (.invokevirtual 71, 3) := by decide +kernel
theorem dH_password_5 : decode cH_password 5 = .ok (.astore_n 3, 1) := by decide +kernel
theorem dH_password_6 : decode cH_password 6 = .ok (.aload_n 3, 1) := by decide +kernel
theorem dH_password_7 : decode cH_password 7 = .ok (.ifnonnull 13, 3) := by decide +kernel
theorem dH_password_10 : decode cH_password 10 = .ok (.new 51, 3) := by decide +kernel
theorem dH_password_13 : decode cH_password 13 = .ok (.dup, 1) := by decide +kernel
theorem dH_password_14 : decode cH_password 14 = .ok (.ldc 88, 2) := by decide +kernel
theorem dH_password_16 : decode cH_password 16 = .ok (.invokespecial 55, 3) := by decide +kernel
theorem dH_password_19 : decode cH_password 19 = .ok (.athrow, 1) := by decide +kernel
theorem dH_password_20 : decode cH_password 20 = .ok (.aload_n 3, 1) := by decide +kernel
theorem dH_password_21 : decode cH_password 21 = .ok (.iload_n 2, 1) := by decide +kernel
theorem dH_password_22 : decode cH_password 22 = .ok (.invokevirtual 90, 3) := by decide +kernel
theorem dH_password_25 : decode cH_password 25 = .ok (.iconst 1, 1) := by decide +kernel
theorem dH_password_26 : decode cH_password 26 = .ok (.ireturn, 1) := by decide +kernel
theorem dU_setWord_0 : decode cU_setWord 0 = .ok (.aload_n 0, 1) := by decide +kernel
theorem dU_setWord_1 : decode cU_setWord 1 = .ok (.iload_n 1, 1) := by decide +kernel
theorem dU_setWord_2 : decode cU_setWord 2 = .ok (.putfield 24, 3) := by decide +kernel
theorem dU_setWord_5 : decode cU_setWord 5 = .ok (.aload_n 0, 1) := by decide +kernel
theorem dU_setWord_6 : decode cU_setWord 6 = .ok (.iconst 1, 1) := by decide +kernel
theorem dU_setWord_7 : decode cU_setWord 7 = .ok (.putfield 27, 3) := by decide +kernel
theorem dU_setWord_10 : decode cU_setWord 10 = .ok (.aload_n 0, 1) := by decide +kernel
theorem dU_setWord_11 : decode cU_setWord 11 = .ok (.iconst 0, 1) := by decide +kernel
theorem dU_setWord_12 : decode cU_setWord 12 = .ok (.putfield 31, 3) := by decide +kernel
theorem dU_setWord_15 : decode cU_setWord 15 = .ok (.return_, 1) := by decide +kernel
theorem dL_service_0 : decode cL_service 0 = .ok (.aload_n 3, 1) := by decide +kernel
theorem dL_service_1 : decode cL_service 1 = .ok (.iconst 0, 1) := by decide +kernel
theorem dL_service_2 : decode cL_service 2 = .ok (.aload_n 0, 1) := by decide +kernel
theorem dL_service_3 : decode cL_service 3 = .ok (.iload_n 1, 1) := by decide +kernel
theorem dL_service_4 : decode cL_service 4 = .ok (.iload_n 2, 1) := by decide +kernel
theorem dL_service_5 : decode cL_service 5 = .ok (.invokevirtual 25, 3) := by decide +kernel
theorem dL_service_8 : decode cL_service 8 = .ok (.i2l, 1) := by decide +kernel
theorem dL_service_9 : decode cL_service 9 = .ok (.lastore, 1) := by decide +kernel
theorem dL_service_10 : decode cL_service 10 = .ok (.goto 7, 3) := by decide +kernel
theorem dL_service_13 : decode cL_service 13 = .ok (.astore 4, 2) := by decide +kernel
theorem dL_service_15 : decode cL_service 15 = .ok (.iconst 1, 1) := by decide +kernel
theorem dL_service_16 : decode cL_service 16 = .ok (.ireturn, 1) := by decide +kernel
theorem dL_service_17 : decode cL_service 17 = .ok (.iconst 0, 1) := by decide +kernel
theorem dL_service_18 : decode cL_service 18 = .ok (.ireturn, 1) := by decide +kernel
theorem dH_service_0 : decode cH_service 0 = .ok (.iload_n 1, 1) := by decide +kernel
theorem dH_service_1 : decode cH_service 1 = .ok (.invokestatic 93, 3) := by decide +kernel
theorem dH_service_4 : decode cH_service 4 = .ok (.ifCond .eq 13, 3) := by decide +kernel
theorem dH_service_7 : decode cH_service 7 = .ok (.iload_n 2, 1) := by decide +kernel
theorem dH_service_8 : decode cH_service 8 = .ok (.ifCond .lt 9, 3) := by decide +kernel
theorem dH_service_11 : decode cH_service 11 = .ok (.iload_n 2, 1) := by decide +kernel
theorem dH_service_12 : decode cH_service 12 = .ok (.bipush 63, 2) := by decide +kernel
theorem dH_service_14 : decode cH_service 14 = .ok (.if_icmp .le 13, 3) := by decide +kernel
theorem dH_service_17 : decode cH_service 17 = .ok (.new 51, 3) := by decide +kernel
theorem dH_service_20 : decode cH_service 20 = .ok (.dup, 1) := by decide +kernel
theorem dH_service_21 : decode cH_service 21 = .ok (.ldc 97, 2) := by decide +kernel
theorem dH_service_23 : decode cH_service 23 = .ok (.invokespecial 55, 3) := by decide +kernel
theorem dH_service_26 : decode cH_service 26 = .ok (.athrow, 1) := by decide +kernel
theorem dH_service_27 : decode cH_service 27 = .ok (.aload_n 0, 1) := by decide +kernel
theorem dH_service_28 : decode cH_service 28 = .ok (.getfield 15, 3) := by decide +kernel
theorem dH_service_31 : decode cH_service 31 = .ok (.iload_n 1, 1) := by decide +kernel
theorem dH_service_32 : decode cH_service 32 = .ok (.iaload, 1) := by decide +kernel
theorem dH_service_33 : decode cH_service 33 = .ok (.istore_n 3, 1) := by decide +kernel
theorem dH_service_34 : decode cH_service 34 = .ok (.aload_n 0, 1) := by decide +kernel
theorem dH_service_35 : decode cH_service 35 = .ok (.getfield 15, 3) := by decide +kernel
theorem dH_service_38 : decode cH_service 38 = .ok (.iload_n 1, 1) := by decide +kernel
theorem dH_service_39 : decode cH_service 39 = .ok (.iload_n 2, 1) := by decide +kernel
theorem dH_service_40 : decode cH_service 40 = .ok (.iastore, 1) := by decide +kernel
theorem dH_service_41 : decode cH_service 41 = .ok (.iload_n 3, 1) := by decide +kernel
theorem dH_service_42 : decode cH_service 42 = .ok (.ireturn, 1) := by decide +kernel
theorem dH_isService_0 : decode cH_isService 0 = .ok (.iload_n 0, 1) := by decide +kernel
theorem dH_isService_1 : decode cH_isService 1 = .ok (.ifCond .lt 13, 3) := by decide +kernel
theorem dH_isService_4 : decode cH_isService 4 = .ok (.iload_n 0, 1) := by decide +kernel
theorem dH_isService_5 : decode cH_isService 5 = .ok (.bipush 6, 2) := by decide +kernel
theorem dH_isService_7 : decode cH_isService 7 = .ok (.if_icmp .ge 7, 3) := by decide +kernel
theorem dH_isService_10 : decode cH_isService 10 = .ok (.iconst 1, 1) := by decide +kernel
theorem dH_isService_11 : decode cH_isService 11 = .ok (.goto 4, 3) := by decide +kernel
theorem dH_isService_14 : decode cH_isService 14 = .ok (.iconst 0, 1) := by decide +kernel
theorem dH_isService_15 : decode cH_isService 15 = .ok (.ireturn, 1) := by decide +kernel
theorem dL_callback_0 : decode cL_callback 0 = .ok (.aload_n 3, 1) := by decide +kernel
theorem dL_callback_1 : decode cL_callback 1 = .ok (.iconst 0, 1) := by decide +kernel
theorem dL_callback_2 : decode cL_callback 2 = .ok (.aload_n 0, 1) := by decide +kernel
theorem dL_callback_3 : decode cL_callback 3 = .ok (.iload_n 1, 1) := by decide +kernel
theorem dL_callback_4 : decode cL_callback 4 = .ok (.iload_n 2, 1) := by decide +kernel
theorem dL_callback_5 : decode cL_callback 5 = .ok (.invokevirtual 28, 3) := by decide +kernel
theorem dL_callback_8 : decode cL_callback 8 = .ok (.ifCond .eq 7, 3) := by decide +kernel
theorem dL_callback_11 : decode cL_callback 11 = .ok (.lconst 1, 1) := by decide +kernel
theorem dL_callback_12 : decode cL_callback 12 = .ok (.goto 4, 3) := by decide +kernel
theorem dL_callback_15 : decode cL_callback 15 = .ok (.lconst 0, 1) := by decide +kernel
theorem dL_callback_16 : decode cL_callback 16 = .ok (.lastore, 1) := by decide +kernel
theorem dL_callback_17 : decode cL_callback 17 = .ok (.goto 7, 3) := by decide +kernel
theorem dL_callback_20 : decode cL_callback 20 = .ok (.astore 4, 2) := by decide +kernel
theorem dL_callback_22 : decode cL_callback 22 = .ok (.iconst 1, 1) := by decide +kernel
theorem dL_callback_23 : decode cL_callback 23 = .ok (.ireturn, 1) := by decide +kernel
theorem dL_callback_24 : decode cL_callback 24 = .ok (.iconst 0, 1) := by decide +kernel
theorem dL_callback_25 : decode cL_callback 25 = .ok (.ireturn, 1) := by decide +kernel
theorem dH_callback_0 : decode cH_callback 0 = .ok (.iload_n 1, 1) := by decide +kernel
theorem dH_callback_1 : decode cH_callback 1 = .ok (.iconst 1, 1) := by decide +kernel
theorem dH_callback_2 : decode cH_callback 2 = .ok (.if_icmp .lt 8, 3) := by decide +kernel
theorem dH_callback_5 : decode cH_callback 5 = .ok (.iload_n 1, 1) := by decide +kernel
theorem dH_callback_6 : decode cH_callback 6 = .ok (.iconst 5, 1) := by decide +kernel
theorem dH_callback_7 : decode cH_callback 7 = .ok (.if_icmp .le 13, 3) := by decide +kernel
theorem dH_callback_10 : decode cH_callback 10 = .ok (.new 51, 3) := by decide +kernel
theorem dH_callback_13 : decode cH_callback 13 = .ok (.dup, 1) := by decide +kernel
theorem dH_callback_14 : decode cH_callback 14 = .ok (.ldc 99, 2) := by decide +kernel
theorem dH_callback_16 : decode cH_callback 16 = .ok (.invokespecial 55, 3) := by decide +kernel
theorem dH_callback_19 : decode cH_callback 19 = .ok (.athrow, 1) := by decide +kernel
theorem dH_callback_20 : decode cH_callback 20 = .ok (.aload_n 0, 1) := by decide +kernel
theorem dH_callback_21 : decode cH_callback 21 = .ok (.getfield 19, 3) := by decide +kernel
theorem dH_callback_24 : decode cH_callback 24 = .ok (.iload_n 1, 1) := by decide +kernel
theorem dH_callback_25 : decode cH_callback 25 = .ok (.baload, 1) := by decide +kernel
theorem dH_callback_26 : decode cH_callback 26 = .ok (.istore_n 3, 1) := by decide +kernel
theorem dH_callback_27 : decode cH_callback 27 = .ok (.aload_n 0, 1) := by decide +kernel
theorem dH_callback_28 : decode cH_callback 28 = .ok (.getfield 19, 3) := by decide +kernel
theorem dH_callback_31 : decode cH_callback 31 = .ok (.iload_n 1, 1) := by decide +kernel
theorem dH_callback_32 : decode cH_callback 32 = .ok (.iload_n 2, 1) := by decide +kernel
theorem dH_callback_33 : decode cH_callback 33 = .ok (.bastore, 1) := by decide +kernel
theorem dH_callback_34 : decode cH_callback 34 = .ok (.iload_n 3, 1) := by decide +kernel
theorem dH_callback_35 : decode cH_callback 35 = .ok (.ireturn, 1) := by decide +kernel
theorem dL_login_0 : decode cL_login 0 = .ok (.aload 4, 2) := by decide +kernel
theorem dL_login_2 : decode cL_login 2 = .ok (.iconst 0, 1) := by decide +kernel
theorem dL_login_3 : decode cL_login 3 = .ok (.aload_n 0, 1) := by decide +kernel
theorem dL_login_4 : decode cL_login 4 = .ok (.iload_n 1, 1) := by decide +kernel
theorem dL_login_5 : decode cL_login 5 = .ok (.iload_n 2, 1) := by decide +kernel
theorem dL_login_6 : decode cL_login 6 = .ok (.iload_n 3, 1) := by decide +kernel
theorem dL_login_7 : decode cL_login 7 = .ok (.invokevirtual 32, 3) := by decide +kernel
theorem dL_login_10 : decode cL_login 10 = .ok (.i2l, 1) := by decide +kernel
theorem dL_login_11 : decode cL_login 11 = .ok (.lastore, 1) := by decide +kernel
theorem dL_login_12 : decode cL_login 12 = .ok (.goto 11, 3) := by decide +kernel
theorem dL_login_15 : decode cL_login 15 = .ok (.astore 5, 2) := by decide +kernel
theorem dL_login_17 : decode cL_login 17 = .ok (.iconst 1, 1) := by decide +kernel
theorem dL_login_18 : decode cL_login 18 = .ok (.ireturn, 1) := by decide +kernel
theorem dL_login_19 : decode cL_login 19 = .ok (.astore 5, 2) := by decide +kernel
theorem dL_login_21 : decode cL_login 21 = .ok (.iconst 2, 1) := by decide +kernel
theorem dL_login_22 : decode cL_login 22 = .ok (.ireturn, 1) := by decide +kernel
theorem dL_login_23 : decode cL_login 23 = .ok (.iconst 0, 1) := by decide +kernel
theorem dL_login_24 : decode cL_login 24 = .ok (.ireturn, 1) := by decide +kernel
theorem dH_login_0 : decode cH_login 0 = .ok (.aload_n 0, 1) := by decide +kernel
theorem dH_login_1 : decode cH_login 1 = .ok (.iload_n 1, 1) := by decide +kernel
theorem dH_login_2 : decode cH_login 2 = .ok (.invokevirtual 71, 3) := by decide +kernel
theorem dH_login_5 : decode cH_login 5 = .ok (.astore 4, 2) := by decide +kernel
theorem dH_login_7 : decode cH_login 7 = .ok (.aload 4, 2) := by decide +kernel
theorem dH_login_9 : decode cH_login 9 = .ok (.ifnonnull 13, 3) := by decide +kernel
theorem dH_login_12 : decode cH_login 12 = .ok (.new 51, 3) := by decide +kernel
theorem dH_login_15 : decode cH_login 15 = .ok (.dup, 1) := by decide +kernel
theorem dH_login_16 : decode cH_login 16 = .ok (.ldc 88, 2) := by decide +kernel
theorem dH_login_18 : decode cH_login 18 = .ok (.invokespecial 55, 3) := by decide +kernel
theorem dH_login_21 : decode cH_login 21 = .ok (.athrow, 1) := by decide +kernel
theorem dH_login_22 : decode cH_login 22 = .ok (.aload_n 0, 1) := by decide +kernel
theorem dH_login_23 : decode cH_login 23 = .ok (.getfield 101, 3) := by decide +kernel
theorem dH_login_26 : decode cH_login 26 = .ok (.bipush 40, 2) := by decide +kernel
theorem dH_login_28 : decode cH_login 28 = .ok (.if_icmp .lt 13, 3) := by decide +kernel
theorem dH_login_31 : decode cH_login 31 = .ok (.new 62, 3) := by decide +kernel
theorem dH_login_34 : decode cH_login 34 = .ok (.dup, 1) := by decide +kernel
theorem dH_login_35 : decode cH_login 35 = .ok (.ldc 104, 2) := by decide +kernel
theorem dH_login_37 : decode cH_login 37 = .ok (.invokespecial 66, 3) := by decide +kernel
theorem dH_login_40 : decode cH_login 40 = .ok (.athrow, 1) := by decide +kernel
theorem dH_login_41 : decode cH_login 41 = .ok (.aload 4, 2) := by decide +kernel
theorem dH_login_43 : decode cH_login 43 = .ok (.iload_n 2, 1) := by decide +kernel
theorem dH_login_44 : decode cH_login 44 = .ok (.aload_n 0, 1) := by decide +kernel
theorem dH_login_45 : decode cH_login 45 = .ok (.getfield 106, 3) := by decide +kernel
theorem dH_login_48 : decode cH_login 48 = .ok (.invokevirtual 109, 3) := by decide +kernel
theorem dH_login_51 : decode cH_login 51 = .ok (.istore 5, 2) := by decide +kernel
theorem dH_login_53 : decode cH_login 53 = .ok (.iload 5, 2) := by decide +kernel
theorem dH_login_55 : decode cH_login 55 = .ok (.ifCond .ne 16, 3) := by decide +kernel
theorem dH_login_58 : decode cH_login 58 = .ok (.aload_n 0, 1) := by decide +kernel
theorem dH_login_59 : decode cH_login 59 = .ok (.aload 4, 2) := by decide +kernel
theorem dH_login_61 : decode cH_login 61 = .ok (.iload_n 3, 1) := by decide +kernel
theorem dH_login_62 : decode cH_login 62 = .ok (.invokevirtual 113, 3) := by decide +kernel
theorem dH_login_65 : decode cH_login 65 = .ok (.getfield 117, 3) := by decide +kernel
theorem dH_login_68 : decode cH_login 68 = .ok (.goto 5, 3) := by decide +kernel
theorem dH_login_71 : decode cH_login 71 = .ok (.iload 5, 2) := by decide +kernel
theorem dH_login_73 : decode cH_login 73 = .ok (.ireturn, 1) := by decide +kernel
theorem dU_attempt_0 : decode cU_attempt 0 = .ok (.aload_n 0, 1) := by decide +kernel
theorem dU_attempt_1 : decode cU_attempt 1 = .ok (.getfield 27, 3) := by decide +kernel
theorem dU_attempt_4 : decode cU_attempt 4 = .ok (.ifCond .ne 6, 3) := by decide +kernel
theorem dU_attempt_7 : decode cU_attempt 7 = .ok (.bipush (-2), 2) := by decide +kernel
theorem dU_attempt_9 : decode cU_attempt 9 = .ok (.ireturn, 1) := by decide +kernel
theorem dU_attempt_10 : decode cU_attempt 10 = .ok (.aload_n 0, 1) := by decide +kernel
theorem dU_attempt_11 : decode cU_attempt 11 = .ok (.getfield 31, 3) := by decide +kernel
theorem dU_attempt_14 : decode cU_attempt 14 = .ok (.iconst 3, 1) := by decide +kernel
theorem dU_attempt_15 : decode cU_attempt 15 = .ok (.if_icmp .lt 6, 3) := by decide +kernel
theorem dU_attempt_18 : decode cU_attempt 18 = .ok (.bipush (-3), 2) := by decide +kernel
theorem dU_attempt_20 : decode cU_attempt 20 = .ok (.ireturn, 1) := by decide +kernel
theorem dU_attempt_21 : decode cU_attempt 21 = .ok (.iload_n 1, 1) := by decide +kernel
theorem dU_attempt_22 : decode cU_attempt 22 = .ok (.aload_n 0, 1) := by decide +kernel
theorem dU_attempt_23 : decode cU_attempt 23 = .ok (.getfield 24, 3) := by decide +kernel
theorem dU_attempt_26 : decode cU_attempt 26 = .ok (.if_icmp .ne 10, 3) := by decide +kernel
theorem dU_attempt_29 : decode cU_attempt 29 = .ok (.aload_n 0, 1) := by decide +kernel
theorem dU_attempt_30 : decode cU_attempt 30 = .ok (.iconst 0, 1) := by decide +kernel
theorem dU_attempt_31 : decode cU_attempt 31 = .ok (.putfield 31, 3) := by decide +kernel
theorem dU_attempt_34 : decode cU_attempt 34 = .ok (.iconst 0, 1) := by decide +kernel
theorem dU_attempt_35 : decode cU_attempt 35 = .ok (.ireturn, 1) := by decide +kernel
theorem dU_attempt_36 : decode cU_attempt 36 = .ok (.aload_n 0, 1) := by decide +kernel
theorem dU_attempt_37 : decode cU_attempt 37 = .ok (.dup, 1) := by decide +kernel
theorem dU_attempt_38 : decode cU_attempt 38 = .ok (.getfield 31, 3) := by decide +kernel
theorem dU_attempt_41 : decode cU_attempt 41 = .ok (.iconst 1, 1) := by decide +kernel
theorem dU_attempt_42 : decode cU_attempt 42 = .ok (.iadd, 1) := by decide +kernel
theorem dU_attempt_43 : decode cU_attempt 43 = .ok (.putfield 31, 3) := by decide +kernel
theorem dU_attempt_46 : decode cU_attempt 46 = .ok (.aload_n 0, 1) := by decide +kernel
theorem dU_attempt_47 : decode cU_attempt 47 = .ok (.iload_n 2, 1) := by decide +kernel
theorem dU_attempt_48 : decode cU_attempt 48 = .ok (.putfield 34, 3) := by decide +kernel
theorem dU_attempt_51 : decode cU_attempt 51 = .ok (.bipush (-2), 2) := by decide +kernel
theorem dU_attempt_53 : decode cU_attempt 53 = .ok (.ireturn, 1) := by decide +kernel
theorem dH_openSession_0 : decode cH_openSession 0 = .ok (.new 23, 3) := by decide +kernel
theorem dH_openSession_3 : decode cH_openSession 3 = .ok (.dup, 1) := by decide +kernel
theorem dH_openSession_4 : decode cH_openSession 4 = .ok (.aload_n 0, 1) := by decide +kernel
theorem dH_openSession_5 : decode cH_openSession 5 = .ok (.getfield 101, 3) := by decide +kernel
theorem dH_openSession_8 : decode cH_openSession 8 = .ok (.aload_n 1, 1) := by decide +kernel
theorem dH_openSession_9 : decode cH_openSession 9 = .ok (.aload_n 0, 1) := by decide +kernel
theorem dH_openSession_10 : decode cH_openSession 10 = .ok (.getfield 106, 3) := by decide +kernel
theorem dH_openSession_13 : decode cH_openSession 13 = .ok (.iload_n 2, 1) := by decide +kernel
theorem dH_openSession_14 : decode cH_openSession 14 = .ok (.invokespecial 251, 3) := by decide +kernel
theorem dH_openSession_17 : decode cH_openSession 17 = .ok (.astore_n 3, 1) := by decide +kernel
theorem dH_openSession_18 : decode cH_openSession 18 = .ok (.aload_n 0, 1) := by decide +kernel
theorem dH_openSession_19 : decode cH_openSession 19 = .ok (.getfield 25, 3) := by decide +kernel
theorem dH_openSession_22 : decode cH_openSession 22 = .ok (.aload_n 0, 1) := by decide +kernel
theorem dH_openSession_23 : decode cH_openSession 23 = .ok (.getfield 101, 3) := by decide +kernel
theorem dH_openSession_26 : decode cH_openSession 26 = .ok (.aload_n 3, 1) := by decide +kernel
theorem dH_openSession_27 : decode cH_openSession 27 = .ok (.aastore, 1) := by decide +kernel
theorem dH_openSession_28 : decode cH_openSession 28 = .ok (.aload_n 0, 1) := by decide +kernel
theorem dH_openSession_29 : decode cH_openSession 29 = .ok (.dup, 1) := by decide +kernel
theorem dH_openSession_30 : decode cH_openSession 30 = .ok (.getfield 101, 3) := by decide +kernel
theorem dH_openSession_33 : decode cH_openSession 33 = .ok (.iconst 1, 1) := by decide +kernel
theorem dH_openSession_34 : decode cH_openSession 34 = .ok (.iadd, 1) := by decide +kernel
theorem dH_openSession_35 : decode cH_openSession 35 = .ok (.putfield 101, 3) := by decide +kernel
theorem dH_openSession_38 : decode cH_openSession 38 = .ok (.aload_n 3, 1) := by decide +kernel
theorem dH_openSession_39 : decode cH_openSession 39 = .ok (.areturn, 1) := by decide +kernel
theorem dS_init_0 : decode cS_init 0 = .ok (.aload_n 0, 1) := by decide +kernel
theorem dS_init_1 : decode cS_init 1 = .ok (.invokespecial 1, 3) := by decide +kernel
theorem dS_init_4 : decode cS_init 4 = .ok (.aload_n 0, 1) := by decide +kernel
theorem dS_init_5 : decode cS_init 5 = .ok (.iconst 1, 1) := by decide +kernel
theorem dS_init_6 : decode cS_init 6 = .ok (.putfield 7, 3) := by decide +kernel
theorem dS_init_9 : decode cS_init 9 = .ok (.aload_n 0, 1) := by decide +kernel
theorem dS_init_10 : decode cS_init 10 = .ok (.iload_n 1, 1) := by decide +kernel
theorem dS_init_11 : decode cS_init 11 = .ok (.putfield 13, 3) := by decide +kernel
theorem dS_init_14 : decode cS_init 14 = .ok (.aload_n 0, 1) := by decide +kernel
theorem dS_init_15 : decode cS_init 15 = .ok (.aload_n 2, 1) := by decide +kernel
theorem dS_init_16 : decode cS_init 16 = .ok (.putfield 17, 3) := by decide +kernel
theorem dS_init_19 : decode cS_init 19 = .ok (.aload_n 0, 1) := by decide +kernel
theorem dS_init_20 : decode cS_init 20 = .ok (.iload_n 3, 1) := by decide +kernel
theorem dS_init_21 : decode cS_init 21 = .ok (.putfield 21, 3) := by decide +kernel
theorem dS_init_24 : decode cS_init 24 = .ok (.aload_n 0, 1) := by decide +kernel
theorem dS_init_25 : decode cS_init 25 = .ok (.iload 4, 2) := by decide +kernel
theorem dS_init_27 : decode cS_init 27 = .ok (.putfield 24, 3) := by decide +kernel
theorem dS_init_30 : decode cS_init 30 = .ok (.aload_n 0, 1) := by decide +kernel
theorem dS_init_31 : decode cS_init 31 = .ok (.iload_n 3, 1) := by decide +kernel
theorem dS_init_32 : decode cS_init 32 = .ok (.putfield 27, 3) := by decide +kernel
theorem dS_init_35 : decode cS_init 35 = .ok (.return_, 1) := by decide +kernel
theorem dL_enter_0 : decode cL_enter 0 = .ok (.aload 4, 2) := by decide +kernel
theorem dL_enter_2 : decode cL_enter 2 = .ok (.iconst 0, 1) := by decide +kernel
theorem dL_enter_3 : decode cL_enter 3 = .ok (.aload_n 0, 1) := by decide +kernel
theorem dL_enter_4 : decode cL_enter 4 = .ok (.iload_n 1, 1) := by decide +kernel
theorem dL_enter_5 : decode cL_enter 5 = .ok (.iload_n 2, 1) := by decide +kernel
theorem dL_enter_6 : decode cL_enter 6 = .ok (.iload_n 3, 1) := by decide +kernel
theorem dL_enter_7 : decode cL_enter 7 = .ok (.invokevirtual 36, 3) := by decide +kernel
theorem dL_enter_10 : decode cL_enter 10 = .ok (.i2l, 1) := by decide +kernel
theorem dL_enter_11 : decode cL_enter 11 = .ok (.lastore, 1) := by decide +kernel
theorem dL_enter_12 : decode cL_enter 12 = .ok (.goto 11, 3) := by decide +kernel
theorem dL_enter_15 : decode cL_enter 15 = .ok (.astore 5, 2) := by decide +kernel
theorem dL_enter_17 : decode cL_enter 17 = .ok (.iconst 1, 1) := by decide +kernel
theorem dL_enter_18 : decode cL_enter 18 = .ok (.ireturn, 1) := by decide +kernel
theorem dL_enter_19 : decode cL_enter 19 = .ok (.astore 5, 2) := by decide +kernel
theorem dL_enter_21 : decode cL_enter 21 = .ok (.iconst 2, 1) := by decide +kernel
theorem dL_enter_22 : decode cL_enter 22 = .ok (.ireturn, 1) := by decide +kernel
theorem dL_enter_23 : decode cL_enter 23 = .ok (.iconst 0, 1) := by decide +kernel
theorem dL_enter_24 : decode cL_enter 24 = .ok (.ireturn, 1) := by decide +kernel
theorem dH_enter_0 : decode cH_enter 0 = .ok (.aload_n 0, 1) := by decide +kernel
theorem dH_enter_1 : decode cH_enter 1 = .ok (.iload_n 1, 1) := by decide +kernel
theorem dH_enter_2 : decode cH_enter 2 = .ok (.invokevirtual 71, 3) := by decide +kernel
theorem dH_enter_5 : decode cH_enter 5 = .ok (.astore 4, 2) := by decide +kernel
theorem dH_enter_7 : decode cH_enter 7 = .ok (.aload 4, 2) := by decide +kernel
theorem dH_enter_9 : decode cH_enter 9 = .ok (.ifnull 11, 3) := by decide +kernel
theorem dH_enter_12 : decode cH_enter 12 = .ok (.aload_n 0, 1) := by decide +kernel
theorem dH_enter_13 : decode cH_enter 13 = .ok (.iload_n 3, 1) := by decide +kernel
theorem dH_enter_14 : decode cH_enter 14 = .ok (.invokevirtual 120, 3) := by decide +kernel
theorem dH_enter_17 : decode cH_enter 17 = .ok (.ifCond .ne 13, 3) := by decide +kernel
theorem dH_enter_20 : decode cH_enter 20 = .ok (.new 51, 3) := by decide +kernel
theorem dH_enter_23 : decode cH_enter 23 = .ok (.dup, 1) := by decide +kernel
theorem dH_enter_24 : decode cH_enter 24 = .ok (.ldc 123, 2) := by decide +kernel
theorem dH_enter_26 : decode cH_enter 26 = .ok (.invokespecial 55, 3) := by decide +kernel
theorem dH_enter_29 : decode cH_enter 29 = .ok (.athrow, 1) := by decide +kernel
theorem dH_enter_30 : decode cH_enter 30 = .ok (.aload_n 0, 1) := by decide +kernel
theorem dH_enter_31 : decode cH_enter 31 = .ok (.getfield 101, 3) := by decide +kernel
theorem dH_enter_34 : decode cH_enter 34 = .ok (.bipush 40, 2) := by decide +kernel
theorem dH_enter_36 : decode cH_enter 36 = .ok (.if_icmp .ge 13, 3) := by decide +kernel
theorem dH_enter_39 : decode cH_enter 39 = .ok (.aload_n 0, 1) := by decide +kernel
theorem dH_enter_40 : decode cH_enter 40 = .ok (.getfield 125, 3) := by decide +kernel
theorem dH_enter_43 : decode cH_enter 43 = .ok (.sipush 150, 3) := by decide +kernel
theorem dH_enter_46 : decode cH_enter 46 = .ok (.if_icmp .lt 13, 3) := by decide +kernel
theorem dH_enter_49 : decode cH_enter 49 = .ok (.new 62, 3) := by decide +kernel
theorem dH_enter_52 : decode cH_enter 52 = .ok (.dup, 1) := by decide +kernel
theorem dH_enter_53 : decode cH_enter 53 = .ok (.ldc 128, 2) := by decide +kernel
theorem dH_enter_55 : decode cH_enter 55 = .ok (.invokespecial 66, 3) := by decide +kernel
theorem dH_enter_58 : decode cH_enter 58 = .ok (.athrow, 1) := by decide +kernel
theorem dH_enter_59 : decode cH_enter 59 = .ok (.aload 4, 2) := by decide +kernel
theorem dH_enter_61 : decode cH_enter 61 = .ok (.iload_n 2, 1) := by decide +kernel
theorem dH_enter_62 : decode cH_enter 62 = .ok (.aload_n 0, 1) := by decide +kernel
theorem dH_enter_63 : decode cH_enter 63 = .ok (.getfield 106, 3) := by decide +kernel
theorem dH_enter_66 : decode cH_enter 66 = .ok (.invokevirtual 109, 3) := by decide +kernel
theorem dH_enter_69 : decode cH_enter 69 = .ok (.istore 5, 2) := by decide +kernel
theorem dH_enter_71 : decode cH_enter 71 = .ok (.iload 5, 2) := by decide +kernel
theorem dH_enter_73 : decode cH_enter 73 = .ok (.ifCond .eq 6, 3) := by decide +kernel
theorem dH_enter_76 : decode cH_enter 76 = .ok (.iload 5, 2) := by decide +kernel
theorem dH_enter_78 : decode cH_enter 78 = .ok (.ireturn, 1) := by decide +kernel
theorem dH_enter_79 : decode cH_enter 79 = .ok (.aload_n 0, 1) := by decide +kernel
theorem dH_enter_80 : decode cH_enter 80 = .ok (.iconst 0, 1) := by decide +kernel
theorem dH_enter_81 : decode cH_enter 81 = .ok (.aload_n 0, 1) := by decide +kernel
theorem dH_enter_82 : decode cH_enter 82 = .ok (.aload 4, 2) := by decide +kernel
theorem dH_enter_84 : decode cH_enter 84 = .ok (.iconst 0, 1) := by decide +kernel
theorem dH_enter_85 : decode cH_enter 85 = .ok (.invokevirtual 113, 3) := by decide +kernel
theorem dH_enter_88 : decode cH_enter 88 = .ok (.iload_n 3, 1) := by decide +kernel
theorem dH_enter_89 : decode cH_enter 89 = .ok (.aconst_null, 1) := by decide +kernel
theorem dH_enter_90 : decode cH_enter 90 = .ok (.invokevirtual 130, 3) := by decide +kernel
theorem dH_enter_93 : decode cH_enter 93 = .ok (.astore 6, 2) := by decide +kernel
theorem dH_enter_95 : decode cH_enter 95 = .ok (.aload 6, 2) := by decide +kernel
theorem dH_enter_97 : decode cH_enter 97 = .ok (.iconst 1, 1) := by decide +kernel
theorem dH_enter_98 : decode cH_enter 98 = .ok (.putfield 134, 3) := by decide +kernel
theorem dH_enter_101 : decode cH_enter 101 = .ok (.aload 6, 2) := by decide +kernel
theorem dH_enter_103 : decode cH_enter 103 = .ok (.getfield 138, 3) := by decide +kernel
theorem dH_enter_106 : decode cH_enter 106 = .ok (.ireturn, 1) := by decide +kernel
theorem dH_isEnabled_0 : decode cH_isEnabled 0 = .ok (.aload_n 0, 1) := by decide +kernel
theorem dH_isEnabled_1 : decode cH_isEnabled 1 = .ok (.iload_n 1, 1) := by decide +kernel
theorem dH_isEnabled_2 : decode cH_isEnabled 2 = .ok (.iconst 1, 1) := by decide +kernel
theorem dH_isEnabled_3 : decode cH_isEnabled 3 = .ok (.invokevirtual 247, 3) := by decide +kernel
theorem dH_isEnabled_6 : decode cH_isEnabled 6 = .ok (.ireturn, 1) := by decide +kernel
theorem dH_hasFlag_0 : decode cH_hasFlag 0 = .ok (.iload_n 1, 1) := by decide +kernel
theorem dH_hasFlag_1 : decode cH_hasFlag 1 = .ok (.invokestatic 93, 3) := by decide +kernel
theorem dH_hasFlag_4 : decode cH_hasFlag 4 = .ok (.ifCond .eq 18, 3) := by decide +kernel
theorem dH_hasFlag_7 : decode cH_hasFlag 7 = .ok (.aload_n 0, 1) := by decide +kernel
theorem dH_hasFlag_8 : decode cH_hasFlag 8 = .ok (.getfield 15, 3) := by decide +kernel
theorem dH_hasFlag_11 : decode cH_hasFlag 11 = .ok (.iload_n 1, 1) := by decide +kernel
theorem dH_hasFlag_12 : decode cH_hasFlag 12 = .ok (.iaload, 1) := by decide +kernel
theorem dH_hasFlag_13 : decode cH_hasFlag 13 = .ok (.iload_n 2, 1) := by decide +kernel
theorem dH_hasFlag_14 : decode cH_hasFlag 14 = .ok (.iand, 1) := by decide +kernel
theorem dH_hasFlag_15 : decode cH_hasFlag 15 = .ok (.ifCond .eq 7, 3) := by decide +kernel
theorem dH_hasFlag_18 : decode cH_hasFlag 18 = .ok (.iconst 1, 1) := by decide +kernel
theorem dH_hasFlag_19 : decode cH_hasFlag 19 = .ok (.goto 4, 3) := by decide +kernel
theorem dH_hasFlag_22 : decode cH_hasFlag 22 = .ok (.iconst 0, 1) := by decide +kernel
theorem dH_hasFlag_23 : decode cH_hasFlag 23 = .ok (.ireturn, 1) := by decide +kernel
theorem dH_giveTicket_0 : decode cH_giveTicket 0 = .ok (.new 29, 3) := by decide +kernel
theorem dH_giveTicket_3 : decode cH_giveTicket 3 = .ok (.dup, 1) := by decide +kernel
theorem dH_giveTicket_4 : decode cH_giveTicket 4 = .ok (.aload_n 0, 1) := by decide +kernel
theorem dH_giveTicket_5 : decode cH_giveTicket 5 = .ok (.getfield 125, 3) := by decide +kernel
theorem dH_giveTicket_8 : decode cH_giveTicket 8 = .ok (.iload_n 1, 1) := by decide +kernel
theorem dH_giveTicket_9 : decode cH_giveTicket 9 = .ok (.aload_n 2, 1) := by decide +kernel
theorem dH_giveTicket_10 : decode cH_giveTicket 10 = .ok (.iload_n 3, 1) := by decide +kernel
theorem dH_giveTicket_11 : decode cH_giveTicket 11 = .ok (.aload_n 0, 1) := by decide +kernel
theorem dH_giveTicket_12 : decode cH_giveTicket 12 = .ok (.getfield 106, 3) := by decide +kernel
theorem dH_giveTicket_15 : decode cH_giveTicket 15 = .ok (.aload 4, 2) := by decide +kernel
theorem dH_giveTicket_17 : decode cH_giveTicket 17 = .ok (.invokespecial 254, 3) := by decide +kernel
theorem dH_giveTicket_20 : decode cH_giveTicket 20 = .ok (.astore 5, 2) := by decide +kernel
theorem dH_giveTicket_22 : decode cH_giveTicket 22 = .ok (.aload_n 0, 1) := by decide +kernel
theorem dH_giveTicket_23 : decode cH_giveTicket 23 = .ok (.getfield 31, 3) := by decide +kernel
theorem dH_giveTicket_26 : decode cH_giveTicket 26 = .ok (.aload_n 0, 1) := by decide +kernel
theorem dH_giveTicket_27 : decode cH_giveTicket 27 = .ok (.getfield 125, 3) := by decide +kernel
theorem dH_giveTicket_30 : decode cH_giveTicket 30 = .ok (.aload 5, 2) := by decide +kernel
theorem dH_giveTicket_32 : decode cH_giveTicket 32 = .ok (.aastore, 1) := by decide +kernel
theorem dH_giveTicket_33 : decode cH_giveTicket 33 = .ok (.aload_n 0, 1) := by decide +kernel
theorem dH_giveTicket_34 : decode cH_giveTicket 34 = .ok (.dup, 1) := by decide +kernel
theorem dH_giveTicket_35 : decode cH_giveTicket 35 = .ok (.getfield 125, 3) := by decide +kernel
theorem dH_giveTicket_38 : decode cH_giveTicket 38 = .ok (.iconst 1, 1) := by decide +kernel
theorem dH_giveTicket_39 : decode cH_giveTicket 39 = .ok (.iadd, 1) := by decide +kernel
theorem dH_giveTicket_40 : decode cH_giveTicket 40 = .ok (.putfield 125, 3) := by decide +kernel
theorem dH_giveTicket_43 : decode cH_giveTicket 43 = .ok (.aload 5, 2) := by decide +kernel
theorem dH_giveTicket_45 : decode cH_giveTicket 45 = .ok (.areturn, 1) := by decide +kernel
theorem dK_init_0 : decode cK_init 0 = .ok (.aload_n 0, 1) := by decide +kernel
theorem dK_init_1 : decode cK_init 1 = .ok (.invokespecial 3, 3) := by decide +kernel
theorem dK_init_4 : decode cK_init 4 = .ok (.aload_n 0, 1) := by decide +kernel
theorem dK_init_5 : decode cK_init 5 = .ok (.iload_n 1, 1) := by decide +kernel
theorem dK_init_6 : decode cK_init 6 = .ok (.putfield 9, 3) := by decide +kernel
theorem dK_init_9 : decode cK_init 9 = .ok (.aload_n 0, 1) := by decide +kernel
theorem dK_init_10 : decode cK_init 10 = .ok (.iload_n 2, 1) := by decide +kernel
theorem dK_init_11 : decode cK_init 11 = .ok (.putfield 15, 3) := by decide +kernel
theorem dK_init_14 : decode cK_init 14 = .ok (.aload_n 0, 1) := by decide +kernel
theorem dK_init_15 : decode cK_init 15 = .ok (.aload_n 3, 1) := by decide +kernel
theorem dK_init_16 : decode cK_init 16 = .ok (.putfield 18, 3) := by decide +kernel
theorem dK_init_19 : decode cK_init 19 = .ok (.aload_n 0, 1) := by decide +kernel
theorem dK_init_20 : decode cK_init 20 = .ok (.iload 4, 2) := by decide +kernel
theorem dK_init_22 : decode cK_init 22 = .ok (.putfield 22, 3) := by decide +kernel
theorem dK_init_25 : decode cK_init 25 = .ok (.aload_n 0, 1) := by decide +kernel
theorem dK_init_26 : decode cK_init 26 = .ok (.iload 5, 2) := by decide +kernel
theorem dK_init_28 : decode cK_init 28 = .ok (.putfield 25, 3) := by decide +kernel
theorem dK_init_31 : decode cK_init 31 = .ok (.aload_n 0, 1) := by decide +kernel
theorem dK_init_32 : decode cK_init 32 = .ok (.aload 6, 2) := by decide +kernel
theorem dK_init_34 : decode cK_init 34 = .ok (.putfield 28, 3) := by decide +kernel
theorem dK_init_37 : decode cK_init 37 = .ok (.aload 6, 2) := by decide +kernel
theorem dK_init_39 : decode cK_init 39 = .ok (.ifnonnull 7, 3) := by decide +kernel
theorem dK_init_42 : decode cK_init 42 = .ok (.iconst 0, 1) := by decide +kernel
theorem dK_init_43 : decode cK_init 43 = .ok (.goto 8, 3) := by decide +kernel
theorem dK_init_46 : decode cK_init 46 = .ok (.aload 6, 2) := by decide +kernel
theorem dK_init_48 : decode cK_init 48 = .ok (.getfield 32, 3) := by decide +kernel
theorem dK_init_51 : decode cK_init 51 = .ok (.istore 7, 2) := by decide +kernel
theorem dK_init_53 : decode cK_init 53 = .ok (.aload_n 0, 1) := by decide +kernel
theorem dK_init_54 : decode cK_init 54 = .ok (.iload_n 2, 1) := by decide +kernel
theorem dK_init_55 : decode cK_init 55 = .ok (.iconst 2, 1) := by decide +kernel
theorem dK_init_56 : decode cK_init 56 = .ok (.if_icmp .ne 10, 3) := by decide +kernel
theorem dK_init_59 : decode cK_init 59 = .ok (.iload 7, 2) := by decide +kernel
theorem dK_init_61 : decode cK_init 61 = .ok (.iconst 1, 1) := by decide +kernel
theorem dK_init_62 : decode cK_init 62 = .ok (.iadd, 1) := by decide +kernel
theorem dK_init_63 : decode cK_init 63 = .ok (.goto 5, 3) := by decide +kernel
theorem dK_init_66 : decode cK_init 66 = .ok (.iload 7, 2) := by decide +kernel
theorem dK_init_68 : decode cK_init 68 = .ok (.putfield 32, 3) := by decide +kernel
theorem dK_init_71 : decode cK_init 71 = .ok (.return_, 1) := by decide +kernel
theorem dL_ticket_0 : decode cL_ticket 0 = .ok (.aload_n 3, 1) := by decide +kernel
theorem dL_ticket_1 : decode cL_ticket 1 = .ok (.iconst 0, 1) := by decide +kernel
theorem dL_ticket_2 : decode cL_ticket 2 = .ok (.aload_n 0, 1) := by decide +kernel
theorem dL_ticket_3 : decode cL_ticket 3 = .ok (.iload_n 1, 1) := by decide +kernel
theorem dL_ticket_4 : decode cL_ticket 4 = .ok (.iload_n 2, 1) := by decide +kernel
theorem dL_ticket_5 : decode cL_ticket 5 = .ok (.invokevirtual 40, 3) := by decide +kernel
theorem dL_ticket_8 : decode cL_ticket 8 = .ok (.i2l, 1) := by decide +kernel
theorem dL_ticket_9 : decode cL_ticket 9 = .ok (.lastore, 1) := by decide +kernel
theorem dL_ticket_10 : decode cL_ticket 10 = .ok (.goto 11, 3) := by decide +kernel
theorem dL_ticket_13 : decode cL_ticket 13 = .ok (.astore 4, 2) := by decide +kernel
theorem dL_ticket_15 : decode cL_ticket 15 = .ok (.iconst 1, 1) := by decide +kernel
theorem dL_ticket_16 : decode cL_ticket 16 = .ok (.ireturn, 1) := by decide +kernel
theorem dL_ticket_17 : decode cL_ticket 17 = .ok (.astore 4, 2) := by decide +kernel
theorem dL_ticket_19 : decode cL_ticket 19 = .ok (.iconst 2, 1) := by decide +kernel
theorem dL_ticket_20 : decode cL_ticket 20 = .ok (.ireturn, 1) := by decide +kernel
theorem dL_ticket_21 : decode cL_ticket 21 = .ok (.iconst 0, 1) := by decide +kernel
theorem dL_ticket_22 : decode cL_ticket 22 = .ok (.ireturn, 1) := by decide +kernel
theorem dH_ticket_0 : decode cH_ticket 0 = .ok (.aload_n 0, 1) := by decide +kernel
theorem dH_ticket_1 : decode cH_ticket 1 = .ok (.iload_n 1, 1) := by decide +kernel
theorem dH_ticket_2 : decode cH_ticket 2 = .ok (.invokevirtual 139, 3) := by decide +kernel
theorem dH_ticket_5 : decode cH_ticket 5 = .ok (.astore_n 3, 1) := by decide +kernel
theorem dH_ticket_6 : decode cH_ticket 6 = .ok (.aload_n 3, 1) := by decide +kernel
theorem dH_ticket_7 : decode cH_ticket 7 = .ok (.ifnull 11, 3) := by decide +kernel
theorem dH_ticket_10 : decode cH_ticket 10 = .ok (.aload_n 0, 1) := by decide +kernel
theorem dH_ticket_11 : decode cH_ticket 11 = .ok (.iload_n 2, 1) := by decide +kernel
theorem dH_ticket_12 : decode cH_ticket 12 = .ok (.invokevirtual 120, 3) := by decide +kernel
theorem dH_ticket_15 : decode cH_ticket 15 = .ok (.ifCond .ne 13, 3) := by decide +kernel
theorem dH_ticket_18 : decode cH_ticket 18 = .ok (.new 51, 3) := by decide +kernel
theorem dH_ticket_21 : decode cH_ticket 21 = .ok (.dup, 1) := by decide +kernel
theorem dH_ticket_22 : decode cH_ticket 22 = .ok (.ldc 143, 2) := by decide +kernel
theorem dH_ticket_24 : decode cH_ticket 24 = .ok (.invokespecial 55, 3) := by decide +kernel
theorem dH_ticket_27 : decode cH_ticket 27 = .ok (.athrow, 1) := by decide +kernel
theorem dH_ticket_28 : decode cH_ticket 28 = .ok (.aload_n 3, 1) := by decide +kernel
theorem dH_ticket_29 : decode cH_ticket 29 = .ok (.getfield 145, 3) := by decide +kernel
theorem dH_ticket_32 : decode cH_ticket 32 = .ok (.ifCond .eq 13, 3) := by decide +kernel
theorem dH_ticket_35 : decode cH_ticket 35 = .ok (.aload_n 0, 1) := by decide +kernel
theorem dH_ticket_36 : decode cH_ticket 36 = .ok (.getfield 125, 3) := by decide +kernel
theorem dH_ticket_39 : decode cH_ticket 39 = .ok (.sipush 150, 3) := by decide +kernel
theorem dH_ticket_42 : decode cH_ticket 42 = .ok (.if_icmp .lt 13, 3) := by decide +kernel
theorem dH_ticket_45 : decode cH_ticket 45 = .ok (.new 62, 3) := by decide +kernel
theorem dH_ticket_48 : decode cH_ticket 48 = .ok (.dup, 1) := by decide +kernel
theorem dH_ticket_49 : decode cH_ticket 49 = .ok (.ldc 148, 2) := by decide +kernel
theorem dH_ticket_51 : decode cH_ticket 51 = .ok (.invokespecial 66, 3) := by decide +kernel
theorem dH_ticket_54 : decode cH_ticket 54 = .ok (.athrow, 1) := by decide +kernel
theorem dH_ticket_55 : decode cH_ticket 55 = .ok (.aload_n 3, 1) := by decide +kernel
theorem dH_ticket_56 : decode cH_ticket 56 = .ok (.aload_n 0, 1) := by decide +kernel
theorem dH_ticket_57 : decode cH_ticket 57 = .ok (.getfield 106, 3) := by decide +kernel
theorem dH_ticket_60 : decode cH_ticket 60 = .ok (.putfield 150, 3) := by decide +kernel
theorem dH_ticket_63 : decode cH_ticket 63 = .ok (.aload_n 0, 1) := by decide +kernel
theorem dH_ticket_64 : decode cH_ticket 64 = .ok (.iconst 0, 1) := by decide +kernel
theorem dH_ticket_65 : decode cH_ticket 65 = .ok (.aload_n 3, 1) := by decide +kernel
theorem dH_ticket_66 : decode cH_ticket 66 = .ok (.iload_n 2, 1) := by decide +kernel
theorem dH_ticket_67 : decode cH_ticket 67 = .ok (.aconst_null, 1) := by decide +kernel
theorem dH_ticket_68 : decode cH_ticket 68 = .ok (.invokevirtual 130, 3) := by decide +kernel
theorem dH_ticket_71 : decode cH_ticket 71 = .ok (.getfield 138, 3) := by decide +kernel
theorem dH_ticket_74 : decode cH_ticket 74 = .ok (.ireturn, 1) := by decide +kernel
theorem dL_proxy_0 : decode cL_proxy 0 = .ok (.aload_n 3, 1) := by decide +kernel
theorem dL_proxy_1 : decode cL_proxy 1 = .ok (.iconst 0, 1) := by decide +kernel
theorem dL_proxy_2 : decode cL_proxy 2 = .ok (.aload_n 0, 1) := by decide +kernel
theorem dL_proxy_3 : decode cL_proxy 3 = .ok (.iload_n 1, 1) := by decide +kernel
theorem dL_proxy_4 : decode cL_proxy 4 = .ok (.iload_n 2, 1) := by decide +kernel
theorem dL_proxy_5 : decode cL_proxy 5 = .ok (.invokevirtual 43, 3) := by decide +kernel
theorem dL_proxy_8 : decode cL_proxy 8 = .ok (.i2l, 1) := by decide +kernel
theorem dL_proxy_9 : decode cL_proxy 9 = .ok (.lastore, 1) := by decide +kernel
theorem dL_proxy_10 : decode cL_proxy 10 = .ok (.goto 11, 3) := by decide +kernel
theorem dL_proxy_13 : decode cL_proxy 13 = .ok (.astore 4, 2) := by decide +kernel
theorem dL_proxy_15 : decode cL_proxy 15 = .ok (.iconst 1, 1) := by decide +kernel
theorem dL_proxy_16 : decode cL_proxy 16 = .ok (.ireturn, 1) := by decide +kernel
theorem dL_proxy_17 : decode cL_proxy 17 = .ok (.astore 4, 2) := by decide +kernel
theorem dL_proxy_19 : decode cL_proxy 19 = .ok (.iconst 2, 1) := by decide +kernel
theorem dL_proxy_20 : decode cL_proxy 20 = .ok (.ireturn, 1) := by decide +kernel
theorem dL_proxy_21 : decode cL_proxy 21 = .ok (.iconst 0, 1) := by decide +kernel
theorem dL_proxy_22 : decode cL_proxy 22 = .ok (.ireturn, 1) := by decide +kernel
theorem dH_proxy_0 : decode cH_proxy 0 = .ok (.aload_n 0, 1) := by decide +kernel
theorem dH_proxy_1 : decode cH_proxy 1 = .ok (.iload_n 1, 1) := by decide +kernel
theorem dH_proxy_2 : decode cH_proxy 2 = .ok (.invokevirtual 153, 3) := by decide +kernel
theorem dH_proxy_5 : decode cH_proxy 5 = .ok (.astore_n 3, 1) := by decide +kernel
theorem dH_proxy_6 : decode cH_proxy 6 = .ok (.aload_n 3, 1) := by decide +kernel
theorem dH_proxy_7 : decode cH_proxy 7 = .ok (.ifnull 19, 3) := by decide +kernel
theorem dH_proxy_10 : decode cH_proxy 10 = .ok (.aload_n 3, 1) := by decide +kernel
theorem dH_proxy_11 : decode cH_proxy 11 = .ok (.getfield 157, 3) := by decide +kernel
theorem dH_proxy_14 : decode cH_proxy 14 = .ok (.iconst 2, 1) := by decide +kernel
theorem dH_proxy_15 : decode cH_proxy 15 = .ok (.if_icmp .ne 11, 3) := by decide +kernel
theorem dH_proxy_18 : decode cH_proxy 18 = .ok (.aload_n 0, 1) := by decide +kernel
theorem dH_proxy_19 : decode cH_proxy 19 = .ok (.iload_n 2, 1) := by decide +kernel
theorem dH_proxy_20 : decode cH_proxy 20 = .ok (.invokevirtual 120, 3) := by decide +kernel
theorem dH_proxy_23 : decode cH_proxy 23 = .ok (.ifCond .ne 13, 3) := by decide +kernel
theorem dH_proxy_26 : decode cH_proxy 26 = .ok (.new 51, 3) := by decide +kernel
theorem dH_proxy_29 : decode cH_proxy 29 = .ok (.dup, 1) := by decide +kernel
theorem dH_proxy_30 : decode cH_proxy 30 = .ok (.ldc 160, 2) := by decide +kernel
theorem dH_proxy_32 : decode cH_proxy 32 = .ok (.invokespecial 55, 3) := by decide +kernel
theorem dH_proxy_35 : decode cH_proxy 35 = .ok (.athrow, 1) := by decide +kernel
theorem dH_proxy_36 : decode cH_proxy 36 = .ok (.aload_n 3, 1) := by decide +kernel
theorem dH_proxy_37 : decode cH_proxy 37 = .ok (.aload_n 0, 1) := by decide +kernel
theorem dH_proxy_38 : decode cH_proxy 38 = .ok (.getfield 106, 3) := by decide +kernel
theorem dH_proxy_41 : decode cH_proxy 41 = .ok (.invokevirtual 162, 3) := by decide +kernel
theorem dH_proxy_44 : decode cH_proxy 44 = .ok (.ifCond .eq 13, 3) := by decide +kernel
theorem dH_proxy_47 : decode cH_proxy 47 = .ok (.aload_n 0, 1) := by decide +kernel
theorem dH_proxy_48 : decode cH_proxy 48 = .ok (.getfield 125, 3) := by decide +kernel
theorem dH_proxy_51 : decode cH_proxy 51 = .ok (.sipush 150, 3) := by decide +kernel
theorem dH_proxy_54 : decode cH_proxy 54 = .ok (.if_icmp .lt 13, 3) := by decide +kernel
theorem dH_proxy_57 : decode cH_proxy 57 = .ok (.new 62, 3) := by decide +kernel
theorem dH_proxy_60 : decode cH_proxy 60 = .ok (.dup, 1) := by decide +kernel
theorem dH_proxy_61 : decode cH_proxy 61 = .ok (.ldc 165, 2) := by decide +kernel
theorem dH_proxy_63 : decode cH_proxy 63 = .ok (.invokespecial 66, 3) := by decide +kernel
theorem dH_proxy_66 : decode cH_proxy 66 = .ok (.athrow, 1) := by decide +kernel
theorem dH_proxy_67 : decode cH_proxy 67 = .ok (.aload_n 3, 1) := by decide +kernel
theorem dH_proxy_68 : decode cH_proxy 68 = .ok (.getfield 167, 3) := by decide +kernel
theorem dH_proxy_71 : decode cH_proxy 71 = .ok (.aload_n 0, 1) := by decide +kernel
theorem dH_proxy_72 : decode cH_proxy 72 = .ok (.getfield 106, 3) := by decide +kernel
theorem dH_proxy_75 : decode cH_proxy 75 = .ok (.putfield 150, 3) := by decide +kernel
theorem dH_proxy_78 : decode cH_proxy 78 = .ok (.aload_n 0, 1) := by decide +kernel
theorem dH_proxy_79 : decode cH_proxy 79 = .ok (.iconst 1, 1) := by decide +kernel
theorem dH_proxy_80 : decode cH_proxy 80 = .ok (.aload_n 3, 1) := by decide +kernel
theorem dH_proxy_81 : decode cH_proxy 81 = .ok (.getfield 167, 3) := by decide +kernel
theorem dH_proxy_84 : decode cH_proxy 84 = .ok (.iload_n 2, 1) := by decide +kernel
theorem dH_proxy_85 : decode cH_proxy 85 = .ok (.aload_n 3, 1) := by decide +kernel
theorem dH_proxy_86 : decode cH_proxy 86 = .ok (.invokevirtual 130, 3) := by decide +kernel
theorem dH_proxy_89 : decode cH_proxy 89 = .ok (.getfield 138, 3) := by decide +kernel
theorem dH_proxy_92 : decode cH_proxy 92 = .ok (.ireturn, 1) := by decide +kernel
theorem dL_validate_0 : decode cL_validate 0 = .ok (.aload 5, 2) := by decide +kernel
theorem dL_validate_2 : decode cL_validate 2 = .ok (.iconst 0, 1) := by decide +kernel
theorem dL_validate_3 : decode cL_validate 3 = .ok (.aload_n 0, 1) := by decide +kernel
theorem dL_validate_4 : decode cL_validate 4 = .ok (.iload_n 1, 1) := by decide +kernel
theorem dL_validate_5 : decode cL_validate 5 = .ok (.iload_n 2, 1) := by decide +kernel
theorem dL_validate_6 : decode cL_validate 6 = .ok (.iload_n 3, 1) := by decide +kernel
theorem dL_validate_7 : decode cL_validate 7 = .ok (.iload 4, 2) := by decide +kernel
theorem dL_validate_9 : decode cL_validate 9 = .ok (.invokevirtual 46, 3) := by decide +kernel
theorem dL_validate_12 : decode cL_validate 12 = .ok (.i2l, 1) := by decide +kernel
theorem dL_validate_13 : decode cL_validate 13 = .ok (.lastore, 1) := by decide +kernel
theorem dL_validate_14 : decode cL_validate 14 = .ok (.goto 7, 3) := by decide +kernel
theorem dL_validate_17 : decode cL_validate 17 = .ok (.astore 6, 2) := by decide +kernel
theorem dL_validate_19 : decode cL_validate 19 = .ok (.iconst 1, 1) := by decide +kernel
theorem dL_validate_20 : decode cL_validate 20 = .ok (.ireturn, 1) := by decide +kernel
