theorem dxT_run_0 : decode cxT_run 0 = .ok (.aload_n 0, 1) := by decide +kernel
theorem dxT_run_1 : decode cxT_run 1 = .ok (.getfield 21, 3) := by decide +kernel
theorem dxT_run_4 : decode cxT_run 4 = .ok (.iload_n 1, 1) := by decide +kernel
theorem dxT_run_5 : decode cxT_run 5 = .ok (.invokevirtual 93, 3) := by decide +kernel
theorem dxT_run_8 : decode cxT_run 8 = .ok (.ifCond .ne 5, 3) := by decide +kernel
theorem dxT_run_11 : decode cxT_run 11 = .ok (.iconst (-1), 1) := by decide +kernel
theorem dxT_run_12 : decode cxT_run 12 = .ok (.ireturn, 1) := by decide +kernel
theorem dxT_run_13 : decode cxT_run 13 = .ok (.aload_n 0, 1) := by decide +kernel
theorem dxT_run_14 : decode cxT_run 14 = .ok (.getfield 56, 3) := by decide +kernel
theorem dxT_run_17 : decode cxT_run 17 = .ok (.iload_n 2, 1) := by decide +kernel
theorem dxT_run_18 : decode cxT_run 18 = .ok (.iload_n 3, 1) := by decide +kernel
theorem dxT_run_19 : decode cxT_run 19 = .ok (.invokevirtual 96, 3) := by decide +kernel
theorem dxT_run_22 : decode cxT_run 22 = .ok (.aload_n 0, 1) := by decide +kernel
theorem dxT_run_23 : decode cxT_run 23 = .ok (.aconst_null, 1) := by decide +kernel
theorem dxT_run_24 : decode cxT_run 24 = .ok (.putfield 99, 3) := by decide +kernel
theorem dxT_run_27 : decode cxT_run 27 = .ok (.aload_n 0, 1) := by decide +kernel
theorem dxT_run_28 : decode cxT_run 28 = .ok (.aconst_null, 1) := by decide +kernel
theorem dxT_run_29 : decode cxT_run 29 = .ok (.putfield 103, 3) := by decide +kernel
theorem dxT_run_32 : decode cxT_run 32 = .ok (.aload_n 0, 1) := by decide +kernel
theorem dxT_run_33 : decode cxT_run 33 = .ok (.getfield 56, 3) := by decide +kernel
theorem dxT_run_36 : decode cxT_run 36 = .ok (.iload_n 1, 1) := by decide +kernel
theorem dxT_run_37 : decode cxT_run 37 = .ok (.aconst_null, 1) := by decide +kernel
theorem dxT_run_38 : decode cxT_run 38 = .ok (.invokevirtual 106, 3) := by decide +kernel
theorem dxT_run_41 : decode cxT_run 41 = .ok (.astore 4, 2) := by decide +kernel
theorem dxT_run_43 : decode cxT_run 43 = .ok (.aload 4, 2) := by decide +kernel
theorem dxT_run_45 : decode cxT_run 45 = .ok (.getstatic 110, 3) := by decide +kernel
theorem dxT_run_48 : decode cxT_run 48 = .ok (.if_acmp .ne 17, 3) := by decide +kernel
theorem dxT_run_51 : decode cxT_run 51 = .ok (.aload_n 0, 1) := by decide +kernel
theorem dxT_run_52 : decode cxT_run 52 = .ok (.aload_n 0, 1) := by decide +kernel
theorem dxT_run_53 : decode cxT_run 53 = .ok (.getfield 56, 3) := by decide +kernel
theorem dxT_run_56 : decode cxT_run 56 = .ok (.invokevirtual 116, 3) := by decide +kernel
theorem dxT_run_59 : decode cxT_run 59 = .ok (.invokevirtual 120, 3) := by decide +kernel
theorem dxT_run_62 : decode cxT_run 62 = .ok (.goto 9, 3) := by decide +kernel
theorem dxT_run_65 : decode cxT_run 65 = .ok (.aload 4, 2) := by decide +kernel
theorem dxT_run_67 : decode cxT_run 67 = .ok (.iconst 0, 1) := by decide +kernel
theorem dxT_run_68 : decode cxT_run 68 = .ok (.invokestatic 124, 3) := by decide +kernel
theorem dxT_run_71 : decode cxT_run 71 = .ok (.istore 5, 2) := by decide +kernel
theorem dxT_run_73 : decode cxT_run 73 = .ok (.aload 4, 2) := by decide +kernel
theorem dxT_run_75 : decode cxT_run 75 = .ok (.getstatic 128, 3) := by decide +kernel
theorem dxT_run_78 : decode cxT_run 78 = .ok (.if_acmp .eq 9, 3) := by decide +kernel
theorem dxT_run_81 : decode cxT_run 81 = .ok (.iload 5, 2) := by decide +kernel
theorem dxT_run_83 : decode cxT_run 83 = .ok (.iconst 4, 1) := by decide +kernel
theorem dxT_run_84 : decode cxT_run 84 = .ok (.if_icmp .ne 7, 3) := by decide +kernel
theorem dxT_run_87 : decode cxT_run 87 = .ok (.iconst 1, 1) := by decide +kernel
theorem dxT_run_88 : decode cxT_run 88 = .ok (.goto 4, 3) := by decide +kernel
theorem dxT_run_91 : decode cxT_run 91 = .ok (.iconst 0, 1) := by decide +kernel
theorem dxT_run_92 : decode cxT_run 92 = .ok (.istore 6, 2) := by decide +kernel
theorem dxT_run_94 : decode cxT_run 94 = .ok (.aload_n 0, 1) := by decide +kernel
theorem dxT_run_95 : decode cxT_run 95 = .ok (.iload 6, 2) := by decide +kernel
theorem dxT_run_97 : decode cxT_run 97 = .ok (.ifCond .eq 14, 3) := by decide +kernel
theorem dxT_run_100 : decode cxT_run 100 = .ok (.aload_n 0, 1) := by decide +kernel
theorem dxT_run_101 : decode cxT_run 101 = .ok (.getfield 56, 3) := by decide +kernel
theorem dxT_run_104 : decode cxT_run 104 = .ok (.invokevirtual 131, 3) := by decide +kernel
theorem dxT_run_107 : decode cxT_run 107 = .ok (.i2l, 1) := by decide +kernel
theorem dxT_run_108 : decode cxT_run 108 = .ok (.goto 6, 3) := by decide +kernel
theorem dxT_run_111 : decode cxT_run 111 = .ok (.ldc2_w 36, 3) := by decide +kernel
theorem dxT_run_114 : decode cxT_run 114 = .ok (.putfield 38, 3) := by decide +kernel
theorem dxT_run_117 : decode cxT_run 117 = .ok (.aload_n 0, 1) := by decide +kernel
theorem dxT_run_118 : decode cxT_run 118 = .ok (.getfield 28, 3) := by decide +kernel
theorem dxT_run_121 : decode cxT_run 121 = .ok (.iload 5, 2) := by decide +kernel
theorem dxT_run_123 : decode cxT_run 123 = .ok (.aload_n 0, 1) := by decide +kernel
theorem dxT_run_124 : decode cxT_run 124 = .ok (.getfield 38, 3) := by decide +kernel
theorem dxT_run_127 : decode cxT_run 127 = .ok (.aload_n 0, 1) := by decide +kernel
theorem dxT_run_128 : decode cxT_run 128 = .ok (.getfield 99, 3) := by decide +kernel
theorem dxT_run_131 : decode cxT_run 131 = .ok (.aload_n 0, 1) := by decide +kernel
theorem dxT_run_132 : decode cxT_run 132 = .ok (.getfield 103, 3) := by decide +kernel
theorem dxT_run_135 : decode cxT_run 135 = .ok (.invokevirtual 135, 3) := by decide +kernel
theorem dxT_run_138 : decode cxT_run 138 = .ok (.iload 5, 2) := by decide +kernel
theorem dxT_run_140 : decode cxT_run 140 = .ok (.ireturn, 1) := by decide +kernel
theorem dxT_report_0 : decode cxT_report 0 = .ok (.iload_n 1, 1) := by decide +kernel
theorem dxT_report_1 : decode cxT_report 1 = .ok (.iconst (-1), 1) := by decide +kernel
theorem dxT_report_2 : decode cxT_report 2 = .ok (.if_icmp .ne 11, 3) := by decide +kernel
theorem dxT_report_5 : decode cxT_report 5 = .ok (.aload_n 0, 1) := by decide +kernel
theorem dxT_report_6 : decode cxT_report 6 = .ok (.getfield 28, 3) := by decide +kernel
theorem dxT_report_9 : decode cxT_report 9 = .ok (.invokevirtual 175, 3) := by decide +kernel
theorem dxT_report_12 : decode cxT_report 12 = .ok (.ireturn, 1) := by decide +kernel
theorem dxT_report_13 : decode cxT_report 13 = .ok (.iload_n 1, 1) := by decide +kernel
theorem dxT_report_14 : decode cxT_report 14 = .ok (.ifCond .lt 25, 3) := by decide +kernel
theorem dxT_report_17 : decode cxT_report 17 = .ok (.iload_n 1, 1) := by decide +kernel
theorem dxT_report_18 : decode cxT_report 18 = .ok (.aload_n 0, 1) := by decide +kernel
theorem dxT_report_19 : decode cxT_report 19 = .ok (.getfield 28, 3) := by decide +kernel
theorem dxT_report_22 : decode cxT_report 22 = .ok (.invokevirtual 175, 3) := by decide +kernel
theorem dxT_report_25 : decode cxT_report 25 = .ok (.if_icmp .ge 14, 3) := by decide +kernel
theorem dxT_report_28 : decode cxT_report 28 = .ok (.aload_n 0, 1) := by decide +kernel
theorem dxT_report_29 : decode cxT_report 29 = .ok (.getfield 28, 3) := by decide +kernel
theorem dxT_report_32 : decode cxT_report 32 = .ok (.iload_n 1, 1) := by decide +kernel
theorem dxT_report_33 : decode cxT_report 33 = .ok (.invokevirtual 178, 3) := by decide +kernel
theorem dxT_report_36 : decode cxT_report 36 = .ok (.goto 4, 3) := by decide +kernel
theorem dxT_report_39 : decode cxT_report 39 = .ok (.iconst (-1), 1) := by decide +kernel
theorem dxT_report_40 : decode cxT_report 40 = .ok (.ireturn, 1) := by decide +kernel
theorem dxC_isOwn_0 : decode cxC_isOwn 0 = .ok (.iload_n 0, 1) := by decide +kernel
theorem dxC_isOwn_1 : decode cxC_isOwn 1 = .ok (.bipush 10, 2) := by decide +kernel
theorem dxC_isOwn_3 : decode cxC_isOwn 3 = .ok (.if_icmp .lt 7, 3) := by decide +kernel
theorem dxC_isOwn_6 : decode cxC_isOwn 6 = .ok (.iconst 1, 1) := by decide +kernel
theorem dxC_isOwn_7 : decode cxC_isOwn 7 = .ok (.goto 4, 3) := by decide +kernel
theorem dxC_isOwn_10 : decode cxC_isOwn 10 = .ok (.iconst 0, 1) := by decide +kernel
theorem dxC_isOwn_11 : decode cxC_isOwn 11 = .ok (.ireturn, 1) := by decide +kernel
theorem dxC_wordOf_0 : decode cxC_wordOf 0 = .ok (.iload_n 0, 1) := by decide +kernel
theorem dxC_wordOf_1 : decode cxC_wordOf 1 = .ok (.tableswitch 85 0 9 #[55, 58, 61, 64, 67, 70, 73, 76, 79, 82], 55) := by decide +kernel
theorem dxC_wordOf_56 : decode cxC_wordOf 56 = .ok (.ldc 30, 2) := by decide +kernel
theorem dxC_wordOf_58 : decode cxC_wordOf 58 = .ok (.areturn, 1) := by decide +kernel
theorem dxC_wordOf_59 : decode cxC_wordOf 59 = .ok (.ldc 32, 2) := by decide +kernel
theorem dxC_wordOf_61 : decode cxC_wordOf 61 = .ok (.areturn, 1) := by decide +kernel
theorem dxC_wordOf_62 : decode cxC_wordOf 62 = .ok (.ldc 34, 2) := by decide +kernel
theorem dxC_wordOf_64 : decode cxC_wordOf 64 = .ok (.areturn, 1) := by decide +kernel
theorem dxC_wordOf_65 : decode cxC_wordOf 65 = .ok (.ldc 36, 2) := by decide +kernel
theorem dxC_wordOf_67 : decode cxC_wordOf 67 = .ok (.areturn, 1) := by decide +kernel
theorem dxC_wordOf_68 : decode cxC_wordOf 68 = .ok (.ldc 38, 2) := by decide +kernel
theorem dxC_wordOf_70 : decode cxC_wordOf 70 = .ok (.areturn, 1) := by decide +kernel
theorem dxC_wordOf_71 : decode cxC_wordOf 71 = .ok (.ldc 40, 2) := by decide +kernel
theorem dxC_wordOf_73 : decode cxC_wordOf 73 = .ok (.areturn, 1) := by decide +kernel
theorem dxC_wordOf_74 : decode cxC_wordOf 74 = .ok (.ldc 42, 2) := by decide +kernel
theorem dxC_wordOf_76 : decode cxC_wordOf 76 = .ok (.areturn, 1) := by decide +kernel
theorem dxC_wordOf_77 : decode cxC_wordOf 77 = .ok (.ldc 44, 2) := by decide +kernel
theorem dxC_wordOf_79 : decode cxC_wordOf 79 = .ok (.areturn, 1) := by decide +kernel
theorem dxC_wordOf_80 : decode cxC_wordOf 80 = .ok (.ldc 46, 2) := by decide +kernel
theorem dxC_wordOf_82 : decode cxC_wordOf 82 = .ok (.areturn, 1) := by decide +kernel
theorem dxC_wordOf_83 : decode cxC_wordOf 83 = .ok (.ldc 48, 2) := by decide +kernel
theorem dxC_wordOf_85 : decode cxC_wordOf 85 = .ok (.areturn, 1) := by decide +kernel
theorem dxC_wordOf_86 : decode cxC_wordOf 86 = .ok (.ldc 50, 2) := by decide +kernel
theorem dxC_wordOf_88 : decode cxC_wordOf 88 = .ok (.areturn, 1) := by decide +kernel
theorem dxR_length_0 : decode cxR_length 0 = .ok (.aload_n 0, 1) := by decide +kernel
theorem dxR_length_1 : decode cxR_length 1 = .ok (.getfield 12, 3) := by decide +kernel
theorem dxR_length_4 : decode cxR_length 4 = .ok (.invokevirtual 18, 3) := by decide +kernel
theorem dxR_length_7 : decode cxR_length 7 = .ok (.ireturn, 1) := by decide +kernel
theorem dxR_characterAt_0 : decode cxR_characterAt 0 = .ok (.aload_n 0, 1) := by decide +kernel
theorem dxR_characterAt_1 : decode cxR_characterAt 1 = .ok (.getfield 12, 3) := by decide +kernel
theorem dxR_characterAt_4 : decode cxR_characterAt 4 = .ok (.iload_n 1, 1) := by decide +kernel
theorem dxR_characterAt_5 : decode cxR_characterAt 5 = .ok (.invokevirtual 22, 3) := by decide +kernel
theorem dxR_characterAt_8 : decode cxR_characterAt 8 = .ok (.ireturn, 1) := by decide +kernel
theorem dxR_write_0 : decode cxR_write 0 = .ok (.aload_n 0, 1) := by decide +kernel
theorem dxR_write_1 : decode cxR_write 1 = .ok (.getfield 12, 3) := by decide +kernel
theorem dxR_write_4 : decode cxR_write 4 = .ok (.iconst 0, 1) := by decide +kernel
theorem dxR_write_5 : decode cxR_write 5 = .ok (.invokevirtual 26, 3) := by decide +kernel
theorem dxR_write_8 : decode cxR_write 8 = .ok (.aload_n 0, 1) := by decide +kernel
theorem dxR_write_9 : decode cxR_write 9 = .ok (.getfield 12, 3) := by decide +kernel
theorem dxR_write_12 : decode cxR_write 12 = .ok (.iload_n 1, 1) := by decide +kernel
theorem dxR_write_13 : decode cxR_write 13 = .ok (.invokestatic 30, 3) := by decide +kernel
theorem dxR_write_16 : decode cxR_write 16 = .ok (.invokevirtual 34, 3) := by decide +kernel
theorem dxR_write_19 : decode cxR_write 19 = .ok (.pop, 1) := by decide +kernel
theorem dxR_write_20 : decode cxR_write 20 = .ok (.lload_n 2, 1) := by decide +kernel
theorem dxR_write_21 : decode cxR_write 21 = .ok (.ldc2_w 38, 3) := by decide +kernel
theorem dxR_write_24 : decode cxR_write 24 = .ok (.lcmp, 1) := by decide +kernel
theorem dxR_write_25 : decode cxR_write 25 = .ok (.ifCond .eq 18, 3) := by decide +kernel
theorem dxR_write_28 : decode cxR_write 28 = .ok (.aload_n 0, 1) := by decide +kernel
theorem dxR_write_29 : decode cxR_write 29 = .ok (.getfield 12, 3) := by decide +kernel
theorem dxR_write_32 : decode cxR_write 32 = .ok (.bipush 32, 2) := by decide +kernel
theorem dxR_write_34 : decode cxR_write 34 = .ok (.invokevirtual 40, 3) := by decide +kernel
theorem dxR_write_37 : decode cxR_write 37 = .ok (.lload_n 2, 1) := by decide +kernel
theorem dxR_write_38 : decode cxR_write 38 = .ok (.l2i, 1) := by decide +kernel
theorem dxR_write_39 : decode cxR_write 39 = .ok (.invokevirtual 43, 3) := by decide +kernel
theorem dxR_write_42 : decode cxR_write 42 = .ok (.pop, 1) := by decide +kernel
theorem dxR_write_43 : decode cxR_write 43 = .ok (.aload 4, 2) := by decide +kernel
theorem dxR_write_45 : decode cxR_write 45 = .ok (.ifnull 9, 3) := by decide +kernel
theorem dxR_write_48 : decode cxR_write 48 = .ok (.aload_n 0, 1) := by decide +kernel
theorem dxR_write_49 : decode cxR_write 49 = .ok (.aload 4, 2) := by decide +kernel
theorem dxR_write_51 : decode cxR_write 51 = .ok (.invokevirtual 46, 3) := by decide +kernel
theorem dxR_write_54 : decode cxR_write 54 = .ok (.aload 5, 2) := by decide +kernel
theorem dxR_write_56 : decode cxR_write 56 = .ok (.ifnull 19, 3) := by decide +kernel
theorem dxR_write_59 : decode cxR_write 59 = .ok (.aload_n 0, 1) := by decide +kernel
theorem dxR_write_60 : decode cxR_write 60 = .ok (.getfield 12, 3) := by decide +kernel
theorem dxR_write_63 : decode cxR_write 63 = .ok (.ldc 50, 2) := by decide +kernel
theorem dxR_write_65 : decode cxR_write 65 = .ok (.invokevirtual 34, 3) := by decide +kernel
theorem dxR_write_68 : decode cxR_write 68 = .ok (.pop, 1) := by decide +kernel
theorem dxR_write_69 : decode cxR_write 69 = .ok (.aload_n 0, 1) := by decide +kernel
theorem dxR_write_70 : decode cxR_write 70 = .ok (.aload 5, 2) := by decide +kernel
theorem dxR_write_72 : decode cxR_write 72 = .ok (.invokevirtual 52, 3) := by decide +kernel
theorem dxR_write_75 : decode cxR_write 75 = .ok (.aload_n 0, 1) := by decide +kernel
theorem dxR_write_76 : decode cxR_write 76 = .ok (.getfield 12, 3) := by decide +kernel
theorem dxR_write_79 : decode cxR_write 79 = .ok (.invokevirtual 18, 3) := by decide +kernel
theorem dxR_write_82 : decode cxR_write 82 = .ok (.bipush 120, 2) := by decide +kernel
theorem dxR_write_84 : decode cxR_write 84 = .ok (.if_icmp .le 12, 3) := by decide +kernel
theorem dxR_write_87 : decode cxR_write 87 = .ok (.aload_n 0, 1) := by decide +kernel
theorem dxR_write_88 : decode cxR_write 88 = .ok (.getfield 12, 3) := by decide +kernel
theorem dxR_write_91 : decode cxR_write 91 = .ok (.bipush 120, 2) := by decide +kernel
theorem dxR_write_93 : decode cxR_write 93 = .ok (.invokevirtual 26, 3) := by decide +kernel
theorem dxR_write_96 : decode cxR_write 96 = .ok (.return_, 1) := by decide +kernel
theorem dxR_wordsOf_0 : decode cxR_wordsOf 0 = .ok (.iload_n 0, 1) := by decide +kernel
theorem dxR_wordsOf_1 : decode cxR_wordsOf 1 = .ok (.tableswitch 50 1 5 #[35, 38, 41, 44, 47], 35) := by decide +kernel
theorem dxR_wordsOf_36 : decode cxR_wordsOf 36 = .ok (.ldc 55, 2) := by decide +kernel
theorem dxR_wordsOf_38 : decode cxR_wordsOf 38 = .ok (.areturn, 1) := by decide +kernel
theorem dxR_wordsOf_39 : decode cxR_wordsOf 39 = .ok (.ldc 57, 2) := by decide +kernel
theorem dxR_wordsOf_41 : decode cxR_wordsOf 41 = .ok (.areturn, 1) := by decide +kernel
theorem dxR_wordsOf_42 : decode cxR_wordsOf 42 = .ok (.ldc 59, 2) := by decide +kernel
theorem dxR_wordsOf_44 : decode cxR_wordsOf 44 = .ok (.areturn, 1) := by decide +kernel
theorem dxR_wordsOf_45 : decode cxR_wordsOf 45 = .ok (.ldc 61, 2) := by decide +kernel
theorem dxR_wordsOf_47 : decode cxR_wordsOf 47 = .ok (.areturn, 1) := by decide +kernel
theorem dxR_wordsOf_48 : decode cxR_wordsOf 48 = .ok (.ldc 63, 2) := by decide +kernel
theorem dxR_wordsOf_50 : decode cxR_wordsOf 50 = .ok (.areturn, 1) := by decide +kernel
theorem dxR_wordsOf_51 : decode cxR_wordsOf 51 = .ok (.ldc 65, 2) := by decide +kernel
theorem dxR_wordsOf_53 : decode cxR_wordsOf 53 = .ok (.areturn, 1) := by decide +kernel
theorem dxR_addChain_0 : decode cxR_addChain 0 = .ok (.aload_n 0, 1) := by decide +kernel
theorem dxR_addChain_1 : decode cxR_addChain 1 = .ok (.getfield 12, 3) := by decide +kernel
theorem dxR_addChain_4 : decode cxR_addChain 4 = .ok (.bipush 32, 2) := by decide +kernel
theorem dxR_addChain_6 : decode cxR_addChain 6 = .ok (.invokevirtual 40, 3) := by decide +kernel
theorem dxR_addChain_9 : decode cxR_addChain 9 = .ok (.pop, 1) := by decide +kernel
theorem dxR_addChain_10 : decode cxR_addChain 10 = .ok (.aload_n 0, 1) := by decide +kernel
theorem dxR_addChain_11 : decode cxR_addChain 11 = .ok (.aload_n 1, 1) := by decide +kernel
theorem dxR_addChain_12 : decode cxR_addChain 12 = .ok (.invokevirtual 52, 3) := by decide +kernel
theorem dxR_addChain_15 : decode cxR_addChain 15 = .ok (.aload_n 1, 1) := by decide +kernel
theorem dxR_addChain_16 : decode cxR_addChain 16 = .ok (.getfield 67, 3) := by decide +kernel
theorem dxR_addChain_19 : decode cxR_addChain 19 = .ok (.astore_n 2, 1) := by decide +kernel
theorem dxR_addChain_20 : decode cxR_addChain 20 = .ok (.aload_n 2, 1) := by decide +kernel
theorem dxR_addChain_21 : decode cxR_addChain 21 = .ok (.ifnull 38, 3) := by decide +kernel
theorem dxR_addChain_24 : decode cxR_addChain 24 = .ok (.aload_n 0, 1) := by decide +kernel
theorem dxR_addChain_25 : decode cxR_addChain 25 = .ok (.getfield 12, 3) := by decide +kernel
theorem dxR_addChain_28 : decode cxR_addChain 28 = .ok (.invokevirtual 18, 3) := by decide +kernel
theorem dxR_addChain_31 : decode cxR_addChain 31 = .ok (.bipush 120, 2) := by decide +kernel
theorem dxR_addChain_33 : decode cxR_addChain 33 = .ok (.if_icmp .ge 26, 3) := by decide +kernel
theorem dxR_addChain_36 : decode cxR_addChain 36 = .ok (.aload_n 0, 1) := by decide +kernel
theorem dxR_addChain_37 : decode cxR_addChain 37 = .ok (.getfield 12, 3) := by decide +kernel
theorem dxR_addChain_40 : decode cxR_addChain 40 = .ok (.ldc 73, 2) := by decide +kernel
theorem dxR_addChain_42 : decode cxR_addChain 42 = .ok (.invokevirtual 34, 3) := by decide +kernel
theorem dxR_addChain_45 : decode cxR_addChain 45 = .ok (.pop, 1) := by decide +kernel
theorem dxR_addChain_46 : decode cxR_addChain 46 = .ok (.aload_n 0, 1) := by decide +kernel
theorem dxR_addChain_47 : decode cxR_addChain 47 = .ok (.aload_n 2, 1) := by decide +kernel
theorem dxR_addChain_48 : decode cxR_addChain 48 = .ok (.invokevirtual 52, 3) := by decide +kernel
theorem dxR_addChain_51 : decode cxR_addChain 51 = .ok (.aload_n 2, 1) := by decide +kernel
theorem dxR_addChain_52 : decode cxR_addChain 52 = .ok (.getfield 67, 3) := by decide +kernel
theorem dxR_addChain_55 : decode cxR_addChain 55 = .ok (.astore_n 2, 1) := by decide +kernel
theorem dxR_addChain_56 : decode cxR_addChain 56 = .ok (.goto (-36), 3) := by decide +kernel
theorem dxR_addChain_59 : decode cxR_addChain 59 = .ok (.return_, 1) := by decide +kernel
theorem dxR_addName_0 : decode cxR_addName 0 = .ok (.aload_n 0, 1) := by decide +kernel
theorem dxR_addName_1 : decode cxR_addName 1 = .ok (.getfield 12, 3) := by decide +kernel
theorem dxR_addName_4 : decode cxR_addName 4 = .ok (.aload_n 1, 1) := by decide +kernel
theorem dxR_addName_5 : decode cxR_addName 5 = .ok (.getfield 75, 3) := by decide +kernel
theorem dxR_addName_8 : decode cxR_addName 8 = .ok (.invokestatic 79, 3) := by decide +kernel
theorem dxR_addName_11 : decode cxR_addName 11 = .ok (.invokevirtual 34, 3) := by decide +kernel
theorem dxR_addName_14 : decode cxR_addName 14 = .ok (.pop, 1) := by decide +kernel
theorem dxR_addName_15 : decode cxR_addName 15 = .ok (.aload_n 1, 1) := by decide +kernel
theorem dxR_addName_16 : decode cxR_addName 16 = .ok (.getfield 75, 3) := by decide +kernel
theorem dxR_addName_19 : decode cxR_addName 19 = .ok (.invokestatic 84, 3) := by decide +kernel
theorem dxR_addName_22 : decode cxR_addName 22 = .ok (.ifCond .eq 15, 3) := by decide +kernel
theorem dxR_addName_25 : decode cxR_addName 25 = .ok (.aload_n 0, 1) := by decide +kernel
theorem dxR_addName_26 : decode cxR_addName 26 = .ok (.getfield 12, 3) := by decide +kernel
theorem dxR_addName_29 : decode cxR_addName 29 = .ok (.aload_n 1, 1) := by decide +kernel
theorem dxR_addName_30 : decode cxR_addName 30 = .ok (.getfield 75, 3) := by decide +kernel
theorem dxR_addName_33 : decode cxR_addName 33 = .ok (.invokevirtual 43, 3) := by decide +kernel
theorem dxR_addName_36 : decode cxR_addName 36 = .ok (.pop, 1) := by decide +kernel
theorem dxR_addName_37 : decode cxR_addName 37 = .ok (.aload_n 0, 1) := by decide +kernel
theorem dxR_addName_38 : decode cxR_addName 38 = .ok (.getfield 12, 3) := by decide +kernel
theorem dxR_addName_41 : decode cxR_addName 41 = .ok (.bipush 40, 2) := by decide +kernel
theorem dxR_addName_43 : decode cxR_addName 43 = .ok (.invokevirtual 40, 3) := by decide +kernel
theorem dxR_addName_46 : decode cxR_addName 46 = .ok (.aload_n 1, 1) := by decide +kernel
theorem dxR_addName_47 : decode cxR_addName 47 = .ok (.getfield 88, 3) := by decide +kernel
theorem dxR_addName_50 : decode cxR_addName 50 = .ok (.invokevirtual 43, 3) := by decide +kernel
theorem dxR_addName_53 : decode cxR_addName 53 = .ok (.bipush 41, 2) := by decide +kernel
theorem dxR_addName_55 : decode cxR_addName 55 = .ok (.invokevirtual 40, 3) := by decide +kernel
theorem dxR_addName_58 : decode cxR_addName 58 = .ok (.pop, 1) := by decide +kernel
theorem dxR_addName_59 : decode cxR_addName 59 = .ok (.aload_n 1, 1) := by decide +kernel
theorem dxR_addName_60 : decode cxR_addName 60 = .ok (.getfield 91, 3) := by decide +kernel
theorem dxR_addName_63 : decode cxR_addName 63 = .ok (.ifCond .le 20, 3) := by decide +kernel
theorem dxR_addName_66 : decode cxR_addName 66 = .ok (.aload_n 0, 1) := by decide +kernel
theorem dxR_addName_67 : decode cxR_addName 67 = .ok (.getfield 12, 3) := by decide +kernel
theorem dxR_addName_70 : decode cxR_addName 70 = .ok (.bipush 43, 2) := by decide +kernel
theorem dxR_addName_72 : decode cxR_addName 72 = .ok (.invokevirtual 40, 3) := by decide +kernel
theorem dxR_addName_75 : decode cxR_addName 75 = .ok (.aload_n 1, 1) := by decide +kernel
theorem dxR_addName_76 : decode cxR_addName 76 = .ok (.getfield 91, 3) := by decide +kernel
theorem dxR_addName_79 : decode cxR_addName 79 = .ok (.invokevirtual 43, 3) := by decide +kernel
theorem dxR_addName_82 : decode cxR_addName 82 = .ok (.pop, 1) := by decide +kernel
theorem dxR_addName_83 : decode cxR_addName 83 = .ok (.return_, 1) := by decide +kernel
