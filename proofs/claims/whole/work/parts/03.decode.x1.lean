theorem dxC_size_0 : decode cxC_size 0 = .ok (.aload_n 0, 1) := by decide +kernel
theorem dxC_size_1 : decode cxC_size 1 = .ok (.getfield 13, 3) := by decide +kernel
theorem dxC_size_4 : decode cxC_size 4 = .ok (.ireturn, 1) := by decide +kernel
theorem dxC_has_0 : decode cxC_has 0 = .ok (.iload_n 1, 1) := by decide +kernel
theorem dxC_has_1 : decode cxC_has 1 = .ok (.ifCond .lt 15, 3) := by decide +kernel
theorem dxC_has_4 : decode cxC_has 4 = .ok (.iload_n 1, 1) := by decide +kernel
theorem dxC_has_5 : decode cxC_has 5 = .ok (.aload_n 0, 1) := by decide +kernel
theorem dxC_has_6 : decode cxC_has 6 = .ok (.getfield 13, 3) := by decide +kernel
theorem dxC_has_9 : decode cxC_has 9 = .ok (.if_icmp .ge 7, 3) := by decide +kernel
theorem dxC_has_12 : decode cxC_has 12 = .ok (.iconst 1, 1) := by decide +kernel
theorem dxC_has_13 : decode cxC_has 13 = .ok (.goto 4, 3) := by decide +kernel
theorem dxC_has_16 : decode cxC_has 16 = .ok (.iconst 0, 1) := by decide +kernel
theorem dxC_has_17 : decode cxC_has 17 = .ok (.ireturn, 1) := by decide +kernel
theorem dxC_isFull_0 : decode cxC_isFull 0 = .ok (.aload_n 0, 1) := by decide +kernel
theorem dxC_isFull_1 : decode cxC_isFull 1 = .ok (.getfield 13, 3) := by decide +kernel
theorem dxC_isFull_4 : decode cxC_isFull 4 = .ok (.bipush 16, 2) := by decide +kernel
theorem dxC_isFull_6 : decode cxC_isFull 6 = .ok (.if_icmp .ne 7, 3) := by decide +kernel
theorem dxC_isFull_9 : decode cxC_isFull 9 = .ok (.iconst 1, 1) := by decide +kernel
theorem dxC_isFull_10 : decode cxC_isFull 10 = .ok (.goto 4, 3) := by decide +kernel
theorem dxC_isFull_13 : decode cxC_isFull 13 = .ok (.iconst 0, 1) := by decide +kernel
theorem dxC_isFull_14 : decode cxC_isFull 14 = .ok (.ireturn, 1) := by decide +kernel
theorem dxC_is_0 : decode cxC_is 0 = .ok (.iload_n 1, 1) := by decide +kernel
theorem dxC_is_1 : decode cxC_is 1 = .ok (.istore_n 3, 1) := by decide +kernel
theorem dxC_is_2 : decode cxC_is 2 = .ok (.iconst 0, 1) := by decide +kernel
theorem dxC_is_3 : decode cxC_is 3 = .ok (.istore 4, 2) := by decide +kernel
theorem dxC_is_5 : decode cxC_is 5 = .ok (.iload 4, 2) := by decide +kernel
theorem dxC_is_7 : decode cxC_is 7 = .ok (.bipush 16, 2) := by decide +kernel
theorem dxC_is_9 : decode cxC_is 9 = .ok (.if_icmp .ge 29, 3) := by decide +kernel
theorem dxC_is_12 : decode cxC_is 12 = .ok (.aload_n 0, 1) := by decide +kernel
theorem dxC_is_13 : decode cxC_is 13 = .ok (.iload_n 3, 1) := by decide +kernel
theorem dxC_is_14 : decode cxC_is 14 = .ok (.invokevirtual 26, 3) := by decide +kernel
theorem dxC_is_17 : decode cxC_is 17 = .ok (.ifCond .eq 21, 3) := by decide +kernel
theorem dxC_is_20 : decode cxC_is 20 = .ok (.iload_n 3, 1) := by decide +kernel
theorem dxC_is_21 : decode cxC_is 21 = .ok (.iload_n 2, 1) := by decide +kernel
theorem dxC_is_22 : decode cxC_is 22 = .ok (.if_icmp .eq 16, 3) := by decide +kernel
theorem dxC_is_25 : decode cxC_is 25 = .ok (.aload_n 0, 1) := by decide +kernel
theorem dxC_is_26 : decode cxC_is 26 = .ok (.getfield 9, 3) := by decide +kernel
theorem dxC_is_29 : decode cxC_is 29 = .ok (.iload_n 3, 1) := by decide +kernel
theorem dxC_is_30 : decode cxC_is 30 = .ok (.iaload, 1) := by decide +kernel
theorem dxC_is_31 : decode cxC_is 31 = .ok (.istore_n 3, 1) := by decide +kernel
theorem dxC_is_32 : decode cxC_is 32 = .ok (.iinc 4 1, 3) := by decide +kernel
theorem dxC_is_35 : decode cxC_is 35 = .ok (.goto (-30), 3) := by decide +kernel
theorem dxC_is_38 : decode cxC_is 38 = .ok (.iload_n 3, 1) := by decide +kernel
theorem dxC_is_39 : decode cxC_is 39 = .ok (.iload_n 2, 1) := by decide +kernel
theorem dxC_is_40 : decode cxC_is 40 = .ok (.if_icmp .ne 7, 3) := by decide +kernel
theorem dxC_is_43 : decode cxC_is 43 = .ok (.iconst 1, 1) := by decide +kernel
theorem dxC_is_44 : decode cxC_is 44 = .ok (.goto 4, 3) := by decide +kernel
theorem dxC_is_47 : decode cxC_is 47 = .ok (.iconst 0, 1) := by decide +kernel
theorem dxC_is_48 : decode cxC_is 48 = .ok (.ireturn, 1) := by decide +kernel
theorem dxM_prepare_0 : decode cxM_prepare 0 = .ok (.aload_n 0, 1) := by decide +kernel
theorem dxM_prepare_1 : decode cxM_prepare 1 = .ok (.getfield 11, 3) := by decide +kernel
theorem dxM_prepare_4 : decode cxM_prepare 4 = .ok (.iconst 0, 1) := by decide +kernel
theorem dxM_prepare_5 : decode cxM_prepare 5 = .ok (.iload_n 1, 1) := by decide +kernel
theorem dxM_prepare_6 : decode cxM_prepare 6 = .ok (.iastore, 1) := by decide +kernel
theorem dxM_prepare_7 : decode cxM_prepare 7 = .ok (.aload_n 0, 1) := by decide +kernel
theorem dxM_prepare_8 : decode cxM_prepare 8 = .ok (.getfield 11, 3) := by decide +kernel
theorem dxM_prepare_11 : decode cxM_prepare 11 = .ok (.iconst 1, 1) := by decide +kernel
theorem dxM_prepare_12 : decode cxM_prepare 12 = .ok (.iload_n 2, 1) := by decide +kernel
theorem dxM_prepare_13 : decode cxM_prepare 13 = .ok (.iastore, 1) := by decide +kernel
theorem dxM_prepare_14 : decode cxM_prepare 14 = .ok (.aload_n 0, 1) := by decide +kernel
theorem dxM_prepare_15 : decode cxM_prepare 15 = .ok (.getfield 11, 3) := by decide +kernel
theorem dxM_prepare_18 : decode cxM_prepare 18 = .ok (.iconst 2, 1) := by decide +kernel
theorem dxM_prepare_19 : decode cxM_prepare 19 = .ok (.iconst 0, 1) := by decide +kernel
theorem dxM_prepare_20 : decode cxM_prepare 20 = .ok (.iastore, 1) := by decide +kernel
theorem dxM_prepare_21 : decode cxM_prepare 21 = .ok (.aload_n 0, 1) := by decide +kernel
theorem dxM_prepare_22 : decode cxM_prepare 22 = .ok (.getfield 11, 3) := by decide +kernel
theorem dxM_prepare_25 : decode cxM_prepare 25 = .ok (.iconst 3, 1) := by decide +kernel
theorem dxM_prepare_26 : decode cxM_prepare 26 = .ok (.iconst 0, 1) := by decide +kernel
theorem dxM_prepare_27 : decode cxM_prepare 27 = .ok (.iastore, 1) := by decide +kernel
theorem dxM_prepare_28 : decode cxM_prepare 28 = .ok (.aload_n 0, 1) := by decide +kernel
theorem dxM_prepare_29 : decode cxM_prepare 29 = .ok (.getfield 17, 3) := by decide +kernel
theorem dxM_prepare_32 : decode cxM_prepare 32 = .ok (.iconst 0, 1) := by decide +kernel
theorem dxM_prepare_33 : decode cxM_prepare 33 = .ok (.iconst 0, 1) := by decide +kernel
theorem dxM_prepare_34 : decode cxM_prepare 34 = .ok (.iastore, 1) := by decide +kernel
theorem dxM_prepare_35 : decode cxM_prepare 35 = .ok (.aload_n 0, 1) := by decide +kernel
theorem dxM_prepare_36 : decode cxM_prepare 36 = .ok (.getfield 17, 3) := by decide +kernel
theorem dxM_prepare_39 : decode cxM_prepare 39 = .ok (.iconst 1, 1) := by decide +kernel
theorem dxM_prepare_40 : decode cxM_prepare 40 = .ok (.iconst 0, 1) := by decide +kernel
theorem dxM_prepare_41 : decode cxM_prepare 41 = .ok (.iastore, 1) := by decide +kernel
theorem dxM_prepare_42 : decode cxM_prepare 42 = .ok (.aload_n 0, 1) := by decide +kernel
theorem dxM_prepare_43 : decode cxM_prepare 43 = .ok (.iconst 0, 1) := by decide +kernel
theorem dxM_prepare_44 : decode cxM_prepare 44 = .ok (.putfield 29, 3) := by decide +kernel
theorem dxM_prepare_47 : decode cxM_prepare 47 = .ok (.aload_n 0, 1) := by decide +kernel
theorem dxM_prepare_48 : decode cxM_prepare 48 = .ok (.iconst 0, 1) := by decide +kernel
theorem dxM_prepare_49 : decode cxM_prepare 49 = .ok (.putfield 33, 3) := by decide +kernel
theorem dxM_prepare_52 : decode cxM_prepare 52 = .ok (.aload_n 0, 1) := by decide +kernel
theorem dxM_prepare_53 : decode cxM_prepare 53 = .ok (.iconst 0, 1) := by decide +kernel
theorem dxM_prepare_54 : decode cxM_prepare 54 = .ok (.putfield 36, 3) := by decide +kernel
theorem dxM_prepare_57 : decode cxM_prepare 57 = .ok (.aload_n 0, 1) := by decide +kernel
theorem dxM_prepare_58 : decode cxM_prepare 58 = .ok (.iconst 0, 1) := by decide +kernel
theorem dxM_prepare_59 : decode cxM_prepare 59 = .ok (.putfield 39, 3) := by decide +kernel
theorem dxM_prepare_62 : decode cxM_prepare 62 = .ok (.aload_n 0, 1) := by decide +kernel
theorem dxM_prepare_63 : decode cxM_prepare 63 = .ok (.iconst 0, 1) := by decide +kernel
theorem dxM_prepare_64 : decode cxM_prepare 64 = .ok (.putfield 42, 3) := by decide +kernel
theorem dxM_prepare_67 : decode cxM_prepare 67 = .ok (.aload_n 0, 1) := by decide +kernel
theorem dxM_prepare_68 : decode cxM_prepare 68 = .ok (.iconst 0, 1) := by decide +kernel
theorem dxM_prepare_69 : decode cxM_prepare 69 = .ok (.putfield 45, 3) := by decide +kernel
theorem dxM_prepare_72 : decode cxM_prepare 72 = .ok (.return_, 1) := by decide +kernel
theorem dxM_variableAt_0 : decode cxM_variableAt 0 = .ok (.aload_n 0, 1) := by decide +kernel
theorem dxM_variableAt_1 : decode cxM_variableAt 1 = .ok (.getfield 11, 3) := by decide +kernel
theorem dxM_variableAt_4 : decode cxM_variableAt 4 = .ok (.iload_n 1, 1) := by decide +kernel
theorem dxM_variableAt_5 : decode cxM_variableAt 5 = .ok (.iaload, 1) := by decide +kernel
theorem dxM_variableAt_6 : decode cxM_variableAt 6 = .ok (.ireturn, 1) := by decide +kernel
theorem dxM_tally_0 : decode cxM_tally 0 = .ok (.iload_n 1, 1) := by decide +kernel
theorem dxM_tally_1 : decode cxM_tally 1 = .ok (.tableswitch 91 2 9 #[47, 52, 57, 62, 67, 72, 77, 84], 47) := by decide +kernel
theorem dxM_tally_48 : decode cxM_tally 48 = .ok (.aload_n 0, 1) := by decide +kernel
theorem dxM_tally_49 : decode cxM_tally 49 = .ok (.getfield 36, 3) := by decide +kernel
theorem dxM_tally_52 : decode cxM_tally 52 = .ok (.ireturn, 1) := by decide +kernel
theorem dxM_tally_53 : decode cxM_tally 53 = .ok (.aload_n 0, 1) := by decide +kernel
theorem dxM_tally_54 : decode cxM_tally 54 = .ok (.getfield 33, 3) := by decide +kernel
theorem dxM_tally_57 : decode cxM_tally 57 = .ok (.ireturn, 1) := by decide +kernel
theorem dxM_tally_58 : decode cxM_tally 58 = .ok (.aload_n 0, 1) := by decide +kernel
theorem dxM_tally_59 : decode cxM_tally 59 = .ok (.getfield 39, 3) := by decide +kernel
theorem dxM_tally_62 : decode cxM_tally 62 = .ok (.ireturn, 1) := by decide +kernel
theorem dxM_tally_63 : decode cxM_tally 63 = .ok (.aload_n 0, 1) := by decide +kernel
theorem dxM_tally_64 : decode cxM_tally 64 = .ok (.getfield 42, 3) := by decide +kernel
theorem dxM_tally_67 : decode cxM_tally 67 = .ok (.ireturn, 1) := by decide +kernel
theorem dxM_tally_68 : decode cxM_tally 68 = .ok (.aload_n 0, 1) := by decide +kernel
theorem dxM_tally_69 : decode cxM_tally 69 = .ok (.getfield 45, 3) := by decide +kernel
theorem dxM_tally_72 : decode cxM_tally 72 = .ok (.ireturn, 1) := by decide +kernel
theorem dxM_tally_73 : decode cxM_tally 73 = .ok (.aload_n 0, 1) := by decide +kernel
theorem dxM_tally_74 : decode cxM_tally 74 = .ok (.getfield 29, 3) := by decide +kernel
theorem dxM_tally_77 : decode cxM_tally 77 = .ok (.ireturn, 1) := by decide +kernel
theorem dxM_tally_78 : decode cxM_tally 78 = .ok (.aload_n 0, 1) := by decide +kernel
theorem dxM_tally_79 : decode cxM_tally 79 = .ok (.getfield 17, 3) := by decide +kernel
theorem dxM_tally_82 : decode cxM_tally 82 = .ok (.iconst 0, 1) := by decide +kernel
theorem dxM_tally_83 : decode cxM_tally 83 = .ok (.iaload, 1) := by decide +kernel
theorem dxM_tally_84 : decode cxM_tally 84 = .ok (.ireturn, 1) := by decide +kernel
theorem dxM_tally_85 : decode cxM_tally 85 = .ok (.aload_n 0, 1) := by decide +kernel
theorem dxM_tally_86 : decode cxM_tally 86 = .ok (.getfield 17, 3) := by decide +kernel
theorem dxM_tally_89 : decode cxM_tally 89 = .ok (.iconst 1, 1) := by decide +kernel
theorem dxM_tally_90 : decode cxM_tally 90 = .ok (.iaload, 1) := by decide +kernel
theorem dxM_tally_91 : decode cxM_tally 91 = .ok (.ireturn, 1) := by decide +kernel
theorem dxM_tally_92 : decode cxM_tally 92 = .ok (.iconst (-1), 1) := by decide +kernel
theorem dxM_tally_93 : decode cxM_tally 93 = .ok (.ireturn, 1) := by decide +kernel
theorem dxM_logSize_0 : decode cxM_logSize 0 = .ok (.aload_n 0, 1) := by decide +kernel
theorem dxM_logSize_1 : decode cxM_logSize 1 = .ok (.getfield 29, 3) := by decide +kernel
theorem dxM_logSize_4 : decode cxM_logSize 4 = .ok (.ireturn, 1) := by decide +kernel
theorem dxM_logAt_0 : decode cxM_logAt 0 = .ok (.aload_n 0, 1) := by decide +kernel
theorem dxM_logAt_1 : decode cxM_logAt 1 = .ok (.getfield 20, 3) := by decide +kernel
theorem dxM_logAt_4 : decode cxM_logAt 4 = .ok (.iload_n 1, 1) := by decide +kernel
theorem dxM_logAt_5 : decode cxM_logAt 5 = .ok (.iaload, 1) := by decide +kernel
theorem dxM_logAt_6 : decode cxM_logAt 6 = .ok (.ireturn, 1) := by decide +kernel
theorem dxM_carried_0 : decode cxM_carried 0 = .ok (.aload_n 0, 1) := by decide +kernel
theorem dxM_carried_1 : decode cxM_carried 1 = .ok (.getfield 48, 3) := by decide +kernel
theorem dxM_carried_4 : decode cxM_carried 4 = .ok (.ireturn, 1) := by decide +kernel
theorem dxM_thrown_0 : decode cxM_thrown 0 = .ok (.aload_n 0, 1) := by decide +kernel
theorem dxM_thrown_1 : decode cxM_thrown 1 = .ok (.getfield 63, 3) := by decide +kernel
theorem dxM_thrown_4 : decode cxM_thrown 4 = .ok (.areturn, 1) := by decide +kernel
theorem dxM_perform_0 : decode cxM_perform 0 = .ok (.aload_n 0, 1) := by decide +kernel
theorem dxM_perform_1 : decode cxM_perform 1 = .ok (.invokevirtual 75, 3) := by decide +kernel
theorem dxM_perform_4 : decode cxM_perform 4 = .ok (.ifCond .ne 7, 3) := by decide +kernel
theorem dxM_perform_7 : decode cxM_perform 7 = .ok (.getstatic 79, 3) := by decide +kernel
theorem dxM_perform_10 : decode cxM_perform 10 = .ok (.areturn, 1) := by decide +kernel
theorem dxM_perform_11 : decode cxM_perform 11 = .ok (.aload_n 0, 1) := by decide +kernel
theorem dxM_perform_12 : decode cxM_perform 12 = .ok (.dup, 1) := by decide +kernel
theorem dxM_perform_13 : decode cxM_perform 13 = .ok (.getfield 36, 3) := by decide +kernel
theorem dxM_perform_16 : decode cxM_perform 16 = .ok (.iconst 1, 1) := by decide +kernel
theorem dxM_perform_17 : decode cxM_perform 17 = .ok (.iadd, 1) := by decide +kernel
theorem dxM_perform_18 : decode cxM_perform 18 = .ok (.putfield 36, 3) := by decide +kernel
theorem dxM_perform_21 : decode cxM_perform 21 = .ok (.aload_n 0, 1) := by decide +kernel
theorem dxM_perform_22 : decode cxM_perform 22 = .ok (.aload_n 0, 1) := by decide +kernel
theorem dxM_perform_23 : decode cxM_perform 23 = .ok (.getfield 45, 3) := by decide +kernel
theorem dxM_perform_26 : decode cxM_perform 26 = .ok (.iload_n 2, 1) := by decide +kernel
theorem dxM_perform_27 : decode cxM_perform 27 = .ok (.invokestatic 85, 3) := by decide +kernel
theorem dxM_perform_30 : decode cxM_perform 30 = .ok (.putfield 45, 3) := by decide +kernel
theorem dxM_perform_33 : decode cxM_perform 33 = .ok (.aload_n 0, 1) := by decide +kernel
theorem dxM_perform_34 : decode cxM_perform 34 = .ok (.getfield 51, 3) := by decide +kernel
theorem dxM_perform_37 : decode cxM_perform 37 = .ok (.iload_n 1, 1) := by decide +kernel
theorem dxM_perform_38 : decode cxM_perform 38 = .ok (.invokevirtual 91, 3) := by decide +kernel
theorem dxM_perform_41 : decode cxM_perform 41 = .ok (.astore 4, 2) := by decide +kernel
theorem dxM_perform_43 : decode cxM_perform 43 = .ok (.aload 4, 2) := by decide +kernel
theorem dxM_perform_45 : decode cxM_perform 45 = .ok (.getfield 95, 3) := by decide +kernel
theorem dxM_perform_48 : decode cxM_perform 48 = .ok (.tableswitch 261 4 21 #[88, 97, 106, 150, 154, 115, 194, 226, 210, 123, 132, 132, 232, 239, 246, 172, 141, 254], 88) := by decide +kernel
theorem dxM_perform_136 : decode cxM_perform 136 = .ok (.aload_n 0, 1) := by decide +kernel
theorem dxM_perform_137 : decode cxM_perform 137 = .ok (.aload 4, 2) := by decide +kernel
theorem dxM_perform_139 : decode cxM_perform 139 = .ok (.iload_n 2, 1) := by decide +kernel
theorem dxM_perform_140 : decode cxM_perform 140 = .ok (.aload_n 3, 1) := by decide +kernel
theorem dxM_perform_141 : decode cxM_perform 141 = .ok (.invokevirtual 100, 3) := by decide +kernel
theorem dxM_perform_144 : decode cxM_perform 144 = .ok (.areturn, 1) := by decide +kernel
theorem dxM_perform_145 : decode cxM_perform 145 = .ok (.aload_n 0, 1) := by decide +kernel
theorem dxM_perform_146 : decode cxM_perform 146 = .ok (.aload 4, 2) := by decide +kernel
theorem dxM_perform_148 : decode cxM_perform 148 = .ok (.iload_n 2, 1) := by decide +kernel
theorem dxM_perform_149 : decode cxM_perform 149 = .ok (.aload_n 3, 1) := by decide +kernel
theorem dxM_perform_150 : decode cxM_perform 150 = .ok (.invokevirtual 104, 3) := by decide +kernel
theorem dxM_perform_153 : decode cxM_perform 153 = .ok (.areturn, 1) := by decide +kernel
theorem dxM_perform_154 : decode cxM_perform 154 = .ok (.aload_n 0, 1) := by decide +kernel
theorem dxM_perform_155 : decode cxM_perform 155 = .ok (.aload 4, 2) := by decide +kernel
theorem dxM_perform_157 : decode cxM_perform 157 = .ok (.iload_n 2, 1) := by decide +kernel
theorem dxM_perform_158 : decode cxM_perform 158 = .ok (.aload_n 3, 1) := by decide +kernel
theorem dxM_perform_159 : decode cxM_perform 159 = .ok (.invokevirtual 107, 3) := by decide +kernel
theorem dxM_perform_162 : decode cxM_perform 162 = .ok (.areturn, 1) := by decide +kernel
theorem dxM_perform_163 : decode cxM_perform 163 = .ok (.aload_n 0, 1) := by decide +kernel
theorem dxM_perform_164 : decode cxM_perform 164 = .ok (.aload 4, 2) := by decide +kernel
theorem dxM_perform_166 : decode cxM_perform 166 = .ok (.iload_n 2, 1) := by decide +kernel
theorem dxM_perform_167 : decode cxM_perform 167 = .ok (.invokevirtual 110, 3) := by decide +kernel
theorem dxM_perform_170 : decode cxM_perform 170 = .ok (.areturn, 1) := by decide +kernel
theorem dxM_perform_171 : decode cxM_perform 171 = .ok (.aload_n 0, 1) := by decide +kernel
theorem dxM_perform_172 : decode cxM_perform 172 = .ok (.aload 4, 2) := by decide +kernel
theorem dxM_perform_174 : decode cxM_perform 174 = .ok (.iload_n 2, 1) := by decide +kernel
theorem dxM_perform_175 : decode cxM_perform 175 = .ok (.aload_n 3, 1) := by decide +kernel
theorem dxM_perform_176 : decode cxM_perform 176 = .ok (.invokevirtual 114, 3) := by decide +kernel
theorem dxM_perform_179 : decode cxM_perform 179 = .ok (.areturn, 1) := by decide +kernel
theorem dxM_perform_180 : decode cxM_perform 180 = .ok (.aload_n 0, 1) := by decide +kernel
theorem dxM_perform_181 : decode cxM_perform 181 = .ok (.aload 4, 2) := by decide +kernel
theorem dxM_perform_183 : decode cxM_perform 183 = .ok (.iload_n 2, 1) := by decide +kernel
theorem dxM_perform_184 : decode cxM_perform 184 = .ok (.aload_n 3, 1) := by decide +kernel
theorem dxM_perform_185 : decode cxM_perform 185 = .ok (.invokevirtual 117, 3) := by decide +kernel
theorem dxM_perform_188 : decode cxM_perform 188 = .ok (.areturn, 1) := by decide +kernel
theorem dxM_perform_189 : decode cxM_perform 189 = .ok (.aload_n 0, 1) := by decide +kernel
theorem dxM_perform_190 : decode cxM_perform 190 = .ok (.aload 4, 2) := by decide +kernel
theorem dxM_perform_192 : decode cxM_perform 192 = .ok (.iload_n 2, 1) := by decide +kernel
theorem dxM_perform_193 : decode cxM_perform 193 = .ok (.aload_n 3, 1) := by decide +kernel
theorem dxM_perform_194 : decode cxM_perform 194 = .ok (.invokevirtual 120, 3) := by decide +kernel
theorem dxM_perform_197 : decode cxM_perform 197 = .ok (.areturn, 1) := by decide +kernel
theorem dxM_perform_198 : decode cxM_perform 198 = .ok (.getstatic 123, 3) := by decide +kernel
theorem dxM_perform_201 : decode cxM_perform 201 = .ok (.areturn, 1) := by decide +kernel
theorem dxM_perform_202 : decode cxM_perform 202 = .ok (.aload_n 0, 1) := by decide +kernel
theorem dxM_perform_203 : decode cxM_perform 203 = .ok (.aload_n 0, 1) := by decide +kernel
theorem dxM_perform_204 : decode cxM_perform 204 = .ok (.getfield 11, 3) := by decide +kernel
theorem dxM_perform_207 : decode cxM_perform 207 = .ok (.aload 4, 2) := by decide +kernel
theorem dxM_perform_209 : decode cxM_perform 209 = .ok (.getfield 126, 3) := by decide +kernel
theorem dxM_perform_212 : decode cxM_perform 212 = .ok (.iaload, 1) := by decide +kernel
theorem dxM_perform_213 : decode cxM_perform 213 = .ok (.getstatic 129, 3) := by decide +kernel
theorem dxM_perform_216 : decode cxM_perform 216 = .ok (.invokevirtual 132, 3) := by decide +kernel
theorem dxM_perform_219 : decode cxM_perform 219 = .ok (.areturn, 1) := by decide +kernel
theorem dxM_perform_220 : decode cxM_perform 220 = .ok (.aload_n 0, 1) := by decide +kernel
theorem dxM_perform_221 : decode cxM_perform 221 = .ok (.aload_n 0, 1) := by decide +kernel
theorem dxM_perform_222 : decode cxM_perform 222 = .ok (.getfield 11, 3) := by decide +kernel
theorem dxM_perform_225 : decode cxM_perform 225 = .ok (.aload 4, 2) := by decide +kernel
theorem dxM_perform_227 : decode cxM_perform 227 = .ok (.getfield 126, 3) := by decide +kernel
theorem dxM_perform_230 : decode cxM_perform 230 = .ok (.iaload, 1) := by decide +kernel
theorem dxM_perform_231 : decode cxM_perform 231 = .ok (.sipush 255, 3) := by decide +kernel
theorem dxM_perform_234 : decode cxM_perform 234 = .ok (.iand, 1) := by decide +kernel
theorem dxM_perform_235 : decode cxM_perform 235 = .ok (.getstatic 136, 3) := by decide +kernel
theorem dxM_perform_238 : decode cxM_perform 238 = .ok (.invokevirtual 132, 3) := by decide +kernel
theorem dxM_perform_241 : decode cxM_perform 241 = .ok (.areturn, 1) := by decide +kernel
theorem dxM_perform_242 : decode cxM_perform 242 = .ok (.aload_n 0, 1) := by decide +kernel
theorem dxM_perform_243 : decode cxM_perform 243 = .ok (.aload 4, 2) := by decide +kernel
theorem dxM_perform_245 : decode cxM_perform 245 = .ok (.getfield 126, 3) := by decide +kernel
theorem dxM_perform_248 : decode cxM_perform 248 = .ok (.aload 4, 2) := by decide +kernel
theorem dxM_perform_250 : decode cxM_perform 250 = .ok (.getfield 139, 3) := by decide +kernel
theorem dxM_perform_253 : decode cxM_perform 253 = .ok (.aconst_null, 1) := by decide +kernel
theorem dxM_perform_254 : decode cxM_perform 254 = .ok (.invokevirtual 142, 3) := by decide +kernel
theorem dxM_perform_257 : decode cxM_perform 257 = .ok (.areturn, 1) := by decide +kernel
theorem dxM_perform_258 : decode cxM_perform 258 = .ok (.aload_n 0, 1) := by decide +kernel
theorem dxM_perform_259 : decode cxM_perform 259 = .ok (.aload 4, 2) := by decide +kernel
theorem dxM_perform_261 : decode cxM_perform 261 = .ok (.getfield 126, 3) := by decide +kernel
theorem dxM_perform_264 : decode cxM_perform 264 = .ok (.aload 4, 2) := by decide +kernel
theorem dxM_perform_266 : decode cxM_perform 266 = .ok (.getfield 139, 3) := by decide +kernel
theorem dxM_perform_269 : decode cxM_perform 269 = .ok (.aload_n 3, 1) := by decide +kernel
theorem dxM_perform_270 : decode cxM_perform 270 = .ok (.invokevirtual 142, 3) := by decide +kernel
theorem dxM_perform_273 : decode cxM_perform 273 = .ok (.areturn, 1) := by decide +kernel
theorem dxM_perform_274 : decode cxM_perform 274 = .ok (.aload_n 0, 1) := by decide +kernel
theorem dxM_perform_275 : decode cxM_perform 275 = .ok (.aload_n 3, 1) := by decide +kernel
theorem dxM_perform_276 : decode cxM_perform 276 = .ok (.invokevirtual 145, 3) := by decide +kernel
theorem dxM_perform_279 : decode cxM_perform 279 = .ok (.areturn, 1) := by decide +kernel
theorem dxM_perform_280 : decode cxM_perform 280 = .ok (.aload_n 0, 1) := by decide +kernel
theorem dxM_perform_281 : decode cxM_perform 281 = .ok (.aload 4, 2) := by decide +kernel
theorem dxM_perform_283 : decode cxM_perform 283 = .ok (.invokevirtual 149, 3) := by decide +kernel
theorem dxM_perform_286 : decode cxM_perform 286 = .ok (.areturn, 1) := by decide +kernel
theorem dxM_perform_287 : decode cxM_perform 287 = .ok (.aload_n 0, 1) := by decide +kernel
theorem dxM_perform_288 : decode cxM_perform 288 = .ok (.aload 4, 2) := by decide +kernel
theorem dxM_perform_290 : decode cxM_perform 290 = .ok (.invokevirtual 153, 3) := by decide +kernel
theorem dxM_perform_293 : decode cxM_perform 293 = .ok (.areturn, 1) := by decide +kernel
theorem dxM_perform_294 : decode cxM_perform 294 = .ok (.aload_n 0, 1) := by decide +kernel
theorem dxM_perform_295 : decode cxM_perform 295 = .ok (.aload 4, 2) := by decide +kernel
theorem dxM_perform_297 : decode cxM_perform 297 = .ok (.aload_n 3, 1) := by decide +kernel
theorem dxM_perform_298 : decode cxM_perform 298 = .ok (.invokevirtual 156, 3) := by decide +kernel
theorem dxM_perform_301 : decode cxM_perform 301 = .ok (.areturn, 1) := by decide +kernel
theorem dxM_perform_302 : decode cxM_perform 302 = .ok (.aload_n 0, 1) := by decide +kernel
theorem dxM_perform_303 : decode cxM_perform 303 = .ok (.aload 4, 2) := by decide +kernel
theorem dxM_perform_305 : decode cxM_perform 305 = .ok (.invokevirtual 160, 3) := by decide +kernel
theorem dxM_perform_308 : decode cxM_perform 308 = .ok (.areturn, 1) := by decide +kernel
theorem dxM_perform_309 : decode cxM_perform 309 = .ok (.aload_n 0, 1) := by decide +kernel
theorem dxM_perform_310 : decode cxM_perform 310 = .ok (.aload 4, 2) := by decide +kernel
theorem dxM_perform_312 : decode cxM_perform 312 = .ok (.aload_n 3, 1) := by decide +kernel
theorem dxM_perform_313 : decode cxM_perform 313 = .ok (.invokevirtual 163, 3) := by decide +kernel
theorem dxM_perform_316 : decode cxM_perform 316 = .ok (.areturn, 1) := by decide +kernel
theorem dxM_mayBegin_0 : decode cxM_mayBegin 0 = .ok (.aload_n 0, 1) := by decide +kernel
theorem dxM_mayBegin_1 : decode cxM_mayBegin 1 = .ok (.getfield 36, 3) := by decide +kernel
theorem dxM_mayBegin_4 : decode cxM_mayBegin 4 = .ok (.sipush 300, 3) := by decide +kernel
theorem dxM_mayBegin_7 : decode cxM_mayBegin 7 = .ok (.if_icmp .ge 7, 3) := by decide +kernel
theorem dxM_mayBegin_10 : decode cxM_mayBegin 10 = .ok (.iconst 1, 1) := by decide +kernel
theorem dxM_mayBegin_11 : decode cxM_mayBegin 11 = .ok (.goto 4, 3) := by decide +kernel
theorem dxM_mayBegin_14 : decode cxM_mayBegin 14 = .ok (.iconst 0, 1) := by decide +kernel
theorem dxM_mayBegin_15 : decode cxM_mayBegin 15 = .ok (.ireturn, 1) := by decide +kernel
theorem dxM_sequence_0 : decode cxM_sequence 0 = .ok (.aload_n 0, 1) := by decide +kernel
theorem dxM_sequence_1 : decode cxM_sequence 1 = .ok (.aload_n 1, 1) := by decide +kernel
theorem dxM_sequence_2 : decode cxM_sequence 2 = .ok (.getfield 126, 3) := by decide +kernel
theorem dxM_sequence_5 : decode cxM_sequence 5 = .ok (.iload_n 2, 1) := by decide +kernel
theorem dxM_sequence_6 : decode cxM_sequence 6 = .ok (.aload_n 3, 1) := by decide +kernel
theorem dxM_sequence_7 : decode cxM_sequence 7 = .ok (.invokevirtual 71, 3) := by decide +kernel
theorem dxM_sequence_10 : decode cxM_sequence 10 = .ok (.astore 4, 2) := by decide +kernel
theorem dxM_sequence_12 : decode cxM_sequence 12 = .ok (.aload 4, 2) := by decide +kernel
theorem dxM_sequence_14 : decode cxM_sequence 14 = .ok (.getstatic 166, 3) := by decide +kernel
theorem dxM_sequence_17 : decode cxM_sequence 17 = .ok (.if_acmp .ne 16, 3) := by decide +kernel
theorem dxM_sequence_20 : decode cxM_sequence 20 = .ok (.aload_n 0, 1) := by decide +kernel
theorem dxM_sequence_21 : decode cxM_sequence 21 = .ok (.aload_n 1, 1) := by decide +kernel
theorem dxM_sequence_22 : decode cxM_sequence 22 = .ok (.getfield 139, 3) := by decide +kernel
theorem dxM_sequence_25 : decode cxM_sequence 25 = .ok (.iload_n 2, 1) := by decide +kernel
theorem dxM_sequence_26 : decode cxM_sequence 26 = .ok (.aload_n 3, 1) := by decide +kernel
theorem dxM_sequence_27 : decode cxM_sequence 27 = .ok (.invokevirtual 71, 3) := by decide +kernel
theorem dxM_sequence_30 : decode cxM_sequence 30 = .ok (.goto 5, 3) := by decide +kernel
theorem dxM_sequence_33 : decode cxM_sequence 33 = .ok (.aload 4, 2) := by decide +kernel
theorem dxM_sequence_35 : decode cxM_sequence 35 = .ok (.areturn, 1) := by decide +kernel
theorem dxM_choose_0 : decode cxM_choose 0 = .ok (.aload_n 0, 1) := by decide +kernel
theorem dxM_choose_1 : decode cxM_choose 1 = .ok (.getfield 11, 3) := by decide +kernel
theorem dxM_choose_4 : decode cxM_choose 4 = .ok (.aload_n 1, 1) := by decide +kernel
theorem dxM_choose_5 : decode cxM_choose 5 = .ok (.getfield 126, 3) := by decide +kernel
theorem dxM_choose_8 : decode cxM_choose 8 = .ok (.iaload, 1) := by decide +kernel
theorem dxM_choose_9 : decode cxM_choose 9 = .ok (.ifCond .eq 10, 3) := by decide +kernel
theorem dxM_choose_12 : decode cxM_choose 12 = .ok (.aload_n 1, 1) := by decide +kernel
theorem dxM_choose_13 : decode cxM_choose 13 = .ok (.getfield 139, 3) := by decide +kernel
theorem dxM_choose_16 : decode cxM_choose 16 = .ok (.goto 7, 3) := by decide +kernel
theorem dxM_choose_19 : decode cxM_choose 19 = .ok (.aload_n 1, 1) := by decide +kernel
theorem dxM_choose_20 : decode cxM_choose 20 = .ok (.getfield 169, 3) := by decide +kernel
theorem dxM_choose_23 : decode cxM_choose 23 = .ok (.istore 4, 2) := by decide +kernel
theorem dxM_choose_25 : decode cxM_choose 25 = .ok (.iload 4, 2) := by decide +kernel
theorem dxM_choose_27 : decode cxM_choose 27 = .ok (.iconst (-1), 1) := by decide +kernel
theorem dxM_choose_28 : decode cxM_choose 28 = .ok (.if_icmp .ne 9, 3) := by decide +kernel
theorem dxM_choose_31 : decode cxM_choose 31 = .ok (.getstatic 166, 3) := by decide +kernel
theorem dxM_choose_34 : decode cxM_choose 34 = .ok (.goto 11, 3) := by decide +kernel
theorem dxM_choose_37 : decode cxM_choose 37 = .ok (.aload_n 0, 1) := by decide +kernel
theorem dxM_choose_38 : decode cxM_choose 38 = .ok (.iload 4, 2) := by decide +kernel
theorem dxM_choose_40 : decode cxM_choose 40 = .ok (.iload_n 2, 1) := by decide +kernel
theorem dxM_choose_41 : decode cxM_choose 41 = .ok (.aload_n 3, 1) := by decide +kernel
theorem dxM_choose_42 : decode cxM_choose 42 = .ok (.invokevirtual 71, 3) := by decide +kernel
theorem dxM_choose_45 : decode cxM_choose 45 = .ok (.areturn, 1) := by decide +kernel
theorem dxM_loop_0 : decode cxM_loop 0 = .ok (.getstatic 166, 3) := by decide +kernel
theorem dxM_loop_3 : decode cxM_loop 3 = .ok (.astore 4, 2) := by decide +kernel
theorem dxM_loop_5 : decode cxM_loop 5 = .ok (.iconst 0, 1) := by decide +kernel
theorem dxM_loop_6 : decode cxM_loop 6 = .ok (.istore 5, 2) := by decide +kernel
theorem dxM_loop_8 : decode cxM_loop 8 = .ok (.iload 5, 2) := by decide +kernel
theorem dxM_loop_10 : decode cxM_loop 10 = .ok (.aload_n 1, 1) := by decide +kernel
theorem dxM_loop_11 : decode cxM_loop 11 = .ok (.getfield 126, 3) := by decide +kernel
theorem dxM_loop_14 : decode cxM_loop 14 = .ok (.if_icmp .ge 29, 3) := by decide +kernel
theorem dxM_loop_17 : decode cxM_loop 17 = .ok (.aload 4, 2) := by decide +kernel
theorem dxM_loop_19 : decode cxM_loop 19 = .ok (.getstatic 166, 3) := by decide +kernel
theorem dxM_loop_22 : decode cxM_loop 22 = .ok (.if_acmp .ne 21, 3) := by decide +kernel
theorem dxM_loop_25 : decode cxM_loop 25 = .ok (.aload_n 0, 1) := by decide +kernel
theorem dxM_loop_26 : decode cxM_loop 26 = .ok (.aload_n 1, 1) := by decide +kernel
theorem dxM_loop_27 : decode cxM_loop 27 = .ok (.getfield 139, 3) := by decide +kernel
theorem dxM_loop_30 : decode cxM_loop 30 = .ok (.iload_n 2, 1) := by decide +kernel
theorem dxM_loop_31 : decode cxM_loop 31 = .ok (.aload_n 3, 1) := by decide +kernel
theorem dxM_loop_32 : decode cxM_loop 32 = .ok (.invokevirtual 71, 3) := by decide +kernel
theorem dxM_loop_35 : decode cxM_loop 35 = .ok (.astore 4, 2) := by decide +kernel
theorem dxM_loop_37 : decode cxM_loop 37 = .ok (.iinc 5 1, 3) := by decide +kernel
theorem dxM_loop_40 : decode cxM_loop 40 = .ok (.goto (-32), 3) := by decide +kernel
theorem dxM_loop_43 : decode cxM_loop 43 = .ok (.aload 4, 2) := by decide +kernel
theorem dxM_loop_45 : decode cxM_loop 45 = .ok (.getstatic 123, 3) := by decide +kernel
theorem dxM_loop_48 : decode cxM_loop 48 = .ok (.if_acmp .ne 9, 3) := by decide +kernel
theorem dxM_loop_51 : decode cxM_loop 51 = .ok (.getstatic 166, 3) := by decide +kernel
theorem dxM_loop_54 : decode cxM_loop 54 = .ok (.goto 5, 3) := by decide +kernel
theorem dxM_loop_57 : decode cxM_loop 57 = .ok (.aload 4, 2) := by decide +kernel
theorem dxM_loop_59 : decode cxM_loop 59 = .ok (.areturn, 1) := by decide +kernel
theorem dxM_call_0 : decode cxM_call 0 = .ok (.aload_n 0, 1) := by decide +kernel
theorem dxM_call_1 : decode cxM_call 1 = .ok (.getfield 51, 3) := by decide +kernel
theorem dxM_call_4 : decode cxM_call 4 = .ok (.aload_n 1, 1) := by decide +kernel
theorem dxM_call_5 : decode cxM_call 5 = .ok (.getfield 126, 3) := by decide +kernel
theorem dxM_call_8 : decode cxM_call 8 = .ok (.invokevirtual 172, 3) := by decide +kernel
theorem dxM_call_11 : decode cxM_call 11 = .ok (.ifCond .ne 7, 3) := by decide +kernel
theorem dxM_call_14 : decode cxM_call 14 = .ok (.getstatic 166, 3) := by decide +kernel
theorem dxM_call_17 : decode cxM_call 17 = .ok (.areturn, 1) := by decide +kernel
theorem dxM_call_18 : decode cxM_call 18 = .ok (.iload_n 2, 1) := by decide +kernel
theorem dxM_call_19 : decode cxM_call 19 = .ok (.aload_n 0, 1) := by decide +kernel
theorem dxM_call_20 : decode cxM_call 20 = .ok (.getfield 59, 3) := by decide +kernel
theorem dxM_call_23 : decode cxM_call 23 = .ok (.if_icmp .lt 14, 3) := by decide +kernel
theorem dxM_call_26 : decode cxM_call 26 = .ok (.aload_n 0, 1) := by decide +kernel
theorem dxM_call_27 : decode cxM_call 27 = .ok (.iconst 5, 1) := by decide +kernel
theorem dxM_call_28 : decode cxM_call 28 = .ok (.aload_n 0, 1) := by decide +kernel
theorem dxM_call_29 : decode cxM_call 29 = .ok (.getfield 59, 3) := by decide +kernel
theorem dxM_call_32 : decode cxM_call 32 = .ok (.aconst_null, 1) := by decide +kernel
theorem dxM_call_33 : decode cxM_call 33 = .ok (.invokevirtual 142, 3) := by decide +kernel
theorem dxM_call_36 : decode cxM_call 36 = .ok (.areturn, 1) := by decide +kernel
theorem dxM_call_37 : decode cxM_call 37 = .ok (.aload_n 0, 1) := by decide +kernel
theorem dxM_call_38 : decode cxM_call 38 = .ok (.aload_n 0, 1) := by decide +kernel
theorem dxM_call_39 : decode cxM_call 39 = .ok (.getfield 51, 3) := by decide +kernel
theorem dxM_call_42 : decode cxM_call 42 = .ok (.aload_n 1, 1) := by decide +kernel
theorem dxM_call_43 : decode cxM_call 43 = .ok (.getfield 126, 3) := by decide +kernel
theorem dxM_call_46 : decode cxM_call 46 = .ok (.invokevirtual 67, 3) := by decide +kernel
theorem dxM_call_49 : decode cxM_call 49 = .ok (.iload_n 2, 1) := by decide +kernel
theorem dxM_call_50 : decode cxM_call 50 = .ok (.iconst 1, 1) := by decide +kernel
theorem dxM_call_51 : decode cxM_call 51 = .ok (.iadd, 1) := by decide +kernel
theorem dxM_call_52 : decode cxM_call 52 = .ok (.aconst_null, 1) := by decide +kernel
theorem dxM_call_53 : decode cxM_call 53 = .ok (.invokevirtual 71, 3) := by decide +kernel
theorem dxM_call_56 : decode cxM_call 56 = .ok (.astore_n 3, 1) := by decide +kernel
theorem dxM_call_57 : decode cxM_call 57 = .ok (.aload_n 3, 1) := by decide +kernel
theorem dxM_call_58 : decode cxM_call 58 = .ok (.getstatic 129, 3) := by decide +kernel
theorem dxM_call_61 : decode cxM_call 61 = .ok (.if_acmp .ne 13, 3) := by decide +kernel
theorem dxM_call_64 : decode cxM_call 64 = .ok (.aload_n 0, 1) := by decide +kernel
theorem dxM_call_65 : decode cxM_call 65 = .ok (.getfield 11, 3) := by decide +kernel
theorem dxM_call_68 : decode cxM_call 68 = .ok (.iconst 0, 1) := by decide +kernel
theorem dxM_call_69 : decode cxM_call 69 = .ok (.aload_n 0, 1) := by decide +kernel
theorem dxM_call_70 : decode cxM_call 70 = .ok (.getfield 48, 3) := by decide +kernel
theorem dxM_call_73 : decode cxM_call 73 = .ok (.iastore, 1) := by decide +kernel
theorem dxM_call_74 : decode cxM_call 74 = .ok (.aload_n 3, 1) := by decide +kernel
theorem dxM_call_75 : decode cxM_call 75 = .ok (.getstatic 178, 3) := by decide +kernel
theorem dxM_call_78 : decode cxM_call 78 = .ok (.if_acmp .eq 10, 3) := by decide +kernel
theorem dxM_call_81 : decode cxM_call 81 = .ok (.aload_n 3, 1) := by decide +kernel
theorem dxM_call_82 : decode cxM_call 82 = .ok (.getfield 181, 3) := by decide +kernel
theorem dxM_call_85 : decode cxM_call 85 = .ok (.ifCond .eq 7, 3) := by decide +kernel
theorem dxM_call_88 : decode cxM_call 88 = .ok (.aload_n 3, 1) := by decide +kernel
theorem dxM_call_89 : decode cxM_call 89 = .ok (.goto 6, 3) := by decide +kernel
theorem dxM_call_92 : decode cxM_call 92 = .ok (.getstatic 166, 3) := by decide +kernel
theorem dxM_call_95 : decode cxM_call 95 = .ok (.areturn, 1) := by decide +kernel
theorem dxM_tryAndCatch_0 : decode cxM_tryAndCatch 0 = .ok (.aload_n 0, 1) := by decide +kernel
theorem dxM_tryAndCatch_1 : decode cxM_tryAndCatch 1 = .ok (.aload_n 1, 1) := by decide +kernel
theorem dxM_tryAndCatch_2 : decode cxM_tryAndCatch 2 = .ok (.getfield 126, 3) := by decide +kernel
theorem dxM_tryAndCatch_5 : decode cxM_tryAndCatch 5 = .ok (.iload_n 2, 1) := by decide +kernel
theorem dxM_tryAndCatch_6 : decode cxM_tryAndCatch 6 = .ok (.aload_n 3, 1) := by decide +kernel
theorem dxM_tryAndCatch_7 : decode cxM_tryAndCatch 7 = .ok (.invokevirtual 71, 3) := by decide +kernel
theorem dxM_tryAndCatch_10 : decode cxM_tryAndCatch 10 = .ok (.astore 4, 2) := by decide +kernel
theorem dxM_tryAndCatch_12 : decode cxM_tryAndCatch 12 = .ok (.aload 4, 2) := by decide +kernel
theorem dxM_tryAndCatch_14 : decode cxM_tryAndCatch 14 = .ok (.getstatic 178, 3) := by decide +kernel
theorem dxM_tryAndCatch_17 : decode cxM_tryAndCatch 17 = .ok (.if_acmp .ne 24, 3) := by decide +kernel
theorem dxM_tryAndCatch_20 : decode cxM_tryAndCatch 20 = .ok (.aload_n 0, 1) := by decide +kernel
theorem dxM_tryAndCatch_21 : decode cxM_tryAndCatch 21 = .ok (.getfield 55, 3) := by decide +kernel
theorem dxM_tryAndCatch_24 : decode cxM_tryAndCatch 24 = .ok (.aload_n 0, 1) := by decide +kernel
theorem dxM_tryAndCatch_25 : decode cxM_tryAndCatch 25 = .ok (.getfield 63, 3) := by decide +kernel
theorem dxM_tryAndCatch_28 : decode cxM_tryAndCatch 28 = .ok (.getfield 185, 3) := by decide +kernel
theorem dxM_tryAndCatch_31 : decode cxM_tryAndCatch 31 = .ok (.aload_n 1, 1) := by decide +kernel
theorem dxM_tryAndCatch_32 : decode cxM_tryAndCatch 32 = .ok (.getfield 139, 3) := by decide +kernel
theorem dxM_tryAndCatch_35 : decode cxM_tryAndCatch 35 = .ok (.invokevirtual 188, 3) := by decide +kernel
theorem dxM_tryAndCatch_38 : decode cxM_tryAndCatch 38 = .ok (.ifCond .ne 6, 3) := by decide +kernel
theorem dxM_tryAndCatch_41 : decode cxM_tryAndCatch 41 = .ok (.aload 4, 2) := by decide +kernel
theorem dxM_tryAndCatch_43 : decode cxM_tryAndCatch 43 = .ok (.areturn, 1) := by decide +kernel
theorem dxM_tryAndCatch_44 : decode cxM_tryAndCatch 44 = .ok (.aload_n 0, 1) := by decide +kernel
theorem dxM_tryAndCatch_45 : decode cxM_tryAndCatch 45 = .ok (.invokevirtual 75, 3) := by decide +kernel
theorem dxM_tryAndCatch_48 : decode cxM_tryAndCatch 48 = .ok (.ifCond .eq 13, 3) := by decide +kernel
theorem dxM_tryAndCatch_51 : decode cxM_tryAndCatch 51 = .ok (.aload_n 0, 1) := by decide +kernel
theorem dxM_tryAndCatch_52 : decode cxM_tryAndCatch 52 = .ok (.dup, 1) := by decide +kernel
theorem dxM_tryAndCatch_53 : decode cxM_tryAndCatch 53 = .ok (.getfield 39, 3) := by decide +kernel
theorem dxM_tryAndCatch_56 : decode cxM_tryAndCatch 56 = .ok (.iconst 1, 1) := by decide +kernel
theorem dxM_tryAndCatch_57 : decode cxM_tryAndCatch 57 = .ok (.iadd, 1) := by decide +kernel
theorem dxM_tryAndCatch_58 : decode cxM_tryAndCatch 58 = .ok (.putfield 39, 3) := by decide +kernel
theorem dxM_tryAndCatch_61 : decode cxM_tryAndCatch 61 = .ok (.aload_n 0, 1) := by decide +kernel
theorem dxM_tryAndCatch_62 : decode cxM_tryAndCatch 62 = .ok (.aload_n 1, 1) := by decide +kernel
theorem dxM_tryAndCatch_63 : decode cxM_tryAndCatch 63 = .ok (.getfield 169, 3) := by decide +kernel
theorem dxM_tryAndCatch_66 : decode cxM_tryAndCatch 66 = .ok (.iload_n 2, 1) := by decide +kernel
theorem dxM_tryAndCatch_67 : decode cxM_tryAndCatch 67 = .ok (.aload_n 0, 1) := by decide +kernel
theorem dxM_tryAndCatch_68 : decode cxM_tryAndCatch 68 = .ok (.getfield 63, 3) := by decide +kernel
theorem dxM_tryAndCatch_71 : decode cxM_tryAndCatch 71 = .ok (.invokevirtual 71, 3) := by decide +kernel
theorem dxM_tryAndCatch_74 : decode cxM_tryAndCatch 74 = .ok (.areturn, 1) := by decide +kernel
theorem dxM_doBoth_0 : decode cxM_doBoth 0 = .ok (.aload_n 0, 1) := by decide +kernel
theorem dxM_doBoth_1 : decode cxM_doBoth 1 = .ok (.aload_n 1, 1) := by decide +kernel
theorem dxM_doBoth_2 : decode cxM_doBoth 2 = .ok (.getfield 126, 3) := by decide +kernel
theorem dxM_doBoth_5 : decode cxM_doBoth 5 = .ok (.iload_n 2, 1) := by decide +kernel
theorem dxM_doBoth_6 : decode cxM_doBoth 6 = .ok (.aload_n 3, 1) := by decide +kernel
theorem dxM_doBoth_7 : decode cxM_doBoth 7 = .ok (.invokevirtual 71, 3) := by decide +kernel
theorem dxM_doBoth_10 : decode cxM_doBoth 10 = .ok (.astore 4, 2) := by decide +kernel
theorem dxM_doBoth_12 : decode cxM_doBoth 12 = .ok (.aload 4, 2) := by decide +kernel
theorem dxM_doBoth_14 : decode cxM_doBoth 14 = .ok (.getfield 181, 3) := by decide +kernel
theorem dxM_doBoth_17 : decode cxM_doBoth 17 = .ok (.ifCond .eq 6, 3) := by decide +kernel
theorem dxM_doBoth_20 : decode cxM_doBoth 20 = .ok (.aload 4, 2) := by decide +kernel
theorem dxM_doBoth_22 : decode cxM_doBoth 22 = .ok (.areturn, 1) := by decide +kernel
theorem dxM_doBoth_23 : decode cxM_doBoth 23 = .ok (.aload_n 0, 1) := by decide +kernel
theorem dxM_doBoth_24 : decode cxM_doBoth 24 = .ok (.getfield 48, 3) := by decide +kernel
theorem dxM_doBoth_27 : decode cxM_doBoth 27 = .ok (.istore 5, 2) := by decide +kernel
theorem dxM_doBoth_29 : decode cxM_doBoth 29 = .ok (.aload_n 0, 1) := by decide +kernel
theorem dxM_doBoth_30 : decode cxM_doBoth 30 = .ok (.getfield 63, 3) := by decide +kernel
theorem dxM_doBoth_33 : decode cxM_doBoth 33 = .ok (.astore 6, 2) := by decide +kernel
theorem dxM_doBoth_35 : decode cxM_doBoth 35 = .ok (.aload_n 0, 1) := by decide +kernel
theorem dxM_doBoth_36 : decode cxM_doBoth 36 = .ok (.invokevirtual 75, 3) := by decide +kernel
theorem dxM_doBoth_39 : decode cxM_doBoth 39 = .ok (.ifCond .eq 13, 3) := by decide +kernel
theorem dxM_doBoth_42 : decode cxM_doBoth 42 = .ok (.aload_n 0, 1) := by decide +kernel
theorem dxM_doBoth_43 : decode cxM_doBoth 43 = .ok (.dup, 1) := by decide +kernel
theorem dxM_doBoth_44 : decode cxM_doBoth 44 = .ok (.getfield 42, 3) := by decide +kernel
theorem dxM_doBoth_47 : decode cxM_doBoth 47 = .ok (.iconst 1, 1) := by decide +kernel
theorem dxM_doBoth_48 : decode cxM_doBoth 48 = .ok (.iadd, 1) := by decide +kernel
theorem dxM_doBoth_49 : decode cxM_doBoth 49 = .ok (.putfield 42, 3) := by decide +kernel
theorem dxM_doBoth_52 : decode cxM_doBoth 52 = .ok (.aload_n 0, 1) := by decide +kernel
theorem dxM_doBoth_53 : decode cxM_doBoth 53 = .ok (.aload_n 1, 1) := by decide +kernel
theorem dxM_doBoth_54 : decode cxM_doBoth 54 = .ok (.getfield 139, 3) := by decide +kernel
theorem dxM_doBoth_57 : decode cxM_doBoth 57 = .ok (.iload_n 2, 1) := by decide +kernel
theorem dxM_doBoth_58 : decode cxM_doBoth 58 = .ok (.aload_n 3, 1) := by decide +kernel
theorem dxM_doBoth_59 : decode cxM_doBoth 59 = .ok (.invokevirtual 71, 3) := by decide +kernel
theorem dxM_doBoth_62 : decode cxM_doBoth 62 = .ok (.astore 7, 2) := by decide +kernel
theorem dxM_doBoth_64 : decode cxM_doBoth 64 = .ok (.aload_n 1, 1) := by decide +kernel
theorem dxM_doBoth_65 : decode cxM_doBoth 65 = .ok (.getfield 95, 3) := by decide +kernel
theorem dxM_doBoth_68 : decode cxM_doBoth 68 = .ok (.bipush 15, 2) := by decide +kernel
theorem dxM_doBoth_70 : decode cxM_doBoth 70 = .ok (.if_icmp .ne 23, 3) := by decide +kernel
theorem dxM_doBoth_73 : decode cxM_doBoth 73 = .ok (.aload 4, 2) := by decide +kernel
theorem dxM_doBoth_75 : decode cxM_doBoth 75 = .ok (.getstatic 178, 3) := by decide +kernel
theorem dxM_doBoth_78 : decode cxM_doBoth 78 = .ok (.if_acmp .ne 15, 3) := by decide +kernel
theorem dxM_doBoth_81 : decode cxM_doBoth 81 = .ok (.aload 7, 2) := by decide +kernel
theorem dxM_doBoth_83 : decode cxM_doBoth 83 = .ok (.getfield 181, 3) := by decide +kernel
theorem dxM_doBoth_86 : decode cxM_doBoth 86 = .ok (.ifCond .ne 7, 3) := by decide +kernel
theorem dxM_doBoth_89 : decode cxM_doBoth 89 = .ok (.iconst 1, 1) := by decide +kernel
theorem dxM_doBoth_90 : decode cxM_doBoth 90 = .ok (.goto 4, 3) := by decide +kernel
theorem dxM_doBoth_93 : decode cxM_doBoth 93 = .ok (.iconst 0, 1) := by decide +kernel
theorem dxM_doBoth_94 : decode cxM_doBoth 94 = .ok (.istore 8, 2) := by decide +kernel
theorem dxM_doBoth_96 : decode cxM_doBoth 96 = .ok (.aload 7, 2) := by decide +kernel
theorem dxM_doBoth_98 : decode cxM_doBoth 98 = .ok (.getstatic 166, 3) := by decide +kernel
theorem dxM_doBoth_101 : decode cxM_doBoth 101 = .ok (.if_acmp .eq 11, 3) := by decide +kernel
theorem dxM_doBoth_104 : decode cxM_doBoth 104 = .ok (.iload 8, 2) := by decide +kernel
theorem dxM_doBoth_106 : decode cxM_doBoth 106 = .ok (.ifCond .ne 6, 3) := by decide +kernel
theorem dxM_doBoth_109 : decode cxM_doBoth 109 = .ok (.aload 7, 2) := by decide +kernel
theorem dxM_doBoth_111 : decode cxM_doBoth 111 = .ok (.areturn, 1) := by decide +kernel
theorem dxM_doBoth_112 : decode cxM_doBoth 112 = .ok (.iload 8, 2) := by decide +kernel
theorem dxM_doBoth_114 : decode cxM_doBoth 114 = .ok (.ifCond .eq 22, 3) := by decide +kernel
theorem dxM_doBoth_117 : decode cxM_doBoth 117 = .ok (.aload 7, 2) := by decide +kernel
theorem dxM_doBoth_119 : decode cxM_doBoth 119 = .ok (.getstatic 178, 3) := by decide +kernel
theorem dxM_doBoth_122 : decode cxM_doBoth 122 = .ok (.if_acmp .ne 14, 3) := by decide +kernel
theorem dxM_doBoth_125 : decode cxM_doBoth 125 = .ok (.aload 6, 2) := by decide +kernel
theorem dxM_doBoth_127 : decode cxM_doBoth 127 = .ok (.dup, 1) := by decide +kernel
theorem dxM_doBoth_128 : decode cxM_doBoth 128 = .ok (.getfield 194, 3) := by decide +kernel
theorem dxM_doBoth_131 : decode cxM_doBoth 131 = .ok (.iconst 1, 1) := by decide +kernel
theorem dxM_doBoth_132 : decode cxM_doBoth 132 = .ok (.iadd, 1) := by decide +kernel
theorem dxM_doBoth_133 : decode cxM_doBoth 133 = .ok (.putfield 194, 3) := by decide +kernel
theorem dxM_doBoth_136 : decode cxM_doBoth 136 = .ok (.aload_n 0, 1) := by decide +kernel
theorem dxM_doBoth_137 : decode cxM_doBoth 137 = .ok (.iload 5, 2) := by decide +kernel
theorem dxM_doBoth_139 : decode cxM_doBoth 139 = .ok (.putfield 48, 3) := by decide +kernel
theorem dxM_doBoth_142 : decode cxM_doBoth 142 = .ok (.aload_n 0, 1) := by decide +kernel
theorem dxM_doBoth_143 : decode cxM_doBoth 143 = .ok (.aload 6, 2) := by decide +kernel
theorem dxM_doBoth_145 : decode cxM_doBoth 145 = .ok (.putfield 63, 3) := by decide +kernel
theorem dxM_doBoth_148 : decode cxM_doBoth 148 = .ok (.aload 4, 2) := by decide +kernel
theorem dxM_doBoth_150 : decode cxM_doBoth 150 = .ok (.areturn, 1) := by decide +kernel
theorem dxM_lock_0 : decode cxM_lock 0 = .ok (.aload_n 0, 1) := by decide +kernel
theorem dxM_lock_1 : decode cxM_lock 1 = .ok (.getfield 17, 3) := by decide +kernel
theorem dxM_lock_4 : decode cxM_lock 4 = .ok (.aload_n 1, 1) := by decide +kernel
theorem dxM_lock_5 : decode cxM_lock 5 = .ok (.getfield 126, 3) := by decide +kernel
theorem dxM_lock_8 : decode cxM_lock 8 = .ok (.dup2, 1) := by decide +kernel
theorem dxM_lock_9 : decode cxM_lock 9 = .ok (.iaload, 1) := by decide +kernel
theorem dxM_lock_10 : decode cxM_lock 10 = .ok (.iconst 1, 1) := by decide +kernel
theorem dxM_lock_11 : decode cxM_lock 11 = .ok (.iadd, 1) := by decide +kernel
theorem dxM_lock_12 : decode cxM_lock 12 = .ok (.iastore, 1) := by decide +kernel
theorem dxM_lock_13 : decode cxM_lock 13 = .ok (.aload_n 0, 1) := by decide +kernel
theorem dxM_lock_14 : decode cxM_lock 14 = .ok (.aload_n 1, 1) := by decide +kernel
theorem dxM_lock_15 : decode cxM_lock 15 = .ok (.getfield 139, 3) := by decide +kernel
theorem dxM_lock_18 : decode cxM_lock 18 = .ok (.iload_n 2, 1) := by decide +kernel
theorem dxM_lock_19 : decode cxM_lock 19 = .ok (.aload_n 3, 1) := by decide +kernel
theorem dxM_lock_20 : decode cxM_lock 20 = .ok (.invokevirtual 71, 3) := by decide +kernel
theorem dxM_lock_23 : decode cxM_lock 23 = .ok (.astore 4, 2) := by decide +kernel
theorem dxM_lock_25 : decode cxM_lock 25 = .ok (.aload 4, 2) := by decide +kernel
theorem dxM_lock_27 : decode cxM_lock 27 = .ok (.getfield 181, 3) := by decide +kernel
theorem dxM_lock_30 : decode cxM_lock 30 = .ok (.ifCond .ne 16, 3) := by decide +kernel
theorem dxM_lock_33 : decode cxM_lock 33 = .ok (.aload_n 0, 1) := by decide +kernel
theorem dxM_lock_34 : decode cxM_lock 34 = .ok (.getfield 17, 3) := by decide +kernel
theorem dxM_lock_37 : decode cxM_lock 37 = .ok (.aload_n 1, 1) := by decide +kernel
theorem dxM_lock_38 : decode cxM_lock 38 = .ok (.getfield 126, 3) := by decide +kernel
theorem dxM_lock_41 : decode cxM_lock 41 = .ok (.dup2, 1) := by decide +kernel
theorem dxM_lock_42 : decode cxM_lock 42 = .ok (.iaload, 1) := by decide +kernel
theorem dxM_lock_43 : decode cxM_lock 43 = .ok (.iconst 1, 1) := by decide +kernel
theorem dxM_lock_44 : decode cxM_lock 44 = .ok (.isub, 1) := by decide +kernel
theorem dxM_lock_45 : decode cxM_lock 45 = .ok (.iastore, 1) := by decide +kernel
theorem dxM_lock_46 : decode cxM_lock 46 = .ok (.aload 4, 2) := by decide +kernel
theorem dxM_lock_48 : decode cxM_lock 48 = .ok (.areturn, 1) := by decide +kernel
theorem dxM_carry_0 : decode cxM_carry 0 = .ok (.aload_n 0, 1) := by decide +kernel
theorem dxM_carry_1 : decode cxM_carry 1 = .ok (.iload_n 1, 1) := by decide +kernel
theorem dxM_carry_2 : decode cxM_carry 2 = .ok (.putfield 48, 3) := by decide +kernel
theorem dxM_carry_5 : decode cxM_carry 5 = .ok (.aload_n 2, 1) := by decide +kernel
theorem dxM_carry_6 : decode cxM_carry 6 = .ok (.areturn, 1) := by decide +kernel
theorem dxM_raise_0 : decode cxM_raise 0 = .ok (.aload_n 0, 1) := by decide +kernel
theorem dxM_raise_1 : decode cxM_raise 1 = .ok (.aload_n 0, 1) := by decide +kernel
theorem dxM_raise_2 : decode cxM_raise 2 = .ok (.getfield 25, 3) := by decide +kernel
theorem dxM_raise_5 : decode cxM_raise 5 = .ok (.aload_n 0, 1) := by decide +kernel
theorem dxM_raise_6 : decode cxM_raise 6 = .ok (.getfield 33, 3) := by decide +kernel
theorem dxM_raise_9 : decode cxM_raise 9 = .ok (.aaload, 1) := by decide +kernel
theorem dxM_raise_10 : decode cxM_raise 10 = .ok (.putfield 63, 3) := by decide +kernel
theorem dxM_raise_13 : decode cxM_raise 13 = .ok (.aload_n 0, 1) := by decide +kernel
theorem dxM_raise_14 : decode cxM_raise 14 = .ok (.getfield 63, 3) := by decide +kernel
theorem dxM_raise_17 : decode cxM_raise 17 = .ok (.iload_n 1, 1) := by decide +kernel
theorem dxM_raise_18 : decode cxM_raise 18 = .ok (.iload_n 2, 1) := by decide +kernel
theorem dxM_raise_19 : decode cxM_raise 19 = .ok (.aload_n 3, 1) := by decide +kernel
theorem dxM_raise_20 : decode cxM_raise 20 = .ok (.invokevirtual 197, 3) := by decide +kernel
theorem dxM_raise_23 : decode cxM_raise 23 = .ok (.aload_n 0, 1) := by decide +kernel
theorem dxM_raise_24 : decode cxM_raise 24 = .ok (.dup, 1) := by decide +kernel
theorem dxM_raise_25 : decode cxM_raise 25 = .ok (.getfield 33, 3) := by decide +kernel
theorem dxM_raise_28 : decode cxM_raise 28 = .ok (.iconst 1, 1) := by decide +kernel
theorem dxM_raise_29 : decode cxM_raise 29 = .ok (.iadd, 1) := by decide +kernel
theorem dxM_raise_30 : decode cxM_raise 30 = .ok (.putfield 33, 3) := by decide +kernel
theorem dxM_raise_33 : decode cxM_raise 33 = .ok (.getstatic 178, 3) := by decide +kernel
theorem dxM_raise_36 : decode cxM_raise 36 = .ok (.areturn, 1) := by decide +kernel
theorem dxM_rethrow_0 : decode cxM_rethrow 0 = .ok (.aload_n 1, 1) := by decide +kernel
theorem dxM_rethrow_1 : decode cxM_rethrow 1 = .ok (.ifnonnull 11, 3) := by decide +kernel
theorem dxM_rethrow_4 : decode cxM_rethrow 4 = .ok (.aload_n 0, 1) := by decide +kernel
theorem dxM_rethrow_5 : decode cxM_rethrow 5 = .ok (.iconst 1, 1) := by decide +kernel
theorem dxM_rethrow_6 : decode cxM_rethrow 6 = .ok (.iconst 0, 1) := by decide +kernel
theorem dxM_rethrow_7 : decode cxM_rethrow 7 = .ok (.aconst_null, 1) := by decide +kernel
theorem dxM_rethrow_8 : decode cxM_rethrow 8 = .ok (.invokevirtual 142, 3) := by decide +kernel
theorem dxM_rethrow_11 : decode cxM_rethrow 11 = .ok (.areturn, 1) := by decide +kernel
theorem dxM_rethrow_12 : decode cxM_rethrow 12 = .ok (.aload_n 0, 1) := by decide +kernel
theorem dxM_rethrow_13 : decode cxM_rethrow 13 = .ok (.aload_n 1, 1) := by decide +kernel
theorem dxM_rethrow_14 : decode cxM_rethrow 14 = .ok (.putfield 63, 3) := by decide +kernel
theorem dxM_rethrow_17 : decode cxM_rethrow 17 = .ok (.getstatic 178, 3) := by decide +kernel
theorem dxM_rethrow_20 : decode cxM_rethrow 20 = .ok (.areturn, 1) := by decide +kernel
theorem dxM_divide_0 : decode cxM_divide 0 = .ok (.aload_n 0, 1) := by decide +kernel
theorem dxM_divide_1 : decode cxM_divide 1 = .ok (.getfield 11, 3) := by decide +kernel
theorem dxM_divide_4 : decode cxM_divide 4 = .ok (.aload_n 1, 1) := by decide +kernel
theorem dxM_divide_5 : decode cxM_divide 5 = .ok (.getfield 139, 3) := by decide +kernel
theorem dxM_divide_8 : decode cxM_divide 8 = .ok (.iaload, 1) := by decide +kernel
theorem dxM_divide_9 : decode cxM_divide 9 = .ok (.istore_n 2, 1) := by decide +kernel
theorem dxM_divide_10 : decode cxM_divide 10 = .ok (.iload_n 2, 1) := by decide +kernel
theorem dxM_divide_11 : decode cxM_divide 11 = .ok (.ifCond .ne 11, 3) := by decide +kernel
theorem dxM_divide_14 : decode cxM_divide 14 = .ok (.aload_n 0, 1) := by decide +kernel
theorem dxM_divide_15 : decode cxM_divide 15 = .ok (.iconst 2, 1) := by decide +kernel
theorem dxM_divide_16 : decode cxM_divide 16 = .ok (.iconst 0, 1) := by decide +kernel
theorem dxM_divide_17 : decode cxM_divide 17 = .ok (.aconst_null, 1) := by decide +kernel
theorem dxM_divide_18 : decode cxM_divide 18 = .ok (.invokevirtual 142, 3) := by decide +kernel
theorem dxM_divide_21 : decode cxM_divide 21 = .ok (.areturn, 1) := by decide +kernel
theorem dxM_divide_22 : decode cxM_divide 22 = .ok (.aload_n 0, 1) := by decide +kernel
theorem dxM_divide_23 : decode cxM_divide 23 = .ok (.getfield 11, 3) := by decide +kernel
theorem dxM_divide_26 : decode cxM_divide 26 = .ok (.aload_n 1, 1) := by decide +kernel
theorem dxM_divide_27 : decode cxM_divide 27 = .ok (.getfield 126, 3) := by decide +kernel
theorem dxM_divide_30 : decode cxM_divide 30 = .ok (.dup2, 1) := by decide +kernel
theorem dxM_divide_31 : decode cxM_divide 31 = .ok (.iaload, 1) := by decide +kernel
theorem dxM_divide_32 : decode cxM_divide 32 = .ok (.iload_n 2, 1) := by decide +kernel
theorem dxM_divide_33 : decode cxM_divide 33 = .ok (.idiv, 1) := by decide +kernel
theorem dxM_divide_34 : decode cxM_divide 34 = .ok (.iastore, 1) := by decide +kernel
theorem dxM_divide_35 : decode cxM_divide 35 = .ok (.getstatic 166, 3) := by decide +kernel
theorem dxM_divide_38 : decode cxM_divide 38 = .ok (.areturn, 1) := by decide +kernel
theorem dxM_index_0 : decode cxM_index 0 = .ok (.aload_n 0, 1) := by decide +kernel
theorem dxM_index_1 : decode cxM_index 1 = .ok (.getfield 11, 3) := by decide +kernel
theorem dxM_index_4 : decode cxM_index 4 = .ok (.aload_n 1, 1) := by decide +kernel
theorem dxM_index_5 : decode cxM_index 5 = .ok (.getfield 126, 3) := by decide +kernel
theorem dxM_index_8 : decode cxM_index 8 = .ok (.iaload, 1) := by decide +kernel
theorem dxM_index_9 : decode cxM_index 9 = .ok (.istore_n 2, 1) := by decide +kernel
theorem dxM_index_10 : decode cxM_index 10 = .ok (.iload_n 2, 1) := by decide +kernel
theorem dxM_index_11 : decode cxM_index 11 = .ok (.ifCond .lt 15, 3) := by decide +kernel
theorem dxM_index_14 : decode cxM_index 14 = .ok (.iload_n 2, 1) := by decide +kernel
theorem dxM_index_15 : decode cxM_index 15 = .ok (.aload_n 1, 1) := by decide +kernel
theorem dxM_index_16 : decode cxM_index 16 = .ok (.getfield 139, 3) := by decide +kernel
theorem dxM_index_19 : decode cxM_index 19 = .ok (.if_icmp .ge 7, 3) := by decide +kernel
theorem dxM_index_22 : decode cxM_index 22 = .ok (.iconst 1, 1) := by decide +kernel
theorem dxM_index_23 : decode cxM_index 23 = .ok (.goto 4, 3) := by decide +kernel
theorem dxM_index_26 : decode cxM_index 26 = .ok (.iconst 0, 1) := by decide +kernel
theorem dxM_index_27 : decode cxM_index 27 = .ok (.istore_n 3, 1) := by decide +kernel
theorem dxM_index_28 : decode cxM_index 28 = .ok (.iload_n 3, 1) := by decide +kernel
theorem dxM_index_29 : decode cxM_index 29 = .ok (.ifCond .eq 9, 3) := by decide +kernel
theorem dxM_index_32 : decode cxM_index 32 = .ok (.getstatic 166, 3) := by decide +kernel
theorem dxM_index_35 : decode cxM_index 35 = .ok (.goto 10, 3) := by decide +kernel
theorem dxM_index_38 : decode cxM_index 38 = .ok (.aload_n 0, 1) := by decide +kernel
theorem dxM_index_39 : decode cxM_index 39 = .ok (.iconst 3, 1) := by decide +kernel
theorem dxM_index_40 : decode cxM_index 40 = .ok (.iload_n 2, 1) := by decide +kernel
theorem dxM_index_41 : decode cxM_index 41 = .ok (.aconst_null, 1) := by decide +kernel
theorem dxM_index_42 : decode cxM_index 42 = .ok (.invokevirtual 142, 3) := by decide +kernel
theorem dxM_index_45 : decode cxM_index 45 = .ok (.areturn, 1) := by decide +kernel
theorem dxM_cast_0 : decode cxM_cast 0 = .ok (.aload_n 2, 1) := by decide +kernel
theorem dxM_cast_1 : decode cxM_cast 1 = .ok (.ifnull 21, 3) := by decide +kernel
theorem dxM_cast_4 : decode cxM_cast 4 = .ok (.aload_n 0, 1) := by decide +kernel
theorem dxM_cast_5 : decode cxM_cast 5 = .ok (.getfield 55, 3) := by decide +kernel
theorem dxM_cast_8 : decode cxM_cast 8 = .ok (.aload_n 2, 1) := by decide +kernel
theorem dxM_cast_9 : decode cxM_cast 9 = .ok (.getfield 185, 3) := by decide +kernel
theorem dxM_cast_12 : decode cxM_cast 12 = .ok (.aload_n 1, 1) := by decide +kernel
theorem dxM_cast_13 : decode cxM_cast 13 = .ok (.getfield 126, 3) := by decide +kernel
theorem dxM_cast_16 : decode cxM_cast 16 = .ok (.invokevirtual 188, 3) := by decide +kernel
theorem dxM_cast_19 : decode cxM_cast 19 = .ok (.ifCond .eq 7, 3) := by decide +kernel
theorem dxM_cast_22 : decode cxM_cast 22 = .ok (.getstatic 166, 3) := by decide +kernel
theorem dxM_cast_25 : decode cxM_cast 25 = .ok (.areturn, 1) := by decide +kernel
theorem dxM_cast_26 : decode cxM_cast 26 = .ok (.aload_n 0, 1) := by decide +kernel
theorem dxM_cast_27 : decode cxM_cast 27 = .ok (.iconst 4, 1) := by decide +kernel
theorem dxM_cast_28 : decode cxM_cast 28 = .ok (.aload_n 2, 1) := by decide +kernel
theorem dxM_cast_29 : decode cxM_cast 29 = .ok (.getfield 185, 3) := by decide +kernel
theorem dxM_cast_32 : decode cxM_cast 32 = .ok (.aconst_null, 1) := by decide +kernel
theorem dxM_cast_33 : decode cxM_cast 33 = .ok (.invokevirtual 142, 3) := by decide +kernel
theorem dxM_cast_36 : decode cxM_cast 36 = .ok (.areturn, 1) := by decide +kernel
theorem dxM_wake_0 : decode cxM_wake 0 = .ok (.aload_n 0, 1) := by decide +kernel
theorem dxM_wake_1 : decode cxM_wake 1 = .ok (.getfield 17, 3) := by decide +kernel
theorem dxM_wake_4 : decode cxM_wake 4 = .ok (.aload_n 1, 1) := by decide +kernel
theorem dxM_wake_5 : decode cxM_wake 5 = .ok (.getfield 126, 3) := by decide +kernel
theorem dxM_wake_8 : decode cxM_wake 8 = .ok (.iaload, 1) := by decide +kernel
theorem dxM_wake_9 : decode cxM_wake 9 = .ok (.ifCond .ne 15, 3) := by decide +kernel
theorem dxM_wake_12 : decode cxM_wake 12 = .ok (.aload_n 0, 1) := by decide +kernel
theorem dxM_wake_13 : decode cxM_wake 13 = .ok (.bipush 6, 2) := by decide +kernel
theorem dxM_wake_15 : decode cxM_wake 15 = .ok (.aload_n 1, 1) := by decide +kernel
theorem dxM_wake_16 : decode cxM_wake 16 = .ok (.getfield 126, 3) := by decide +kernel
theorem dxM_wake_19 : decode cxM_wake 19 = .ok (.aconst_null, 1) := by decide +kernel
theorem dxM_wake_20 : decode cxM_wake 20 = .ok (.invokevirtual 142, 3) := by decide +kernel
theorem dxM_wake_23 : decode cxM_wake 23 = .ok (.areturn, 1) := by decide +kernel
theorem dxM_wake_24 : decode cxM_wake 24 = .ok (.aload_n 0, 1) := by decide +kernel
theorem dxM_wake_25 : decode cxM_wake 25 = .ok (.bipush 100, 2) := by decide +kernel
theorem dxM_wake_27 : decode cxM_wake 27 = .ok (.aload_n 1, 1) := by decide +kernel
theorem dxM_wake_28 : decode cxM_wake 28 = .ok (.getfield 126, 3) := by decide +kernel
theorem dxM_wake_31 : decode cxM_wake 31 = .ok (.iadd, 1) := by decide +kernel
theorem dxM_wake_32 : decode cxM_wake 32 = .ok (.invokevirtual 201, 3) := by decide +kernel
theorem dxM_wake_35 : decode cxM_wake 35 = .ok (.getstatic 166, 3) := by decide +kernel
theorem dxM_wake_38 : decode cxM_wake 38 = .ok (.areturn, 1) := by decide +kernel
theorem dxM_note_0 : decode cxM_note 0 = .ok (.aload_n 1, 1) := by decide +kernel
theorem dxM_note_1 : decode cxM_note 1 = .ok (.getfield 95, 3) := by decide +kernel
theorem dxM_note_4 : decode cxM_note 4 = .ok (.lookupswitch 132 #[(0, 52), (1, 63), (2, 79), (3, 95), (22, 114)], 52) := by decide +kernel
theorem dxM_note_56 : decode cxM_note 56 = .ok (.aload_n 0, 1) := by decide +kernel
theorem dxM_note_57 : decode cxM_note 57 = .ok (.aload_n 1, 1) := by decide +kernel
theorem dxM_note_58 : decode cxM_note 58 = .ok (.getfield 126, 3) := by decide +kernel
theorem dxM_note_61 : decode cxM_note 61 = .ok (.invokevirtual 201, 3) := by decide +kernel
theorem dxM_note_64 : decode cxM_note 64 = .ok (.goto 72, 3) := by decide +kernel
theorem dxM_note_67 : decode cxM_note 67 = .ok (.aload_n 0, 1) := by decide +kernel
theorem dxM_note_68 : decode cxM_note 68 = .ok (.aload_n 0, 1) := by decide +kernel
theorem dxM_note_69 : decode cxM_note 69 = .ok (.getfield 11, 3) := by decide +kernel
theorem dxM_note_72 : decode cxM_note 72 = .ok (.aload_n 1, 1) := by decide +kernel
theorem dxM_note_73 : decode cxM_note 73 = .ok (.getfield 126, 3) := by decide +kernel
theorem dxM_note_76 : decode cxM_note 76 = .ok (.iaload, 1) := by decide +kernel
theorem dxM_note_77 : decode cxM_note 77 = .ok (.invokevirtual 201, 3) := by decide +kernel
theorem dxM_note_80 : decode cxM_note 80 = .ok (.goto 56, 3) := by decide +kernel
theorem dxM_note_83 : decode cxM_note 83 = .ok (.aload_n 0, 1) := by decide +kernel
theorem dxM_note_84 : decode cxM_note 84 = .ok (.getfield 11, 3) := by decide +kernel
theorem dxM_note_87 : decode cxM_note 87 = .ok (.aload_n 1, 1) := by decide +kernel
theorem dxM_note_88 : decode cxM_note 88 = .ok (.getfield 126, 3) := by decide +kernel
theorem dxM_note_91 : decode cxM_note 91 = .ok (.aload_n 1, 1) := by decide +kernel
theorem dxM_note_92 : decode cxM_note 92 = .ok (.getfield 139, 3) := by decide +kernel
theorem dxM_note_95 : decode cxM_note 95 = .ok (.iastore, 1) := by decide +kernel
theorem dxM_note_96 : decode cxM_note 96 = .ok (.goto 40, 3) := by decide +kernel
theorem dxM_note_99 : decode cxM_note 99 = .ok (.aload_n 0, 1) := by decide +kernel
theorem dxM_note_100 : decode cxM_note 100 = .ok (.getfield 11, 3) := by decide +kernel
theorem dxM_note_103 : decode cxM_note 103 = .ok (.aload_n 1, 1) := by decide +kernel
theorem dxM_note_104 : decode cxM_note 104 = .ok (.getfield 126, 3) := by decide +kernel
theorem dxM_note_107 : decode cxM_note 107 = .ok (.dup2, 1) := by decide +kernel
theorem dxM_note_108 : decode cxM_note 108 = .ok (.iaload, 1) := by decide +kernel
theorem dxM_note_109 : decode cxM_note 109 = .ok (.aload_n 1, 1) := by decide +kernel
theorem dxM_note_110 : decode cxM_note 110 = .ok (.getfield 139, 3) := by decide +kernel
theorem dxM_note_113 : decode cxM_note 113 = .ok (.iadd, 1) := by decide +kernel
theorem dxM_note_114 : decode cxM_note 114 = .ok (.iastore, 1) := by decide +kernel
theorem dxM_note_115 : decode cxM_note 115 = .ok (.goto 21, 3) := by decide +kernel
theorem dxM_note_118 : decode cxM_note 118 = .ok (.aload_n 2, 1) := by decide +kernel
theorem dxM_note_119 : decode cxM_note 119 = .ok (.ifnull 17, 3) := by decide +kernel
theorem dxM_note_122 : decode cxM_note 122 = .ok (.aload_n 0, 1) := by decide +kernel
theorem dxM_note_123 : decode cxM_note 123 = .ok (.aload_n 2, 1) := by decide +kernel
theorem dxM_note_124 : decode cxM_note 124 = .ok (.invokevirtual 205, 3) := by decide +kernel
theorem dxM_note_127 : decode cxM_note 127 = .ok (.getfield 185, 3) := by decide +kernel
theorem dxM_note_130 : decode cxM_note 130 = .ok (.invokevirtual 201, 3) := by decide +kernel
theorem dxM_note_133 : decode cxM_note 133 = .ok (.goto 3, 3) := by decide +kernel
theorem dxM_note_136 : decode cxM_note 136 = .ok (.getstatic 166, 3) := by decide +kernel
theorem dxM_note_139 : decode cxM_note 139 = .ok (.areturn, 1) := by decide +kernel
theorem dxM_addToLog_0 : decode cxM_addToLog 0 = .ok (.aload_n 0, 1) := by decide +kernel
theorem dxM_addToLog_1 : decode cxM_addToLog 1 = .ok (.getfield 20, 3) := by decide +kernel
theorem dxM_addToLog_4 : decode cxM_addToLog 4 = .ok (.aload_n 0, 1) := by decide +kernel
theorem dxM_addToLog_5 : decode cxM_addToLog 5 = .ok (.getfield 29, 3) := by decide +kernel
theorem dxM_addToLog_8 : decode cxM_addToLog 8 = .ok (.iload_n 1, 1) := by decide +kernel
theorem dxM_addToLog_9 : decode cxM_addToLog 9 = .ok (.iastore, 1) := by decide +kernel
theorem dxM_addToLog_10 : decode cxM_addToLog 10 = .ok (.aload_n 0, 1) := by decide +kernel
theorem dxM_addToLog_11 : decode cxM_addToLog 11 = .ok (.dup, 1) := by decide +kernel
theorem dxM_addToLog_12 : decode cxM_addToLog 12 = .ok (.getfield 29, 3) := by decide +kernel
theorem dxM_addToLog_15 : decode cxM_addToLog 15 = .ok (.iconst 1, 1) := by decide +kernel
theorem dxM_addToLog_16 : decode cxM_addToLog 16 = .ok (.iadd, 1) := by decide +kernel
theorem dxM_addToLog_17 : decode cxM_addToLog 17 = .ok (.putfield 29, 3) := by decide +kernel
theorem dxM_addToLog_20 : decode cxM_addToLog 20 = .ok (.return_, 1) := by decide +kernel
theorem dxP_size_0 : decode cxP_size 0 = .ok (.aload_n 0, 1) := by decide +kernel
theorem dxP_size_1 : decode cxP_size 1 = .ok (.getfield 19, 3) := by decide +kernel
theorem dxP_size_4 : decode cxP_size 4 = .ok (.ireturn, 1) := by decide +kernel
theorem dxP_isFull_0 : decode cxP_isFull 0 = .ok (.aload_n 0, 1) := by decide +kernel
theorem dxP_isFull_1 : decode cxP_isFull 1 = .ok (.getfield 19, 3) := by decide +kernel
theorem dxP_isFull_4 : decode cxP_isFull 4 = .ok (.bipush 64, 2) := by decide +kernel
theorem dxP_isFull_6 : decode cxP_isFull 6 = .ok (.if_icmp .ne 7, 3) := by decide +kernel
theorem dxP_isFull_9 : decode cxP_isFull 9 = .ok (.iconst 1, 1) := by decide +kernel
theorem dxP_isFull_10 : decode cxP_isFull 10 = .ok (.goto 4, 3) := by decide +kernel
theorem dxP_isFull_13 : decode cxP_isFull 13 = .ok (.iconst 0, 1) := by decide +kernel
theorem dxP_isFull_14 : decode cxP_isFull 14 = .ok (.ireturn, 1) := by decide +kernel
theorem dxP_at_0 : decode cxP_at 0 = .ok (.aload_n 0, 1) := by decide +kernel
theorem dxP_at_1 : decode cxP_at 1 = .ok (.getfield 11, 3) := by decide +kernel
theorem dxP_at_4 : decode cxP_at 4 = .ok (.iload_n 1, 1) := by decide +kernel
theorem dxP_at_5 : decode cxP_at 5 = .ok (.aaload, 1) := by decide +kernel
theorem dxP_at_6 : decode cxP_at 6 = .ok (.areturn, 1) := by decide +kernel
theorem dxP_statementOf_0 : decode cxP_statementOf 0 = .ok (.aload_n 0, 1) := by decide +kernel
theorem dxP_statementOf_1 : decode cxP_statementOf 1 = .ok (.getfield 15, 3) := by decide +kernel
theorem dxP_statementOf_4 : decode cxP_statementOf 4 = .ok (.iload_n 1, 1) := by decide +kernel
theorem dxP_statementOf_5 : decode cxP_statementOf 5 = .ok (.iaload, 1) := by decide +kernel
theorem dxP_statementOf_6 : decode cxP_statementOf 6 = .ok (.ireturn, 1) := by decide +kernel
theorem dxP_isDefined_0 : decode cxP_isDefined 0 = .ok (.iload_n 1, 1) := by decide +kernel
theorem dxP_isDefined_1 : decode cxP_isDefined 1 = .ok (.invokestatic 34, 3) := by decide +kernel
theorem dxP_isDefined_4 : decode cxP_isDefined 4 = .ok (.ifCond .eq 17, 3) := by decide +kernel
theorem dxP_isDefined_7 : decode cxP_isDefined 7 = .ok (.aload_n 0, 1) := by decide +kernel
theorem dxP_isDefined_8 : decode cxP_isDefined 8 = .ok (.getfield 15, 3) := by decide +kernel
theorem dxP_isDefined_11 : decode cxP_isDefined 11 = .ok (.iload_n 1, 1) := by decide +kernel
theorem dxP_isDefined_12 : decode cxP_isDefined 12 = .ok (.iaload, 1) := by decide +kernel
theorem dxP_isDefined_13 : decode cxP_isDefined 13 = .ok (.iconst (-1), 1) := by decide +kernel
theorem dxP_isDefined_14 : decode cxP_isDefined 14 = .ok (.if_icmp .eq 7, 3) := by decide +kernel
theorem dxP_isDefined_17 : decode cxP_isDefined 17 = .ok (.iconst 1, 1) := by decide +kernel
theorem dxP_isDefined_18 : decode cxP_isDefined 18 = .ok (.goto 4, 3) := by decide +kernel
theorem dxP_isDefined_21 : decode cxP_isDefined 21 = .ok (.iconst 0, 1) := by decide +kernel
theorem dxP_isDefined_22 : decode cxP_isDefined 22 = .ok (.ireturn, 1) := by decide +kernel
theorem dxP_isNode_0 : decode cxP_isNode 0 = .ok (.iload_n 1, 1) := by decide +kernel
theorem dxP_isNode_1 : decode cxP_isNode 1 = .ok (.ifCond .lt 15, 3) := by decide +kernel
theorem dxP_isNode_4 : decode cxP_isNode 4 = .ok (.iload_n 1, 1) := by decide +kernel
theorem dxP_isNode_5 : decode cxP_isNode 5 = .ok (.aload_n 0, 1) := by decide +kernel
theorem dxP_isNode_6 : decode cxP_isNode 6 = .ok (.getfield 19, 3) := by decide +kernel
theorem dxP_isNode_9 : decode cxP_isNode 9 = .ok (.if_icmp .ge 7, 3) := by decide +kernel
theorem dxP_isNode_12 : decode cxP_isNode 12 = .ok (.iconst 1, 1) := by decide +kernel
theorem dxP_isNode_13 : decode cxP_isNode 13 = .ok (.goto 4, 3) := by decide +kernel
theorem dxP_isNode_16 : decode cxP_isNode 16 = .ok (.iconst 0, 1) := by decide +kernel
theorem dxP_isNode_17 : decode cxP_isNode 17 = .ok (.ireturn, 1) := by decide +kernel
theorem dxP_isRoutine_0 : decode cxP_isRoutine 0 = .ok (.iload_n 0, 1) := by decide +kernel
theorem dxP_isRoutine_1 : decode cxP_isRoutine 1 = .ok (.ifCond .lt 13, 3) := by decide +kernel
theorem dxP_isRoutine_4 : decode cxP_isRoutine 4 = .ok (.iload_n 0, 1) := by decide +kernel
theorem dxP_isRoutine_5 : decode cxP_isRoutine 5 = .ok (.bipush 6, 2) := by decide +kernel
theorem dxP_isRoutine_7 : decode cxP_isRoutine 7 = .ok (.if_icmp .ge 7, 3) := by decide +kernel
theorem dxP_isRoutine_10 : decode cxP_isRoutine 10 = .ok (.iconst 1, 1) := by decide +kernel
theorem dxP_isRoutine_11 : decode cxP_isRoutine 11 = .ok (.goto 4, 3) := by decide +kernel
theorem dxP_isRoutine_14 : decode cxP_isRoutine 14 = .ok (.iconst 0, 1) := by decide +kernel
theorem dxP_isRoutine_15 : decode cxP_isRoutine 15 = .ok (.ireturn, 1) := by decide +kernel
theorem dxP_isVariable_0 : decode cxP_isVariable 0 = .ok (.iload_n 0, 1) := by decide +kernel
theorem dxP_isVariable_1 : decode cxP_isVariable 1 = .ok (.ifCond .lt 12, 3) := by decide +kernel
theorem dxP_isVariable_4 : decode cxP_isVariable 4 = .ok (.iload_n 0, 1) := by decide +kernel
theorem dxP_isVariable_5 : decode cxP_isVariable 5 = .ok (.iconst 4, 1) := by decide +kernel
theorem dxP_isVariable_6 : decode cxP_isVariable 6 = .ok (.if_icmp .ge 7, 3) := by decide +kernel
theorem dxP_isVariable_9 : decode cxP_isVariable 9 = .ok (.iconst 1, 1) := by decide +kernel
theorem dxP_isVariable_10 : decode cxP_isVariable 10 = .ok (.goto 4, 3) := by decide +kernel
theorem dxP_isVariable_13 : decode cxP_isVariable 13 = .ok (.iconst 0, 1) := by decide +kernel
theorem dxP_isVariable_14 : decode cxP_isVariable 14 = .ok (.ireturn, 1) := by decide +kernel
theorem dxP_isMonitor_0 : decode cxP_isMonitor 0 = .ok (.iload_n 0, 1) := by decide +kernel
theorem dxP_isMonitor_1 : decode cxP_isMonitor 1 = .ok (.ifCond .lt 12, 3) := by decide +kernel
theorem dxP_isMonitor_4 : decode cxP_isMonitor 4 = .ok (.iload_n 0, 1) := by decide +kernel
theorem dxP_isMonitor_5 : decode cxP_isMonitor 5 = .ok (.iconst 2, 1) := by decide +kernel
theorem dxP_isMonitor_6 : decode cxP_isMonitor 6 = .ok (.if_icmp .ge 7, 3) := by decide +kernel
theorem dxP_isMonitor_9 : decode cxP_isMonitor 9 = .ok (.iconst 1, 1) := by decide +kernel
theorem dxP_isMonitor_10 : decode cxP_isMonitor 10 = .ok (.goto 4, 3) := by decide +kernel
theorem dxP_isMonitor_13 : decode cxP_isMonitor 13 = .ok (.iconst 0, 1) := by decide +kernel
theorem dxP_isMonitor_14 : decode cxP_isMonitor 14 = .ok (.ireturn, 1) := by decide +kernel
theorem dxP_fits_0 : decode cxP_fits 0 = .ok (.iload_n 1, 1) := by decide +kernel
theorem dxP_fits_1 : decode cxP_fits 1 = .ok (.tableswitch 313 0 22 #[107, 109, 109, 109, 114, 136, 172, 107, 109, 197, 202, 107, 202, 211, 114, 114, 245, 265, 202, 109, 287, 308, 107], 107) := by decide +kernel
theorem dxP_fits_108 : decode cxP_fits 108 = .ok (.iconst 1, 1) := by decide +kernel
theorem dxP_fits_109 : decode cxP_fits 109 = .ok (.ireturn, 1) := by decide +kernel
theorem dxP_fits_110 : decode cxP_fits 110 = .ok (.iload_n 2, 1) := by decide +kernel
theorem dxP_fits_111 : decode cxP_fits 111 = .ok (.invokestatic 38, 3) := by decide +kernel
theorem dxP_fits_114 : decode cxP_fits 114 = .ok (.ireturn, 1) := by decide +kernel
theorem dxP_fits_115 : decode cxP_fits 115 = .ok (.aload_n 0, 1) := by decide +kernel
theorem dxP_fits_116 : decode cxP_fits 116 = .ok (.iload_n 2, 1) := by decide +kernel
theorem dxP_fits_117 : decode cxP_fits 117 = .ok (.invokevirtual 41, 3) := by decide +kernel
theorem dxP_fits_120 : decode cxP_fits 120 = .ok (.ifCond .eq 15, 3) := by decide +kernel
theorem dxP_fits_123 : decode cxP_fits 123 = .ok (.aload_n 0, 1) := by decide +kernel
theorem dxP_fits_124 : decode cxP_fits 124 = .ok (.iload_n 3, 1) := by decide +kernel
theorem dxP_fits_125 : decode cxP_fits 125 = .ok (.invokevirtual 41, 3) := by decide +kernel
theorem dxP_fits_128 : decode cxP_fits 128 = .ok (.ifCond .eq 7, 3) := by decide +kernel
theorem dxP_fits_131 : decode cxP_fits 131 = .ok (.iconst 1, 1) := by decide +kernel
theorem dxP_fits_132 : decode cxP_fits 132 = .ok (.goto 4, 3) := by decide +kernel
theorem dxP_fits_135 : decode cxP_fits 135 = .ok (.iconst 0, 1) := by decide +kernel
theorem dxP_fits_136 : decode cxP_fits 136 = .ok (.ireturn, 1) := by decide +kernel
theorem dxP_fits_137 : decode cxP_fits 137 = .ok (.iload_n 2, 1) := by decide +kernel
theorem dxP_fits_138 : decode cxP_fits 138 = .ok (.invokestatic 38, 3) := by decide +kernel
theorem dxP_fits_141 : decode cxP_fits 141 = .ok (.ifCond .eq 30, 3) := by decide +kernel
theorem dxP_fits_144 : decode cxP_fits 144 = .ok (.aload_n 0, 1) := by decide +kernel
theorem dxP_fits_145 : decode cxP_fits 145 = .ok (.iload_n 3, 1) := by decide +kernel
theorem dxP_fits_146 : decode cxP_fits 146 = .ok (.invokevirtual 41, 3) := by decide +kernel
theorem dxP_fits_149 : decode cxP_fits 149 = .ok (.ifCond .eq 22, 3) := by decide +kernel
theorem dxP_fits_152 : decode cxP_fits 152 = .ok (.iload 4, 2) := by decide +kernel
theorem dxP_fits_154 : decode cxP_fits 154 = .ok (.iconst (-1), 1) := by decide +kernel
theorem dxP_fits_155 : decode cxP_fits 155 = .ok (.if_icmp .eq 12, 3) := by decide +kernel
theorem dxP_fits_158 : decode cxP_fits 158 = .ok (.aload_n 0, 1) := by decide +kernel
theorem dxP_fits_159 : decode cxP_fits 159 = .ok (.iload 4, 2) := by decide +kernel
theorem dxP_fits_161 : decode cxP_fits 161 = .ok (.invokevirtual 41, 3) := by decide +kernel
theorem dxP_fits_164 : decode cxP_fits 164 = .ok (.ifCond .eq 7, 3) := by decide +kernel
theorem dxP_fits_167 : decode cxP_fits 167 = .ok (.iconst 1, 1) := by decide +kernel
theorem dxP_fits_168 : decode cxP_fits 168 = .ok (.goto 4, 3) := by decide +kernel
theorem dxP_fits_171 : decode cxP_fits 171 = .ok (.iconst 0, 1) := by decide +kernel
theorem dxP_fits_172 : decode cxP_fits 172 = .ok (.ireturn, 1) := by decide +kernel
theorem dxP_fits_173 : decode cxP_fits 173 = .ok (.iload_n 2, 1) := by decide +kernel
theorem dxP_fits_174 : decode cxP_fits 174 = .ok (.iconst 1, 1) := by decide +kernel
theorem dxP_fits_175 : decode cxP_fits 175 = .ok (.if_icmp .lt 21, 3) := by decide +kernel
theorem dxP_fits_178 : decode cxP_fits 178 = .ok (.iload_n 2, 1) := by decide +kernel
theorem dxP_fits_179 : decode cxP_fits 179 = .ok (.bipush 8, 2) := by decide +kernel
theorem dxP_fits_181 : decode cxP_fits 181 = .ok (.if_icmp .gt 15, 3) := by decide +kernel
theorem dxP_fits_184 : decode cxP_fits 184 = .ok (.aload_n 0, 1) := by decide +kernel
theorem dxP_fits_185 : decode cxP_fits 185 = .ok (.iload_n 3, 1) := by decide +kernel
theorem dxP_fits_186 : decode cxP_fits 186 = .ok (.invokevirtual 41, 3) := by decide +kernel
theorem dxP_fits_189 : decode cxP_fits 189 = .ok (.ifCond .eq 7, 3) := by decide +kernel
theorem dxP_fits_192 : decode cxP_fits 192 = .ok (.iconst 1, 1) := by decide +kernel
theorem dxP_fits_193 : decode cxP_fits 193 = .ok (.goto 4, 3) := by decide +kernel
theorem dxP_fits_196 : decode cxP_fits 196 = .ok (.iconst 0, 1) := by decide +kernel
theorem dxP_fits_197 : decode cxP_fits 197 = .ok (.ireturn, 1) := by decide +kernel
theorem dxP_fits_198 : decode cxP_fits 198 = .ok (.iload_n 2, 1) := by decide +kernel
theorem dxP_fits_199 : decode cxP_fits 199 = .ok (.invokestatic 34, 3) := by decide +kernel
theorem dxP_fits_202 : decode cxP_fits 202 = .ok (.ireturn, 1) := by decide +kernel
theorem dxP_fits_203 : decode cxP_fits 203 = .ok (.aload_n 0, 1) := by decide +kernel
theorem dxP_fits_204 : decode cxP_fits 204 = .ok (.getfield 23, 3) := by decide +kernel
theorem dxP_fits_207 : decode cxP_fits 207 = .ok (.iload_n 2, 1) := by decide +kernel
theorem dxP_fits_208 : decode cxP_fits 208 = .ok (.invokevirtual 44, 3) := by decide +kernel
theorem dxP_fits_211 : decode cxP_fits 211 = .ok (.ireturn, 1) := by decide +kernel
theorem dxP_fits_212 : decode cxP_fits 212 = .ok (.aload_n 0, 1) := by decide +kernel
theorem dxP_fits_213 : decode cxP_fits 213 = .ok (.iload_n 2, 1) := by decide +kernel
theorem dxP_fits_214 : decode cxP_fits 214 = .ok (.invokevirtual 41, 3) := by decide +kernel
theorem dxP_fits_217 : decode cxP_fits 217 = .ok (.ifCond .eq 27, 3) := by decide +kernel
theorem dxP_fits_220 : decode cxP_fits 220 = .ok (.aload_n 0, 1) := by decide +kernel
theorem dxP_fits_221 : decode cxP_fits 221 = .ok (.getfield 23, 3) := by decide +kernel
theorem dxP_fits_224 : decode cxP_fits 224 = .ok (.iload_n 3, 1) := by decide +kernel
theorem dxP_fits_225 : decode cxP_fits 225 = .ok (.invokevirtual 44, 3) := by decide +kernel
theorem dxP_fits_228 : decode cxP_fits 228 = .ok (.ifCond .eq 16, 3) := by decide +kernel
theorem dxP_fits_231 : decode cxP_fits 231 = .ok (.aload_n 0, 1) := by decide +kernel
theorem dxP_fits_232 : decode cxP_fits 232 = .ok (.iload 4, 2) := by decide +kernel
theorem dxP_fits_234 : decode cxP_fits 234 = .ok (.invokevirtual 41, 3) := by decide +kernel
theorem dxP_fits_237 : decode cxP_fits 237 = .ok (.ifCond .eq 7, 3) := by decide +kernel
theorem dxP_fits_240 : decode cxP_fits 240 = .ok (.iconst 1, 1) := by decide +kernel
theorem dxP_fits_241 : decode cxP_fits 241 = .ok (.goto 4, 3) := by decide +kernel
theorem dxP_fits_244 : decode cxP_fits 244 = .ok (.iconst 0, 1) := by decide +kernel
theorem dxP_fits_245 : decode cxP_fits 245 = .ok (.ireturn, 1) := by decide +kernel
theorem dxP_fits_246 : decode cxP_fits 246 = .ok (.iload_n 2, 1) := by decide +kernel
theorem dxP_fits_247 : decode cxP_fits 247 = .ok (.invokestatic 38, 3) := by decide +kernel
theorem dxP_fits_250 : decode cxP_fits 250 = .ok (.ifCond .eq 14, 3) := by decide +kernel
theorem dxP_fits_253 : decode cxP_fits 253 = .ok (.iload_n 3, 1) := by decide +kernel
theorem dxP_fits_254 : decode cxP_fits 254 = .ok (.invokestatic 38, 3) := by decide +kernel
theorem dxP_fits_257 : decode cxP_fits 257 = .ok (.ifCond .eq 7, 3) := by decide +kernel
theorem dxP_fits_260 : decode cxP_fits 260 = .ok (.iconst 1, 1) := by decide +kernel
theorem dxP_fits_261 : decode cxP_fits 261 = .ok (.goto 4, 3) := by decide +kernel
theorem dxP_fits_264 : decode cxP_fits 264 = .ok (.iconst 0, 1) := by decide +kernel
theorem dxP_fits_265 : decode cxP_fits 265 = .ok (.ireturn, 1) := by decide +kernel
theorem dxP_fits_266 : decode cxP_fits 266 = .ok (.iload_n 2, 1) := by decide +kernel
theorem dxP_fits_267 : decode cxP_fits 267 = .ok (.invokestatic 38, 3) := by decide +kernel
theorem dxP_fits_270 : decode cxP_fits 270 = .ok (.ifCond .eq 16, 3) := by decide +kernel
theorem dxP_fits_273 : decode cxP_fits 273 = .ok (.iload_n 3, 1) := by decide +kernel
theorem dxP_fits_274 : decode cxP_fits 274 = .ok (.ifCond .lt 12, 3) := by decide +kernel
theorem dxP_fits_277 : decode cxP_fits 277 = .ok (.iload_n 3, 1) := by decide +kernel
theorem dxP_fits_278 : decode cxP_fits 278 = .ok (.iconst 4, 1) := by decide +kernel
theorem dxP_fits_279 : decode cxP_fits 279 = .ok (.if_icmp .gt 7, 3) := by decide +kernel
theorem dxP_fits_282 : decode cxP_fits 282 = .ok (.iconst 1, 1) := by decide +kernel
theorem dxP_fits_283 : decode cxP_fits 283 = .ok (.goto 4, 3) := by decide +kernel
theorem dxP_fits_286 : decode cxP_fits 286 = .ok (.iconst 0, 1) := by decide +kernel
theorem dxP_fits_287 : decode cxP_fits 287 = .ok (.ireturn, 1) := by decide +kernel
theorem dxP_fits_288 : decode cxP_fits 288 = .ok (.iload_n 2, 1) := by decide +kernel
theorem dxP_fits_289 : decode cxP_fits 289 = .ok (.invokestatic 49, 3) := by decide +kernel
theorem dxP_fits_292 : decode cxP_fits 292 = .ok (.ifCond .eq 15, 3) := by decide +kernel
theorem dxP_fits_295 : decode cxP_fits 295 = .ok (.aload_n 0, 1) := by decide +kernel
theorem dxP_fits_296 : decode cxP_fits 296 = .ok (.iload_n 3, 1) := by decide +kernel
theorem dxP_fits_297 : decode cxP_fits 297 = .ok (.invokevirtual 41, 3) := by decide +kernel
theorem dxP_fits_300 : decode cxP_fits 300 = .ok (.ifCond .eq 7, 3) := by decide +kernel
theorem dxP_fits_303 : decode cxP_fits 303 = .ok (.iconst 1, 1) := by decide +kernel
theorem dxP_fits_304 : decode cxP_fits 304 = .ok (.goto 4, 3) := by decide +kernel
theorem dxP_fits_307 : decode cxP_fits 307 = .ok (.iconst 0, 1) := by decide +kernel
theorem dxP_fits_308 : decode cxP_fits 308 = .ok (.ireturn, 1) := by decide +kernel
theorem dxP_fits_309 : decode cxP_fits 309 = .ok (.iload_n 2, 1) := by decide +kernel
theorem dxP_fits_310 : decode cxP_fits 310 = .ok (.invokestatic 49, 3) := by decide +kernel
theorem dxP_fits_313 : decode cxP_fits 313 = .ok (.ireturn, 1) := by decide +kernel
theorem dxP_fits_314 : decode cxP_fits 314 = .ok (.iconst 0, 1) := by decide +kernel
theorem dxP_fits_315 : decode cxP_fits 315 = .ok (.ireturn, 1) := by decide +kernel
theorem dxP_levelOf_0 : decode cxP_levelOf 0 = .ok (.iload_n 1, 1) := by decide +kernel
theorem dxP_levelOf_1 : decode cxP_levelOf 1 = .ok (.tableswitch 141 4 20 #[83, 99, 116, 141, 141, 141, 141, 141, 141, 124, 83, 83, 141, 141, 141, 141, 116], 83) := by decide +kernel
theorem dxP_levelOf_84 : decode cxP_levelOf 84 = .ok (.iconst 1, 1) := by decide +kernel
theorem dxP_levelOf_85 : decode cxP_levelOf 85 = .ok (.aload_n 0, 1) := by decide +kernel
theorem dxP_levelOf_86 : decode cxP_levelOf 86 = .ok (.iload_n 2, 1) := by decide +kernel
theorem dxP_levelOf_87 : decode cxP_levelOf 87 = .ok (.invokevirtual 52, 3) := by decide +kernel
theorem dxP_levelOf_90 : decode cxP_levelOf 90 = .ok (.aload_n 0, 1) := by decide +kernel
theorem dxP_levelOf_91 : decode cxP_levelOf 91 = .ok (.iload_n 3, 1) := by decide +kernel
theorem dxP_levelOf_92 : decode cxP_levelOf 92 = .ok (.invokevirtual 52, 3) := by decide +kernel
theorem dxP_levelOf_95 : decode cxP_levelOf 95 = .ok (.invokestatic 56, 3) := by decide +kernel
theorem dxP_levelOf_98 : decode cxP_levelOf 98 = .ok (.iadd, 1) := by decide +kernel
theorem dxP_levelOf_99 : decode cxP_levelOf 99 = .ok (.ireturn, 1) := by decide +kernel
theorem dxP_levelOf_100 : decode cxP_levelOf 100 = .ok (.iconst 1, 1) := by decide +kernel
theorem dxP_levelOf_101 : decode cxP_levelOf 101 = .ok (.aload_n 0, 1) := by decide +kernel
theorem dxP_levelOf_102 : decode cxP_levelOf 102 = .ok (.iload_n 3, 1) := by decide +kernel
theorem dxP_levelOf_103 : decode cxP_levelOf 103 = .ok (.invokevirtual 52, 3) := by decide +kernel
theorem dxP_levelOf_106 : decode cxP_levelOf 106 = .ok (.aload_n 0, 1) := by decide +kernel
theorem dxP_levelOf_107 : decode cxP_levelOf 107 = .ok (.iload 4, 2) := by decide +kernel
theorem dxP_levelOf_109 : decode cxP_levelOf 109 = .ok (.invokevirtual 52, 3) := by decide +kernel
theorem dxP_levelOf_112 : decode cxP_levelOf 112 = .ok (.invokestatic 56, 3) := by decide +kernel
theorem dxP_levelOf_115 : decode cxP_levelOf 115 = .ok (.iadd, 1) := by decide +kernel
theorem dxP_levelOf_116 : decode cxP_levelOf 116 = .ok (.ireturn, 1) := by decide +kernel
theorem dxP_levelOf_117 : decode cxP_levelOf 117 = .ok (.iconst 1, 1) := by decide +kernel
theorem dxP_levelOf_118 : decode cxP_levelOf 118 = .ok (.aload_n 0, 1) := by decide +kernel
theorem dxP_levelOf_119 : decode cxP_levelOf 119 = .ok (.iload_n 3, 1) := by decide +kernel
theorem dxP_levelOf_120 : decode cxP_levelOf 120 = .ok (.invokevirtual 52, 3) := by decide +kernel
theorem dxP_levelOf_123 : decode cxP_levelOf 123 = .ok (.iadd, 1) := by decide +kernel
theorem dxP_levelOf_124 : decode cxP_levelOf 124 = .ok (.ireturn, 1) := by decide +kernel
theorem dxP_levelOf_125 : decode cxP_levelOf 125 = .ok (.iconst 1, 1) := by decide +kernel
theorem dxP_levelOf_126 : decode cxP_levelOf 126 = .ok (.aload_n 0, 1) := by decide +kernel
theorem dxP_levelOf_127 : decode cxP_levelOf 127 = .ok (.iload_n 2, 1) := by decide +kernel
theorem dxP_levelOf_128 : decode cxP_levelOf 128 = .ok (.invokevirtual 52, 3) := by decide +kernel
theorem dxP_levelOf_131 : decode cxP_levelOf 131 = .ok (.aload_n 0, 1) := by decide +kernel
theorem dxP_levelOf_132 : decode cxP_levelOf 132 = .ok (.iload 4, 2) := by decide +kernel
theorem dxP_levelOf_134 : decode cxP_levelOf 134 = .ok (.invokevirtual 52, 3) := by decide +kernel
theorem dxP_levelOf_137 : decode cxP_levelOf 137 = .ok (.invokestatic 56, 3) := by decide +kernel
theorem dxP_levelOf_140 : decode cxP_levelOf 140 = .ok (.iadd, 1) := by decide +kernel
theorem dxP_levelOf_141 : decode cxP_levelOf 141 = .ok (.ireturn, 1) := by decide +kernel
theorem dxP_levelOf_142 : decode cxP_levelOf 142 = .ok (.iconst 1, 1) := by decide +kernel
theorem dxP_levelOf_143 : decode cxP_levelOf 143 = .ok (.ireturn, 1) := by decide +kernel
theorem dxP_levelAt_0 : decode cxP_levelAt 0 = .ok (.aload_n 0, 1) := by decide +kernel
theorem dxP_levelAt_1 : decode cxP_levelAt 1 = .ok (.iload_n 1, 1) := by decide +kernel
theorem dxP_levelAt_2 : decode cxP_levelAt 2 = .ok (.invokevirtual 41, 3) := by decide +kernel
theorem dxP_levelAt_5 : decode cxP_levelAt 5 = .ok (.ifCond .eq 15, 3) := by decide +kernel
theorem dxP_levelAt_8 : decode cxP_levelAt 8 = .ok (.aload_n 0, 1) := by decide +kernel
theorem dxP_levelAt_9 : decode cxP_levelAt 9 = .ok (.getfield 11, 3) := by decide +kernel
theorem dxP_levelAt_12 : decode cxP_levelAt 12 = .ok (.iload_n 1, 1) := by decide +kernel
theorem dxP_levelAt_13 : decode cxP_levelAt 13 = .ok (.aaload, 1) := by decide +kernel
theorem dxP_levelAt_14 : decode cxP_levelAt 14 = .ok (.getfield 62, 3) := by decide +kernel
theorem dxP_levelAt_17 : decode cxP_levelAt 17 = .ok (.goto 4, 3) := by decide +kernel
theorem dxP_levelAt_20 : decode cxP_levelAt 20 = .ok (.iconst 0, 1) := by decide +kernel
theorem dxP_levelAt_21 : decode cxP_levelAt 21 = .ok (.ireturn, 1) := by decide +kernel
theorem dxH_become_0 : decode cxH_become 0 = .ok (.aload_n 0, 1) := by decide +kernel
theorem dxH_become_1 : decode cxH_become 1 = .ok (.iload_n 1, 1) := by decide +kernel
theorem dxH_become_2 : decode cxH_become 2 = .ok (.putfield 7, 3) := by decide +kernel
theorem dxH_become_5 : decode cxH_become 5 = .ok (.aload_n 0, 1) := by decide +kernel
theorem dxH_become_6 : decode cxH_become 6 = .ok (.iload_n 2, 1) := by decide +kernel
theorem dxH_become_7 : decode cxH_become 7 = .ok (.putfield 13, 3) := by decide +kernel
theorem dxH_become_10 : decode cxH_become 10 = .ok (.aload_n 0, 1) := by decide +kernel
theorem dxH_become_11 : decode cxH_become 11 = .ok (.aload_n 3, 1) := by decide +kernel
theorem dxH_become_12 : decode cxH_become 12 = .ok (.putfield 16, 3) := by decide +kernel
theorem dxH_become_15 : decode cxH_become 15 = .ok (.aload_n 0, 1) := by decide +kernel
theorem dxH_become_16 : decode cxH_become 16 = .ok (.iconst 0, 1) := by decide +kernel
theorem dxH_become_17 : decode cxH_become 17 = .ok (.putfield 20, 3) := by decide +kernel
theorem dxH_become_20 : decode cxH_become 20 = .ok (.return_, 1) := by decide +kernel
theorem dxH_origin_0 : decode cxH_origin 0 = .ok (.aload_n 0, 1) := by decide +kernel
theorem dxH_origin_1 : decode cxH_origin 1 = .ok (.astore_n 1, 1) := by decide +kernel
theorem dxH_origin_2 : decode cxH_origin 2 = .ok (.aload_n 1, 1) := by decide +kernel
theorem dxH_origin_3 : decode cxH_origin 3 = .ok (.getfield 16, 3) := by decide +kernel
theorem dxH_origin_6 : decode cxH_origin 6 = .ok (.ifnull 11, 3) := by decide +kernel
theorem dxH_origin_9 : decode cxH_origin 9 = .ok (.aload_n 1, 1) := by decide +kernel
theorem dxH_origin_10 : decode cxH_origin 10 = .ok (.getfield 16, 3) := by decide +kernel
theorem dxH_origin_13 : decode cxH_origin 13 = .ok (.astore_n 1, 1) := by decide +kernel
theorem dxH_origin_14 : decode cxH_origin 14 = .ok (.goto (-12), 3) := by decide +kernel
theorem dxH_origin_17 : decode cxH_origin 17 = .ok (.aload_n 1, 1) := by decide +kernel
theorem dxH_origin_18 : decode cxH_origin 18 = .ok (.areturn, 1) := by decide +kernel
