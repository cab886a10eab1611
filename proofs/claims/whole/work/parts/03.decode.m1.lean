theorem dxQ_out_0 : decode cxQ_out 0 = .ok (.iload_n 0, 1) := by decide +kernel
theorem dxQ_out_1 : decode cxQ_out 1 = .ok (.iload_n 1, 1) := by decide +kernel
theorem dxQ_out_2 : decode cxQ_out 2 = .ok (.if_icmp .lt 8, 3) := by decide +kernel
theorem dxQ_out_5 : decode cxQ_out 5 = .ok (.iload_n 0, 1) := by decide +kernel
theorem dxQ_out_6 : decode cxQ_out 6 = .ok (.iload_n 2, 1) := by decide +kernel
theorem dxQ_out_7 : decode cxQ_out 7 = .ok (.if_icmp .le 7, 3) := by decide +kernel
theorem dxQ_out_10 : decode cxQ_out 10 = .ok (.iconst 1, 1) := by decide +kernel
theorem dxQ_out_11 : decode cxQ_out 11 = .ok (.goto 4, 3) := by decide +kernel
theorem dxQ_out_14 : decode cxQ_out 14 = .ok (.iconst 0, 1) := by decide +kernel
theorem dxQ_out_15 : decode cxQ_out 15 = .ok (.ireturn, 1) := by decide +kernel
theorem dxQ_is_0 : decode cxQ_is 0 = .ok (.iload_n 1, 1) := by decide +kernel
theorem dxQ_is_1 : decode cxQ_is 1 = .ok (.istore_n 3, 1) := by decide +kernel
theorem dxQ_is_2 : decode cxQ_is 2 = .ok (.iload_n 3, 1) := by decide +kernel
theorem dxQ_is_3 : decode cxQ_is 3 = .ok (.ifCond .lt 18, 3) := by decide +kernel
theorem dxQ_is_6 : decode cxQ_is 6 = .ok (.iload_n 3, 1) := by decide +kernel
theorem dxQ_is_7 : decode cxQ_is 7 = .ok (.iload_n 2, 1) := by decide +kernel
theorem dxQ_is_8 : decode cxQ_is 8 = .ok (.if_icmp .eq 13, 3) := by decide +kernel
theorem dxQ_is_11 : decode cxQ_is 11 = .ok (.aload_n 0, 1) := by decide +kernel
theorem dxQ_is_12 : decode cxQ_is 12 = .ok (.getfield 33, 3) := by decide +kernel
theorem dxQ_is_15 : decode cxQ_is 15 = .ok (.iload_n 3, 1) := by decide +kernel
theorem dxQ_is_16 : decode cxQ_is 16 = .ok (.iaload, 1) := by decide +kernel
theorem dxQ_is_17 : decode cxQ_is 17 = .ok (.istore_n 3, 1) := by decide +kernel
theorem dxQ_is_18 : decode cxQ_is 18 = .ok (.goto (-16), 3) := by decide +kernel
theorem dxQ_is_21 : decode cxQ_is 21 = .ok (.iload_n 3, 1) := by decide +kernel
theorem dxQ_is_22 : decode cxQ_is 22 = .ok (.iload_n 2, 1) := by decide +kernel
theorem dxQ_is_23 : decode cxQ_is 23 = .ok (.if_icmp .ne 7, 3) := by decide +kernel
theorem dxQ_is_26 : decode cxQ_is 26 = .ok (.iconst 1, 1) := by decide +kernel
theorem dxQ_is_27 : decode cxQ_is 27 = .ok (.goto 4, 3) := by decide +kernel
theorem dxQ_is_30 : decode cxQ_is 30 = .ok (.iconst 0, 1) := by decide +kernel
theorem dxQ_is_31 : decode cxQ_is 31 = .ok (.ireturn, 1) := by decide +kernel
theorem dxQ_declare_0 : decode cxQ_declare 0 = .ok (.iload_n 1, 1) := by decide +kernel
theorem dxQ_declare_1 : decode cxQ_declare 1 = .ok (.iconst 0, 1) := by decide +kernel
theorem dxQ_declare_2 : decode cxQ_declare 2 = .ok (.aload_n 0, 1) := by decide +kernel
theorem dxQ_declare_3 : decode cxQ_declare 3 = .ok (.getfield 37, 3) := by decide +kernel
theorem dxQ_declare_6 : decode cxQ_declare 6 = .ok (.iconst 1, 1) := by decide +kernel
theorem dxQ_declare_7 : decode cxQ_declare 7 = .ok (.isub, 1) := by decide +kernel
theorem dxQ_declare_8 : decode cxQ_declare 8 = .ok (.invokestatic 113, 3) := by decide +kernel
theorem dxQ_declare_11 : decode cxQ_declare 11 = .ok (.ifCond .eq 5, 3) := by decide +kernel
theorem dxQ_declare_14 : decode cxQ_declare 14 = .ok (.iconst (-1), 1) := by decide +kernel
theorem dxQ_declare_15 : decode cxQ_declare 15 = .ok (.ireturn, 1) := by decide +kernel
theorem dxQ_declare_16 : decode cxQ_declare 16 = .ok (.aload_n 0, 1) := by decide +kernel
theorem dxQ_declare_17 : decode cxQ_declare 17 = .ok (.getfield 37, 3) := by decide +kernel
theorem dxQ_declare_20 : decode cxQ_declare 20 = .ok (.bipush 16, 2) := by decide +kernel
theorem dxQ_declare_22 : decode cxQ_declare 22 = .ok (.if_icmp .ne 6, 3) := by decide +kernel
theorem dxQ_declare_25 : decode cxQ_declare 25 = .ok (.bipush (-2), 2) := by decide +kernel
theorem dxQ_declare_27 : decode cxQ_declare 27 = .ok (.ireturn, 1) := by decide +kernel
theorem dxQ_declare_28 : decode cxQ_declare 28 = .ok (.aload_n 0, 1) := by decide +kernel
theorem dxQ_declare_29 : decode cxQ_declare 29 = .ok (.getfield 33, 3) := by decide +kernel
theorem dxQ_declare_32 : decode cxQ_declare 32 = .ok (.aload_n 0, 1) := by decide +kernel
theorem dxQ_declare_33 : decode cxQ_declare 33 = .ok (.getfield 37, 3) := by decide +kernel
theorem dxQ_declare_36 : decode cxQ_declare 36 = .ok (.iload_n 1, 1) := by decide +kernel
theorem dxQ_declare_37 : decode cxQ_declare 37 = .ok (.iastore, 1) := by decide +kernel
theorem dxQ_declare_38 : decode cxQ_declare 38 = .ok (.aload_n 0, 1) := by decide +kernel
theorem dxQ_declare_39 : decode cxQ_declare 39 = .ok (.dup, 1) := by decide +kernel
theorem dxQ_declare_40 : decode cxQ_declare 40 = .ok (.getfield 37, 3) := by decide +kernel
theorem dxQ_declare_43 : decode cxQ_declare 43 = .ok (.iconst 1, 1) := by decide +kernel
theorem dxQ_declare_44 : decode cxQ_declare 44 = .ok (.iadd, 1) := by decide +kernel
theorem dxQ_declare_45 : decode cxQ_declare 45 = .ok (.putfield 37, 3) := by decide +kernel
theorem dxQ_declare_48 : decode cxQ_declare 48 = .ok (.aload_n 0, 1) := by decide +kernel
theorem dxQ_declare_49 : decode cxQ_declare 49 = .ok (.getfield 37, 3) := by decide +kernel
theorem dxQ_declare_52 : decode cxQ_declare 52 = .ok (.iconst 1, 1) := by decide +kernel
theorem dxQ_declare_53 : decode cxQ_declare 53 = .ok (.isub, 1) := by decide +kernel
theorem dxQ_declare_54 : decode cxQ_declare 54 = .ok (.ireturn, 1) := by decide +kernel
theorem dxQ_noNode_0 : decode cxQ_noNode 0 = .ok (.iload_n 1, 1) := by decide +kernel
theorem dxQ_noNode_1 : decode cxQ_noNode 1 = .ok (.ifCond .lt 11, 3) := by decide +kernel
theorem dxQ_noNode_4 : decode cxQ_noNode 4 = .ok (.iload_n 1, 1) := by decide +kernel
theorem dxQ_noNode_5 : decode cxQ_noNode 5 = .ok (.aload_n 0, 1) := by decide +kernel
theorem dxQ_noNode_6 : decode cxQ_noNode 6 = .ok (.getfield 117, 3) := by decide +kernel
theorem dxQ_noNode_9 : decode cxQ_noNode 9 = .ok (.if_icmp .lt 7, 3) := by decide +kernel
theorem dxQ_noNode_12 : decode cxQ_noNode 12 = .ok (.iconst 1, 1) := by decide +kernel
theorem dxQ_noNode_13 : decode cxQ_noNode 13 = .ok (.goto 4, 3) := by decide +kernel
theorem dxQ_noNode_16 : decode cxQ_noNode 16 = .ok (.iconst 0, 1) := by decide +kernel
theorem dxQ_noNode_17 : decode cxQ_noNode 17 = .ok (.ireturn, 1) := by decide +kernel
theorem dxQ_badA_0 : decode cxQ_badA 0 = .ok (.iload_n 1, 1) := by decide +kernel
theorem dxQ_badA_1 : decode cxQ_badA 1 = .ok (.tableswitch 150 0 22 #[107, 109, 109, 109, 150, 109, 116, 107, 109, 124, 131, 107, 131, 150, 150, 150, 109, 109, 131, 109, 143, 143, 107], 107) := by decide +kernel
theorem dxQ_badA_108 : decode cxQ_badA 108 = .ok (.iconst 0, 1) := by decide +kernel
theorem dxQ_badA_109 : decode cxQ_badA 109 = .ok (.ireturn, 1) := by decide +kernel
theorem dxQ_badA_110 : decode cxQ_badA 110 = .ok (.iload_n 2, 1) := by decide +kernel
theorem dxQ_badA_111 : decode cxQ_badA 111 = .ok (.iconst 0, 1) := by decide +kernel
theorem dxQ_badA_112 : decode cxQ_badA 112 = .ok (.iconst 3, 1) := by decide +kernel
theorem dxQ_badA_113 : decode cxQ_badA 113 = .ok (.invokestatic 113, 3) := by decide +kernel
theorem dxQ_badA_116 : decode cxQ_badA 116 = .ok (.ireturn, 1) := by decide +kernel
theorem dxQ_badA_117 : decode cxQ_badA 117 = .ok (.iload_n 2, 1) := by decide +kernel
theorem dxQ_badA_118 : decode cxQ_badA 118 = .ok (.iconst 1, 1) := by decide +kernel
theorem dxQ_badA_119 : decode cxQ_badA 119 = .ok (.bipush 8, 2) := by decide +kernel
theorem dxQ_badA_121 : decode cxQ_badA 121 = .ok (.invokestatic 113, 3) := by decide +kernel
theorem dxQ_badA_124 : decode cxQ_badA 124 = .ok (.ireturn, 1) := by decide +kernel
theorem dxQ_badA_125 : decode cxQ_badA 125 = .ok (.iload_n 2, 1) := by decide +kernel
theorem dxQ_badA_126 : decode cxQ_badA 126 = .ok (.iconst 0, 1) := by decide +kernel
theorem dxQ_badA_127 : decode cxQ_badA 127 = .ok (.iconst 5, 1) := by decide +kernel
theorem dxQ_badA_128 : decode cxQ_badA 128 = .ok (.invokestatic 113, 3) := by decide +kernel
theorem dxQ_badA_131 : decode cxQ_badA 131 = .ok (.ireturn, 1) := by decide +kernel
theorem dxQ_badA_132 : decode cxQ_badA 132 = .ok (.iload_n 2, 1) := by decide +kernel
theorem dxQ_badA_133 : decode cxQ_badA 133 = .ok (.iconst 0, 1) := by decide +kernel
theorem dxQ_badA_134 : decode cxQ_badA 134 = .ok (.aload_n 0, 1) := by decide +kernel
theorem dxQ_badA_135 : decode cxQ_badA 135 = .ok (.getfield 37, 3) := by decide +kernel
theorem dxQ_badA_138 : decode cxQ_badA 138 = .ok (.iconst 1, 1) := by decide +kernel
theorem dxQ_badA_139 : decode cxQ_badA 139 = .ok (.isub, 1) := by decide +kernel
theorem dxQ_badA_140 : decode cxQ_badA 140 = .ok (.invokestatic 113, 3) := by decide +kernel
theorem dxQ_badA_143 : decode cxQ_badA 143 = .ok (.ireturn, 1) := by decide +kernel
theorem dxQ_badA_144 : decode cxQ_badA 144 = .ok (.iload_n 2, 1) := by decide +kernel
theorem dxQ_badA_145 : decode cxQ_badA 145 = .ok (.iconst 0, 1) := by decide +kernel
theorem dxQ_badA_146 : decode cxQ_badA 146 = .ok (.iconst 1, 1) := by decide +kernel
theorem dxQ_badA_147 : decode cxQ_badA 147 = .ok (.invokestatic 113, 3) := by decide +kernel
theorem dxQ_badA_150 : decode cxQ_badA 150 = .ok (.ireturn, 1) := by decide +kernel
theorem dxQ_badA_151 : decode cxQ_badA 151 = .ok (.aload_n 0, 1) := by decide +kernel
theorem dxQ_badA_152 : decode cxQ_badA 152 = .ok (.iload_n 2, 1) := by decide +kernel
theorem dxQ_badA_153 : decode cxQ_badA 153 = .ok (.invokevirtual 120, 3) := by decide +kernel
theorem dxQ_badA_156 : decode cxQ_badA 156 = .ok (.ireturn, 1) := by decide +kernel
theorem dxQ_badB_0 : decode cxQ_badB 0 = .ok (.iload_n 1, 1) := by decide +kernel
theorem dxQ_badB_1 : decode cxQ_badB 1 = .ok (.tableswitch 115 4 20 #[83, 83, 83, 115, 115, 115, 115, 115, 115, 89, 83, 83, 101, 108, 115, 115, 83], 83) := by decide +kernel
theorem dxQ_badB_84 : decode cxQ_badB 84 = .ok (.aload_n 0, 1) := by decide +kernel
theorem dxQ_badB_85 : decode cxQ_badB 85 = .ok (.iload_n 2, 1) := by decide +kernel
theorem dxQ_badB_86 : decode cxQ_badB 86 = .ok (.invokevirtual 120, 3) := by decide +kernel
theorem dxQ_badB_89 : decode cxQ_badB 89 = .ok (.ireturn, 1) := by decide +kernel
theorem dxQ_badB_90 : decode cxQ_badB 90 = .ok (.iload_n 2, 1) := by decide +kernel
theorem dxQ_badB_91 : decode cxQ_badB 91 = .ok (.iconst 0, 1) := by decide +kernel
theorem dxQ_badB_92 : decode cxQ_badB 92 = .ok (.aload_n 0, 1) := by decide +kernel
theorem dxQ_badB_93 : decode cxQ_badB 93 = .ok (.getfield 37, 3) := by decide +kernel
theorem dxQ_badB_96 : decode cxQ_badB 96 = .ok (.iconst 1, 1) := by decide +kernel
theorem dxQ_badB_97 : decode cxQ_badB 97 = .ok (.isub, 1) := by decide +kernel
theorem dxQ_badB_98 : decode cxQ_badB 98 = .ok (.invokestatic 113, 3) := by decide +kernel
theorem dxQ_badB_101 : decode cxQ_badB 101 = .ok (.ireturn, 1) := by decide +kernel
theorem dxQ_badB_102 : decode cxQ_badB 102 = .ok (.iload_n 2, 1) := by decide +kernel
theorem dxQ_badB_103 : decode cxQ_badB 103 = .ok (.iconst 0, 1) := by decide +kernel
theorem dxQ_badB_104 : decode cxQ_badB 104 = .ok (.iconst 3, 1) := by decide +kernel
theorem dxQ_badB_105 : decode cxQ_badB 105 = .ok (.invokestatic 113, 3) := by decide +kernel
theorem dxQ_badB_108 : decode cxQ_badB 108 = .ok (.ireturn, 1) := by decide +kernel
theorem dxQ_badB_109 : decode cxQ_badB 109 = .ok (.iload_n 2, 1) := by decide +kernel
theorem dxQ_badB_110 : decode cxQ_badB 110 = .ok (.iconst 0, 1) := by decide +kernel
theorem dxQ_badB_111 : decode cxQ_badB 111 = .ok (.iconst 4, 1) := by decide +kernel
theorem dxQ_badB_112 : decode cxQ_badB 112 = .ok (.invokestatic 113, 3) := by decide +kernel
theorem dxQ_badB_115 : decode cxQ_badB 115 = .ok (.ireturn, 1) := by decide +kernel
theorem dxQ_badB_116 : decode cxQ_badB 116 = .ok (.iconst 0, 1) := by decide +kernel
theorem dxQ_badB_117 : decode cxQ_badB 117 = .ok (.ireturn, 1) := by decide +kernel
theorem dxQ_levelOf_0 : decode cxQ_levelOf 0 = .ok (.iconst 0, 1) := by decide +kernel
theorem dxQ_levelOf_1 : decode cxQ_levelOf 1 = .ok (.istore 5, 2) := by decide +kernel
theorem dxQ_levelOf_3 : decode cxQ_levelOf 3 = .ok (.iload_n 1, 1) := by decide +kernel
theorem dxQ_levelOf_4 : decode cxQ_levelOf 4 = .ok (.iconst 4, 1) := by decide +kernel
theorem dxQ_levelOf_5 : decode cxQ_levelOf 5 = .ok (.if_icmp .eq 15, 3) := by decide +kernel
theorem dxQ_levelOf_8 : decode cxQ_levelOf 8 = .ok (.iload_n 1, 1) := by decide +kernel
theorem dxQ_levelOf_9 : decode cxQ_levelOf 9 = .ok (.bipush 13, 2) := by decide +kernel
theorem dxQ_levelOf_11 : decode cxQ_levelOf 11 = .ok (.if_icmp .lt 28, 3) := by decide +kernel
theorem dxQ_levelOf_14 : decode cxQ_levelOf 14 = .ok (.iload_n 1, 1) := by decide +kernel
theorem dxQ_levelOf_15 : decode cxQ_levelOf 15 = .ok (.bipush 15, 2) := by decide +kernel
theorem dxQ_levelOf_17 : decode cxQ_levelOf 17 = .ok (.if_icmp .gt 22, 3) := by decide +kernel
theorem dxQ_levelOf_20 : decode cxQ_levelOf 20 = .ok (.aload_n 0, 1) := by decide +kernel
theorem dxQ_levelOf_21 : decode cxQ_levelOf 21 = .ok (.getfield 53, 3) := by decide +kernel
theorem dxQ_levelOf_24 : decode cxQ_levelOf 24 = .ok (.iload_n 2, 1) := by decide +kernel
theorem dxQ_levelOf_25 : decode cxQ_levelOf 25 = .ok (.iaload, 1) := by decide +kernel
theorem dxQ_levelOf_26 : decode cxQ_levelOf 26 = .ok (.iload 5, 2) := by decide +kernel
theorem dxQ_levelOf_28 : decode cxQ_levelOf 28 = .ok (.if_icmp .le 11, 3) := by decide +kernel
theorem dxQ_levelOf_31 : decode cxQ_levelOf 31 = .ok (.aload_n 0, 1) := by decide +kernel
theorem dxQ_levelOf_32 : decode cxQ_levelOf 32 = .ok (.getfield 53, 3) := by decide +kernel
theorem dxQ_levelOf_35 : decode cxQ_levelOf 35 = .ok (.iload_n 2, 1) := by decide +kernel
theorem dxQ_levelOf_36 : decode cxQ_levelOf 36 = .ok (.iaload, 1) := by decide +kernel
theorem dxQ_levelOf_37 : decode cxQ_levelOf 37 = .ok (.istore 5, 2) := by decide +kernel
theorem dxQ_levelOf_39 : decode cxQ_levelOf 39 = .ok (.iload_n 1, 1) := by decide +kernel
theorem dxQ_levelOf_40 : decode cxQ_levelOf 40 = .ok (.iconst 4, 1) := by decide +kernel
theorem dxQ_levelOf_41 : decode cxQ_levelOf 41 = .ok (.if_icmp .lt 9, 3) := by decide +kernel
theorem dxQ_levelOf_44 : decode cxQ_levelOf 44 = .ok (.iload_n 1, 1) := by decide +kernel
theorem dxQ_levelOf_45 : decode cxQ_levelOf 45 = .ok (.bipush 6, 2) := by decide +kernel
theorem dxQ_levelOf_47 : decode cxQ_levelOf 47 = .ok (.if_icmp .le 21, 3) := by decide +kernel
theorem dxQ_levelOf_50 : decode cxQ_levelOf 50 = .ok (.iload_n 1, 1) := by decide +kernel
theorem dxQ_levelOf_51 : decode cxQ_levelOf 51 = .ok (.bipush 14, 2) := by decide +kernel
theorem dxQ_levelOf_53 : decode cxQ_levelOf 53 = .ok (.if_icmp .eq 15, 3) := by decide +kernel
theorem dxQ_levelOf_56 : decode cxQ_levelOf 56 = .ok (.iload_n 1, 1) := by decide +kernel
theorem dxQ_levelOf_57 : decode cxQ_levelOf 57 = .ok (.bipush 15, 2) := by decide +kernel
theorem dxQ_levelOf_59 : decode cxQ_levelOf 59 = .ok (.if_icmp .eq 9, 3) := by decide +kernel
theorem dxQ_levelOf_62 : decode cxQ_levelOf 62 = .ok (.iload_n 1, 1) := by decide +kernel
theorem dxQ_levelOf_63 : decode cxQ_levelOf 63 = .ok (.bipush 20, 2) := by decide +kernel
theorem dxQ_levelOf_65 : decode cxQ_levelOf 65 = .ok (.if_icmp .ne 22, 3) := by decide +kernel
theorem dxQ_levelOf_68 : decode cxQ_levelOf 68 = .ok (.aload_n 0, 1) := by decide +kernel
theorem dxQ_levelOf_69 : decode cxQ_levelOf 69 = .ok (.getfield 53, 3) := by decide +kernel
theorem dxQ_levelOf_72 : decode cxQ_levelOf 72 = .ok (.iload_n 3, 1) := by decide +kernel
theorem dxQ_levelOf_73 : decode cxQ_levelOf 73 = .ok (.iaload, 1) := by decide +kernel
theorem dxQ_levelOf_74 : decode cxQ_levelOf 74 = .ok (.iload 5, 2) := by decide +kernel
theorem dxQ_levelOf_76 : decode cxQ_levelOf 76 = .ok (.if_icmp .le 11, 3) := by decide +kernel
theorem dxQ_levelOf_79 : decode cxQ_levelOf 79 = .ok (.aload_n 0, 1) := by decide +kernel
theorem dxQ_levelOf_80 : decode cxQ_levelOf 80 = .ok (.getfield 53, 3) := by decide +kernel
theorem dxQ_levelOf_83 : decode cxQ_levelOf 83 = .ok (.iload_n 3, 1) := by decide +kernel
theorem dxQ_levelOf_84 : decode cxQ_levelOf 84 = .ok (.iaload, 1) := by decide +kernel
theorem dxQ_levelOf_85 : decode cxQ_levelOf 85 = .ok (.istore 5, 2) := by decide +kernel
theorem dxQ_levelOf_87 : decode cxQ_levelOf 87 = .ok (.iload_n 1, 1) := by decide +kernel
theorem dxQ_levelOf_88 : decode cxQ_levelOf 88 = .ok (.iconst 5, 1) := by decide +kernel
theorem dxQ_levelOf_89 : decode cxQ_levelOf 89 = .ok (.if_icmp .ne 8, 3) := by decide +kernel
theorem dxQ_levelOf_92 : decode cxQ_levelOf 92 = .ok (.iload 4, 2) := by decide +kernel
theorem dxQ_levelOf_94 : decode cxQ_levelOf 94 = .ok (.ifCond .ge 9, 3) := by decide +kernel
theorem dxQ_levelOf_97 : decode cxQ_levelOf 97 = .ok (.iload_n 1, 1) := by decide +kernel
theorem dxQ_levelOf_98 : decode cxQ_levelOf 98 = .ok (.bipush 13, 2) := by decide +kernel
theorem dxQ_levelOf_100 : decode cxQ_levelOf 100 = .ok (.if_icmp .ne 24, 3) := by decide +kernel
theorem dxQ_levelOf_103 : decode cxQ_levelOf 103 = .ok (.aload_n 0, 1) := by decide +kernel
theorem dxQ_levelOf_104 : decode cxQ_levelOf 104 = .ok (.getfield 53, 3) := by decide +kernel
theorem dxQ_levelOf_107 : decode cxQ_levelOf 107 = .ok (.iload 4, 2) := by decide +kernel
theorem dxQ_levelOf_109 : decode cxQ_levelOf 109 = .ok (.iaload, 1) := by decide +kernel
theorem dxQ_levelOf_110 : decode cxQ_levelOf 110 = .ok (.iload 5, 2) := by decide +kernel
theorem dxQ_levelOf_112 : decode cxQ_levelOf 112 = .ok (.if_icmp .le 12, 3) := by decide +kernel
theorem dxQ_levelOf_115 : decode cxQ_levelOf 115 = .ok (.aload_n 0, 1) := by decide +kernel
theorem dxQ_levelOf_116 : decode cxQ_levelOf 116 = .ok (.getfield 53, 3) := by decide +kernel
theorem dxQ_levelOf_119 : decode cxQ_levelOf 119 = .ok (.iload 4, 2) := by decide +kernel
theorem dxQ_levelOf_121 : decode cxQ_levelOf 121 = .ok (.iaload, 1) := by decide +kernel
theorem dxQ_levelOf_122 : decode cxQ_levelOf 122 = .ok (.istore 5, 2) := by decide +kernel
theorem dxQ_levelOf_124 : decode cxQ_levelOf 124 = .ok (.iload 5, 2) := by decide +kernel
theorem dxQ_levelOf_126 : decode cxQ_levelOf 126 = .ok (.iconst 1, 1) := by decide +kernel
theorem dxQ_levelOf_127 : decode cxQ_levelOf 127 = .ok (.iadd, 1) := by decide +kernel
theorem dxQ_levelOf_128 : decode cxQ_levelOf 128 = .ok (.ireturn, 1) := by decide +kernel
theorem dxQ_node_0 : decode cxQ_node 0 = .ok (.iload_n 1, 1) := by decide +kernel
theorem dxQ_node_1 : decode cxQ_node 1 = .ok (.iconst 0, 1) := by decide +kernel
theorem dxQ_node_2 : decode cxQ_node 2 = .ok (.bipush 22, 2) := by decide +kernel
theorem dxQ_node_4 : decode cxQ_node 4 = .ok (.invokestatic 113, 3) := by decide +kernel
theorem dxQ_node_7 : decode cxQ_node 7 = .ok (.ifCond .ne 21, 3) := by decide +kernel
theorem dxQ_node_10 : decode cxQ_node 10 = .ok (.aload_n 0, 1) := by decide +kernel
theorem dxQ_node_11 : decode cxQ_node 11 = .ok (.iload_n 1, 1) := by decide +kernel
theorem dxQ_node_12 : decode cxQ_node 12 = .ok (.iload_n 2, 1) := by decide +kernel
theorem dxQ_node_13 : decode cxQ_node 13 = .ok (.invokevirtual 124, 3) := by decide +kernel
theorem dxQ_node_16 : decode cxQ_node 16 = .ok (.ifCond .ne 12, 3) := by decide +kernel
theorem dxQ_node_19 : decode cxQ_node 19 = .ok (.aload_n 0, 1) := by decide +kernel
theorem dxQ_node_20 : decode cxQ_node 20 = .ok (.iload_n 1, 1) := by decide +kernel
theorem dxQ_node_21 : decode cxQ_node 21 = .ok (.iload_n 3, 1) := by decide +kernel
theorem dxQ_node_22 : decode cxQ_node 22 = .ok (.invokevirtual 128, 3) := by decide +kernel
theorem dxQ_node_25 : decode cxQ_node 25 = .ok (.ifCond .eq 5, 3) := by decide +kernel
theorem dxQ_node_28 : decode cxQ_node 28 = .ok (.iconst (-1), 1) := by decide +kernel
theorem dxQ_node_29 : decode cxQ_node 29 = .ok (.ireturn, 1) := by decide +kernel
theorem dxQ_node_30 : decode cxQ_node 30 = .ok (.iload_n 1, 1) := by decide +kernel
theorem dxQ_node_31 : decode cxQ_node 31 = .ok (.iconst 5, 1) := by decide +kernel
theorem dxQ_node_32 : decode cxQ_node 32 = .ok (.if_icmp .ne 18, 3) := by decide +kernel
theorem dxQ_node_35 : decode cxQ_node 35 = .ok (.iload 4, 2) := by decide +kernel
theorem dxQ_node_37 : decode cxQ_node 37 = .ok (.iconst (-1), 1) := by decide +kernel
theorem dxQ_node_38 : decode cxQ_node 38 = .ok (.if_icmp .eq 12, 3) := by decide +kernel
theorem dxQ_node_41 : decode cxQ_node 41 = .ok (.aload_n 0, 1) := by decide +kernel
theorem dxQ_node_42 : decode cxQ_node 42 = .ok (.iload 4, 2) := by decide +kernel
theorem dxQ_node_44 : decode cxQ_node 44 = .ok (.invokevirtual 120, 3) := by decide +kernel
theorem dxQ_node_47 : decode cxQ_node 47 = .ok (.ifCond .ne 18, 3) := by decide +kernel
theorem dxQ_node_50 : decode cxQ_node 50 = .ok (.iload_n 1, 1) := by decide +kernel
theorem dxQ_node_51 : decode cxQ_node 51 = .ok (.bipush 13, 2) := by decide +kernel
theorem dxQ_node_53 : decode cxQ_node 53 = .ok (.if_icmp .ne 14, 3) := by decide +kernel
theorem dxQ_node_56 : decode cxQ_node 56 = .ok (.aload_n 0, 1) := by decide +kernel
theorem dxQ_node_57 : decode cxQ_node 57 = .ok (.iload 4, 2) := by decide +kernel
theorem dxQ_node_59 : decode cxQ_node 59 = .ok (.invokevirtual 120, 3) := by decide +kernel
theorem dxQ_node_62 : decode cxQ_node 62 = .ok (.ifCond .eq 5, 3) := by decide +kernel
theorem dxQ_node_65 : decode cxQ_node 65 = .ok (.iconst (-1), 1) := by decide +kernel
theorem dxQ_node_66 : decode cxQ_node 66 = .ok (.ireturn, 1) := by decide +kernel
theorem dxQ_node_67 : decode cxQ_node 67 = .ok (.aload_n 0, 1) := by decide +kernel
theorem dxQ_node_68 : decode cxQ_node 68 = .ok (.iload_n 1, 1) := by decide +kernel
theorem dxQ_node_69 : decode cxQ_node 69 = .ok (.iload_n 2, 1) := by decide +kernel
theorem dxQ_node_70 : decode cxQ_node 70 = .ok (.iload_n 3, 1) := by decide +kernel
theorem dxQ_node_71 : decode cxQ_node 71 = .ok (.iload 4, 2) := by decide +kernel
theorem dxQ_node_73 : decode cxQ_node 73 = .ok (.invokevirtual 131, 3) := by decide +kernel
theorem dxQ_node_76 : decode cxQ_node 76 = .ok (.istore 5, 2) := by decide +kernel
theorem dxQ_node_78 : decode cxQ_node 78 = .ok (.iload 5, 2) := by decide +kernel
theorem dxQ_node_80 : decode cxQ_node 80 = .ok (.bipush 8, 2) := by decide +kernel
theorem dxQ_node_82 : decode cxQ_node 82 = .ok (.if_icmp .le 5, 3) := by decide +kernel
theorem dxQ_node_85 : decode cxQ_node 85 = .ok (.iconst (-1), 1) := by decide +kernel
theorem dxQ_node_86 : decode cxQ_node 86 = .ok (.ireturn, 1) := by decide +kernel
theorem dxQ_node_87 : decode cxQ_node 87 = .ok (.aload_n 0, 1) := by decide +kernel
theorem dxQ_node_88 : decode cxQ_node 88 = .ok (.getfield 117, 3) := by decide +kernel
theorem dxQ_node_91 : decode cxQ_node 91 = .ok (.bipush 64, 2) := by decide +kernel
theorem dxQ_node_93 : decode cxQ_node 93 = .ok (.if_icmp .ne 6, 3) := by decide +kernel
theorem dxQ_node_96 : decode cxQ_node 96 = .ok (.bipush (-2), 2) := by decide +kernel
theorem dxQ_node_98 : decode cxQ_node 98 = .ok (.ireturn, 1) := by decide +kernel
theorem dxQ_node_99 : decode cxQ_node 99 = .ok (.aload_n 0, 1) := by decide +kernel
theorem dxQ_node_100 : decode cxQ_node 100 = .ok (.getfield 41, 3) := by decide +kernel
theorem dxQ_node_103 : decode cxQ_node 103 = .ok (.aload_n 0, 1) := by decide +kernel
theorem dxQ_node_104 : decode cxQ_node 104 = .ok (.getfield 117, 3) := by decide +kernel
theorem dxQ_node_107 : decode cxQ_node 107 = .ok (.iload_n 1, 1) := by decide +kernel
theorem dxQ_node_108 : decode cxQ_node 108 = .ok (.iastore, 1) := by decide +kernel
theorem dxQ_node_109 : decode cxQ_node 109 = .ok (.aload_n 0, 1) := by decide +kernel
theorem dxQ_node_110 : decode cxQ_node 110 = .ok (.getfield 44, 3) := by decide +kernel
theorem dxQ_node_113 : decode cxQ_node 113 = .ok (.aload_n 0, 1) := by decide +kernel
theorem dxQ_node_114 : decode cxQ_node 114 = .ok (.getfield 117, 3) := by decide +kernel
theorem dxQ_node_117 : decode cxQ_node 117 = .ok (.iload_n 2, 1) := by decide +kernel
theorem dxQ_node_118 : decode cxQ_node 118 = .ok (.iastore, 1) := by decide +kernel
theorem dxQ_node_119 : decode cxQ_node 119 = .ok (.aload_n 0, 1) := by decide +kernel
theorem dxQ_node_120 : decode cxQ_node 120 = .ok (.getfield 47, 3) := by decide +kernel
theorem dxQ_node_123 : decode cxQ_node 123 = .ok (.aload_n 0, 1) := by decide +kernel
theorem dxQ_node_124 : decode cxQ_node 124 = .ok (.getfield 117, 3) := by decide +kernel
theorem dxQ_node_127 : decode cxQ_node 127 = .ok (.iload_n 3, 1) := by decide +kernel
theorem dxQ_node_128 : decode cxQ_node 128 = .ok (.iastore, 1) := by decide +kernel
theorem dxQ_node_129 : decode cxQ_node 129 = .ok (.aload_n 0, 1) := by decide +kernel
theorem dxQ_node_130 : decode cxQ_node 130 = .ok (.getfield 50, 3) := by decide +kernel
theorem dxQ_node_133 : decode cxQ_node 133 = .ok (.aload_n 0, 1) := by decide +kernel
theorem dxQ_node_134 : decode cxQ_node 134 = .ok (.getfield 117, 3) := by decide +kernel
theorem dxQ_node_137 : decode cxQ_node 137 = .ok (.iload 4, 2) := by decide +kernel
theorem dxQ_node_139 : decode cxQ_node 139 = .ok (.iastore, 1) := by decide +kernel
theorem dxQ_node_140 : decode cxQ_node 140 = .ok (.aload_n 0, 1) := by decide +kernel
theorem dxQ_node_141 : decode cxQ_node 141 = .ok (.getfield 53, 3) := by decide +kernel
theorem dxQ_node_144 : decode cxQ_node 144 = .ok (.aload_n 0, 1) := by decide +kernel
theorem dxQ_node_145 : decode cxQ_node 145 = .ok (.getfield 117, 3) := by decide +kernel
theorem dxQ_node_148 : decode cxQ_node 148 = .ok (.iload 5, 2) := by decide +kernel
theorem dxQ_node_150 : decode cxQ_node 150 = .ok (.iastore, 1) := by decide +kernel
theorem dxQ_node_151 : decode cxQ_node 151 = .ok (.aload_n 0, 1) := by decide +kernel
theorem dxQ_node_152 : decode cxQ_node 152 = .ok (.dup, 1) := by decide +kernel
theorem dxQ_node_153 : decode cxQ_node 153 = .ok (.getfield 117, 3) := by decide +kernel
theorem dxQ_node_156 : decode cxQ_node 156 = .ok (.iconst 1, 1) := by decide +kernel
theorem dxQ_node_157 : decode cxQ_node 157 = .ok (.iadd, 1) := by decide +kernel
theorem dxQ_node_158 : decode cxQ_node 158 = .ok (.putfield 117, 3) := by decide +kernel
theorem dxQ_node_161 : decode cxQ_node 161 = .ok (.aload_n 0, 1) := by decide +kernel
theorem dxQ_node_162 : decode cxQ_node 162 = .ok (.getfield 117, 3) := by decide +kernel
theorem dxQ_node_165 : decode cxQ_node 165 = .ok (.iconst 1, 1) := by decide +kernel
theorem dxQ_node_166 : decode cxQ_node 166 = .ok (.isub, 1) := by decide +kernel
theorem dxQ_node_167 : decode cxQ_node 167 = .ok (.ireturn, 1) := by decide +kernel
theorem dxQ_define_0 : decode cxQ_define 0 = .ok (.iload_n 1, 1) := by decide +kernel
theorem dxQ_define_1 : decode cxQ_define 1 = .ok (.iconst 0, 1) := by decide +kernel
theorem dxQ_define_2 : decode cxQ_define 2 = .ok (.iconst 5, 1) := by decide +kernel
theorem dxQ_define_3 : decode cxQ_define 3 = .ok (.invokestatic 113, 3) := by decide +kernel
theorem dxQ_define_6 : decode cxQ_define 6 = .ok (.ifCond .ne 11, 3) := by decide +kernel
theorem dxQ_define_9 : decode cxQ_define 9 = .ok (.aload_n 0, 1) := by decide +kernel
theorem dxQ_define_10 : decode cxQ_define 10 = .ok (.iload_n 2, 1) := by decide +kernel
theorem dxQ_define_11 : decode cxQ_define 11 = .ok (.invokevirtual 120, 3) := by decide +kernel
theorem dxQ_define_14 : decode cxQ_define 14 = .ok (.ifCond .eq 5, 3) := by decide +kernel
theorem dxQ_define_17 : decode cxQ_define 17 = .ok (.iconst (-1), 1) := by decide +kernel
theorem dxQ_define_18 : decode cxQ_define 18 = .ok (.ireturn, 1) := by decide +kernel
theorem dxQ_define_19 : decode cxQ_define 19 = .ok (.aload_n 0, 1) := by decide +kernel
theorem dxQ_define_20 : decode cxQ_define 20 = .ok (.getfield 56, 3) := by decide +kernel
theorem dxQ_define_23 : decode cxQ_define 23 = .ok (.iload_n 1, 1) := by decide +kernel
theorem dxQ_define_24 : decode cxQ_define 24 = .ok (.iload_n 2, 1) := by decide +kernel
theorem dxQ_define_25 : decode cxQ_define 25 = .ok (.iastore, 1) := by decide +kernel
theorem dxQ_define_26 : decode cxQ_define 26 = .ok (.iconst 0, 1) := by decide +kernel
theorem dxQ_define_27 : decode cxQ_define 27 = .ok (.ireturn, 1) := by decide +kernel
theorem dxQ_dispatch_0 : decode cxQ_dispatch 0 = .ok (.iload_n 1, 1) := by decide +kernel
theorem dxQ_dispatch_1 : decode cxQ_dispatch 1 = .ok (.iconst (-1), 1) := by decide +kernel
theorem dxQ_dispatch_2 : decode cxQ_dispatch 2 = .ok (.iconst 5, 1) := by decide +kernel
theorem dxQ_dispatch_3 : decode cxQ_dispatch 3 = .ok (.invokestatic 113, 3) := by decide +kernel
theorem dxQ_dispatch_6 : decode cxQ_dispatch 6 = .ok (.ifCond .eq 5, 3) := by decide +kernel
theorem dxQ_dispatch_9 : decode cxQ_dispatch 9 = .ok (.iconst (-1), 1) := by decide +kernel
theorem dxQ_dispatch_10 : decode cxQ_dispatch 10 = .ok (.ireturn, 1) := by decide +kernel
theorem dxQ_dispatch_11 : decode cxQ_dispatch 11 = .ok (.aload_n 0, 1) := by decide +kernel
theorem dxQ_dispatch_12 : decode cxQ_dispatch 12 = .ok (.iload_n 1, 1) := by decide +kernel
theorem dxQ_dispatch_13 : decode cxQ_dispatch 13 = .ok (.putfield 59, 3) := by decide +kernel
theorem dxQ_dispatch_16 : decode cxQ_dispatch 16 = .ok (.iconst 0, 1) := by decide +kernel
theorem dxQ_dispatch_17 : decode cxQ_dispatch 17 = .ok (.ireturn, 1) := by decide +kernel
theorem dxQ_begin_0 : decode cxQ_begin 0 = .ok (.aload_n 0, 1) := by decide +kernel
theorem dxQ_begin_1 : decode cxQ_begin 1 = .ok (.getfield 135, 3) := by decide +kernel
theorem dxQ_begin_4 : decode cxQ_begin 4 = .ok (.sipush 300, 3) := by decide +kernel
theorem dxQ_begin_7 : decode cxQ_begin 7 = .ok (.if_icmp .ne 15, 3) := by decide +kernel
theorem dxQ_begin_10 : decode cxQ_begin 10 = .ok (.aload_n 0, 1) := by decide +kernel
theorem dxQ_begin_11 : decode cxQ_begin 11 = .ok (.iconst 5, 1) := by decide +kernel
theorem dxQ_begin_12 : decode cxQ_begin 12 = .ok (.putfield 138, 3) := by decide +kernel
theorem dxQ_begin_15 : decode cxQ_begin 15 = .ok (.aload_n 0, 1) := by decide +kernel
theorem dxQ_begin_16 : decode cxQ_begin 16 = .ok (.iconst 1, 1) := by decide +kernel
theorem dxQ_begin_17 : decode cxQ_begin 17 = .ok (.putfield 141, 3) := by decide +kernel
theorem dxQ_begin_20 : decode cxQ_begin 20 = .ok (.iconst 0, 1) := by decide +kernel
theorem dxQ_begin_21 : decode cxQ_begin 21 = .ok (.ireturn, 1) := by decide +kernel
theorem dxQ_begin_22 : decode cxQ_begin 22 = .ok (.aload_n 0, 1) := by decide +kernel
theorem dxQ_begin_23 : decode cxQ_begin 23 = .ok (.dup, 1) := by decide +kernel
theorem dxQ_begin_24 : decode cxQ_begin 24 = .ok (.getfield 135, 3) := by decide +kernel
theorem dxQ_begin_27 : decode cxQ_begin 27 = .ok (.iconst 1, 1) := by decide +kernel
theorem dxQ_begin_28 : decode cxQ_begin 28 = .ok (.iadd, 1) := by decide +kernel
theorem dxQ_begin_29 : decode cxQ_begin 29 = .ok (.putfield 135, 3) := by decide +kernel
theorem dxQ_begin_32 : decode cxQ_begin 32 = .ok (.aload_n 0, 1) := by decide +kernel
theorem dxQ_begin_33 : decode cxQ_begin 33 = .ok (.getfield 89, 3) := by decide +kernel
theorem dxQ_begin_36 : decode cxQ_begin 36 = .ok (.aload_n 0, 1) := by decide +kernel
theorem dxQ_begin_37 : decode cxQ_begin 37 = .ok (.getfield 145, 3) := by decide +kernel
theorem dxQ_begin_40 : decode cxQ_begin 40 = .ok (.iload_n 1, 1) := by decide +kernel
theorem dxQ_begin_41 : decode cxQ_begin 41 = .ok (.iastore, 1) := by decide +kernel
theorem dxQ_begin_42 : decode cxQ_begin 42 = .ok (.aload_n 0, 1) := by decide +kernel
theorem dxQ_begin_43 : decode cxQ_begin 43 = .ok (.getfield 92, 3) := by decide +kernel
theorem dxQ_begin_46 : decode cxQ_begin 46 = .ok (.aload_n 0, 1) := by decide +kernel
theorem dxQ_begin_47 : decode cxQ_begin 47 = .ok (.getfield 145, 3) := by decide +kernel
theorem dxQ_begin_50 : decode cxQ_begin 50 = .ok (.iconst 0, 1) := by decide +kernel
theorem dxQ_begin_51 : decode cxQ_begin 51 = .ok (.iastore, 1) := by decide +kernel
theorem dxQ_begin_52 : decode cxQ_begin 52 = .ok (.aload_n 0, 1) := by decide +kernel
theorem dxQ_begin_53 : decode cxQ_begin 53 = .ok (.getfield 95, 3) := by decide +kernel
theorem dxQ_begin_56 : decode cxQ_begin 56 = .ok (.aload_n 0, 1) := by decide +kernel
theorem dxQ_begin_57 : decode cxQ_begin 57 = .ok (.getfield 145, 3) := by decide +kernel
theorem dxQ_begin_60 : decode cxQ_begin 60 = .ok (.iconst 0, 1) := by decide +kernel
theorem dxQ_begin_61 : decode cxQ_begin 61 = .ok (.iastore, 1) := by decide +kernel
theorem dxQ_begin_62 : decode cxQ_begin 62 = .ok (.aload_n 0, 1) := by decide +kernel
theorem dxQ_begin_63 : decode cxQ_begin 63 = .ok (.dup, 1) := by decide +kernel
theorem dxQ_begin_64 : decode cxQ_begin 64 = .ok (.getfield 145, 3) := by decide +kernel
theorem dxQ_begin_67 : decode cxQ_begin 67 = .ok (.iconst 1, 1) := by decide +kernel
theorem dxQ_begin_68 : decode cxQ_begin 68 = .ok (.iadd, 1) := by decide +kernel
theorem dxQ_begin_69 : decode cxQ_begin 69 = .ok (.putfield 145, 3) := by decide +kernel
theorem dxQ_begin_72 : decode cxQ_begin 72 = .ok (.iconst 1, 1) := by decide +kernel
theorem dxQ_begin_73 : decode cxQ_begin 73 = .ok (.ireturn, 1) := by decide +kernel
theorem dxQ_end_0 : decode cxQ_end 0 = .ok (.aload_n 0, 1) := by decide +kernel
theorem dxQ_end_1 : decode cxQ_end 1 = .ok (.dup, 1) := by decide +kernel
theorem dxQ_end_2 : decode cxQ_end 2 = .ok (.getfield 145, 3) := by decide +kernel
theorem dxQ_end_5 : decode cxQ_end 5 = .ok (.iconst 1, 1) := by decide +kernel
theorem dxQ_end_6 : decode cxQ_end 6 = .ok (.isub, 1) := by decide +kernel
theorem dxQ_end_7 : decode cxQ_end 7 = .ok (.putfield 145, 3) := by decide +kernel
theorem dxQ_end_10 : decode cxQ_end 10 = .ok (.aload_n 0, 1) := by decide +kernel
theorem dxQ_end_11 : decode cxQ_end 11 = .ok (.iload_n 1, 1) := by decide +kernel
theorem dxQ_end_12 : decode cxQ_end 12 = .ok (.putfield 148, 3) := by decide +kernel
theorem dxQ_end_15 : decode cxQ_end 15 = .ok (.aload_n 0, 1) := by decide +kernel
theorem dxQ_end_16 : decode cxQ_end 16 = .ok (.iload_n 2, 1) := by decide +kernel
theorem dxQ_end_17 : decode cxQ_end 17 = .ok (.putfield 151, 3) := by decide +kernel
theorem dxQ_end_20 : decode cxQ_end 20 = .ok (.return_, 1) := by decide +kernel
theorem dxQ_endThrow_0 : decode cxQ_endThrow 0 = .ok (.aload_n 0, 1) := by decide +kernel
theorem dxQ_endThrow_1 : decode cxQ_endThrow 1 = .ok (.getfield 62, 3) := by decide +kernel
theorem dxQ_endThrow_4 : decode cxQ_endThrow 4 = .ok (.aload_n 0, 1) := by decide +kernel
theorem dxQ_endThrow_5 : decode cxQ_endThrow 5 = .ok (.getfield 154, 3) := by decide +kernel
theorem dxQ_endThrow_8 : decode cxQ_endThrow 8 = .ok (.iload_n 1, 1) := by decide +kernel
theorem dxQ_endThrow_9 : decode cxQ_endThrow 9 = .ok (.iastore, 1) := by decide +kernel
theorem dxQ_endThrow_10 : decode cxQ_endThrow 10 = .ok (.aload_n 0, 1) := by decide +kernel
theorem dxQ_endThrow_11 : decode cxQ_endThrow 11 = .ok (.getfield 65, 3) := by decide +kernel
theorem dxQ_endThrow_14 : decode cxQ_endThrow 14 = .ok (.aload_n 0, 1) := by decide +kernel
theorem dxQ_endThrow_15 : decode cxQ_endThrow 15 = .ok (.getfield 154, 3) := by decide +kernel
theorem dxQ_endThrow_18 : decode cxQ_endThrow 18 = .ok (.iload_n 2, 1) := by decide +kernel
theorem dxQ_endThrow_19 : decode cxQ_endThrow 19 = .ok (.iastore, 1) := by decide +kernel
theorem dxQ_endThrow_20 : decode cxQ_endThrow 20 = .ok (.aload_n 0, 1) := by decide +kernel
theorem dxQ_endThrow_21 : decode cxQ_endThrow 21 = .ok (.getfield 68, 3) := by decide +kernel
theorem dxQ_endThrow_24 : decode cxQ_endThrow 24 = .ok (.aload_n 0, 1) := by decide +kernel
theorem dxQ_endThrow_25 : decode cxQ_endThrow 25 = .ok (.getfield 154, 3) := by decide +kernel
theorem dxQ_endThrow_28 : decode cxQ_endThrow 28 = .ok (.iload_n 3, 1) := by decide +kernel
theorem dxQ_endThrow_29 : decode cxQ_endThrow 29 = .ok (.iastore, 1) := by decide +kernel
theorem dxQ_endThrow_30 : decode cxQ_endThrow 30 = .ok (.aload_n 0, 1) := by decide +kernel
theorem dxQ_endThrow_31 : decode cxQ_endThrow 31 = .ok (.getfield 71, 3) := by decide +kernel
theorem dxQ_endThrow_34 : decode cxQ_endThrow 34 = .ok (.aload_n 0, 1) := by decide +kernel
theorem dxQ_endThrow_35 : decode cxQ_endThrow 35 = .ok (.getfield 154, 3) := by decide +kernel
theorem dxQ_endThrow_38 : decode cxQ_endThrow 38 = .ok (.iconst 0, 1) := by decide +kernel
theorem dxQ_endThrow_39 : decode cxQ_endThrow 39 = .ok (.iastore, 1) := by decide +kernel
theorem dxQ_endThrow_40 : decode cxQ_endThrow 40 = .ok (.aload_n 0, 1) := by decide +kernel
theorem dxQ_endThrow_41 : decode cxQ_endThrow 41 = .ok (.dup, 1) := by decide +kernel
theorem dxQ_endThrow_42 : decode cxQ_endThrow 42 = .ok (.getfield 154, 3) := by decide +kernel
theorem dxQ_endThrow_45 : decode cxQ_endThrow 45 = .ok (.iconst 1, 1) := by decide +kernel
theorem dxQ_endThrow_46 : decode cxQ_endThrow 46 = .ok (.iadd, 1) := by decide +kernel
theorem dxQ_endThrow_47 : decode cxQ_endThrow 47 = .ok (.putfield 154, 3) := by decide +kernel
theorem dxQ_endThrow_50 : decode cxQ_endThrow 50 = .ok (.aload_n 0, 1) := by decide +kernel
theorem dxQ_endThrow_51 : decode cxQ_endThrow 51 = .ok (.iconst 3, 1) := by decide +kernel
theorem dxQ_endThrow_52 : decode cxQ_endThrow 52 = .ok (.aload_n 0, 1) := by decide +kernel
theorem dxQ_endThrow_53 : decode cxQ_endThrow 53 = .ok (.getfield 154, 3) := by decide +kernel
theorem dxQ_endThrow_56 : decode cxQ_endThrow 56 = .ok (.iconst 1, 1) := by decide +kernel
theorem dxQ_endThrow_57 : decode cxQ_endThrow 57 = .ok (.isub, 1) := by decide +kernel
theorem dxQ_endThrow_58 : decode cxQ_endThrow 58 = .ok (.invokevirtual 157, 3) := by decide +kernel
theorem dxQ_endThrow_61 : decode cxQ_endThrow 61 = .ok (.return_, 1) := by decide +kernel
theorem dxQ_note_0 : decode cxQ_note 0 = .ok (.aload_n 0, 1) := by decide +kernel
theorem dxQ_note_1 : decode cxQ_note 1 = .ok (.getfield 80, 3) := by decide +kernel
theorem dxQ_note_4 : decode cxQ_note 4 = .ok (.aload_n 0, 1) := by decide +kernel
theorem dxQ_note_5 : decode cxQ_note 5 = .ok (.getfield 161, 3) := by decide +kernel
theorem dxQ_note_8 : decode cxQ_note 8 = .ok (.iload_n 1, 1) := by decide +kernel
theorem dxQ_note_9 : decode cxQ_note 9 = .ok (.iastore, 1) := by decide +kernel
theorem dxQ_note_10 : decode cxQ_note 10 = .ok (.aload_n 0, 1) := by decide +kernel
theorem dxQ_note_11 : decode cxQ_note 11 = .ok (.dup, 1) := by decide +kernel
theorem dxQ_note_12 : decode cxQ_note 12 = .ok (.getfield 161, 3) := by decide +kernel
theorem dxQ_note_15 : decode cxQ_note 15 = .ok (.iconst 1, 1) := by decide +kernel
theorem dxQ_note_16 : decode cxQ_note 16 = .ok (.iadd, 1) := by decide +kernel
theorem dxQ_note_17 : decode cxQ_note 17 = .ok (.putfield 161, 3) := by decide +kernel
theorem dxQ_note_20 : decode cxQ_note 20 = .ok (.aload_n 0, 1) := by decide +kernel
theorem dxQ_note_21 : decode cxQ_note 21 = .ok (.iconst 0, 1) := by decide +kernel
theorem dxQ_note_22 : decode cxQ_note 22 = .ok (.iconst 0, 1) := by decide +kernel
theorem dxQ_note_23 : decode cxQ_note 23 = .ok (.invokevirtual 157, 3) := by decide +kernel
theorem dxQ_note_26 : decode cxQ_note 26 = .ok (.return_, 1) := by decide +kernel
theorem dxQ_simple_0 : decode cxQ_simple 0 = .ok (.aload_n 0, 1) := by decide +kernel
theorem dxQ_simple_1 : decode cxQ_simple 1 = .ok (.getfield 44, 3) := by decide +kernel
theorem dxQ_simple_4 : decode cxQ_simple 4 = .ok (.iload_n 1, 1) := by decide +kernel
theorem dxQ_simple_5 : decode cxQ_simple 5 = .ok (.iaload, 1) := by decide +kernel
theorem dxQ_simple_6 : decode cxQ_simple 6 = .ok (.istore_n 2, 1) := by decide +kernel
theorem dxQ_simple_7 : decode cxQ_simple 7 = .ok (.aload_n 0, 1) := by decide +kernel
theorem dxQ_simple_8 : decode cxQ_simple 8 = .ok (.getfield 41, 3) := by decide +kernel
theorem dxQ_simple_11 : decode cxQ_simple 11 = .ok (.iload_n 1, 1) := by decide +kernel
theorem dxQ_simple_12 : decode cxQ_simple 12 = .ok (.iaload, 1) := by decide +kernel
theorem dxQ_simple_13 : decode cxQ_simple 13 = .ok (.tableswitch 200 0 12 #[67, 73, 84, 103, 200, 200, 200, 125, 132, 200, 144, 157, 184], 67) := by decide +kernel
theorem dxQ_simple_80 : decode cxQ_simple 80 = .ok (.aload_n 0, 1) := by decide +kernel
theorem dxQ_simple_81 : decode cxQ_simple 81 = .ok (.iload_n 2, 1) := by decide +kernel
theorem dxQ_simple_82 : decode cxQ_simple 82 = .ok (.invokevirtual 164, 3) := by decide +kernel
theorem dxQ_simple_85 : decode cxQ_simple 85 = .ok (.return_, 1) := by decide +kernel
theorem dxQ_simple_86 : decode cxQ_simple 86 = .ok (.aload_n 0, 1) := by decide +kernel
theorem dxQ_simple_87 : decode cxQ_simple 87 = .ok (.aload_n 0, 1) := by decide +kernel
theorem dxQ_simple_88 : decode cxQ_simple 88 = .ok (.getfield 74, 3) := by decide +kernel
theorem dxQ_simple_91 : decode cxQ_simple 91 = .ok (.iload_n 2, 1) := by decide +kernel
theorem dxQ_simple_92 : decode cxQ_simple 92 = .ok (.iaload, 1) := by decide +kernel
theorem dxQ_simple_93 : decode cxQ_simple 93 = .ok (.invokevirtual 164, 3) := by decide +kernel
theorem dxQ_simple_96 : decode cxQ_simple 96 = .ok (.return_, 1) := by decide +kernel
theorem dxQ_simple_97 : decode cxQ_simple 97 = .ok (.aload_n 0, 1) := by decide +kernel
theorem dxQ_simple_98 : decode cxQ_simple 98 = .ok (.getfield 74, 3) := by decide +kernel
theorem dxQ_simple_101 : decode cxQ_simple 101 = .ok (.iload_n 2, 1) := by decide +kernel
theorem dxQ_simple_102 : decode cxQ_simple 102 = .ok (.aload_n 0, 1) := by decide +kernel
theorem dxQ_simple_103 : decode cxQ_simple 103 = .ok (.getfield 47, 3) := by decide +kernel
theorem dxQ_simple_106 : decode cxQ_simple 106 = .ok (.iload_n 1, 1) := by decide +kernel
theorem dxQ_simple_107 : decode cxQ_simple 107 = .ok (.iaload, 1) := by decide +kernel
theorem dxQ_simple_108 : decode cxQ_simple 108 = .ok (.iastore, 1) := by decide +kernel
theorem dxQ_simple_109 : decode cxQ_simple 109 = .ok (.aload_n 0, 1) := by decide +kernel
theorem dxQ_simple_110 : decode cxQ_simple 110 = .ok (.iconst 0, 1) := by decide +kernel
theorem dxQ_simple_111 : decode cxQ_simple 111 = .ok (.iconst 0, 1) := by decide +kernel
theorem dxQ_simple_112 : decode cxQ_simple 112 = .ok (.invokevirtual 157, 3) := by decide +kernel
theorem dxQ_simple_115 : decode cxQ_simple 115 = .ok (.return_, 1) := by decide +kernel
theorem dxQ_simple_116 : decode cxQ_simple 116 = .ok (.aload_n 0, 1) := by decide +kernel
theorem dxQ_simple_117 : decode cxQ_simple 117 = .ok (.getfield 74, 3) := by decide +kernel
theorem dxQ_simple_120 : decode cxQ_simple 120 = .ok (.iload_n 2, 1) := by decide +kernel
theorem dxQ_simple_121 : decode cxQ_simple 121 = .ok (.dup2, 1) := by decide +kernel
theorem dxQ_simple_122 : decode cxQ_simple 122 = .ok (.iaload, 1) := by decide +kernel
theorem dxQ_simple_123 : decode cxQ_simple 123 = .ok (.aload_n 0, 1) := by decide +kernel
theorem dxQ_simple_124 : decode cxQ_simple 124 = .ok (.getfield 47, 3) := by decide +kernel
theorem dxQ_simple_127 : decode cxQ_simple 127 = .ok (.iload_n 1, 1) := by decide +kernel
theorem dxQ_simple_128 : decode cxQ_simple 128 = .ok (.iaload, 1) := by decide +kernel
theorem dxQ_simple_129 : decode cxQ_simple 129 = .ok (.iadd, 1) := by decide +kernel
theorem dxQ_simple_130 : decode cxQ_simple 130 = .ok (.iastore, 1) := by decide +kernel
theorem dxQ_simple_131 : decode cxQ_simple 131 = .ok (.aload_n 0, 1) := by decide +kernel
theorem dxQ_simple_132 : decode cxQ_simple 132 = .ok (.iconst 0, 1) := by decide +kernel
theorem dxQ_simple_133 : decode cxQ_simple 133 = .ok (.iconst 0, 1) := by decide +kernel
theorem dxQ_simple_134 : decode cxQ_simple 134 = .ok (.invokevirtual 157, 3) := by decide +kernel
theorem dxQ_simple_137 : decode cxQ_simple 137 = .ok (.return_, 1) := by decide +kernel
theorem dxQ_simple_138 : decode cxQ_simple 138 = .ok (.aload_n 0, 1) := by decide +kernel
theorem dxQ_simple_139 : decode cxQ_simple 139 = .ok (.iconst 1, 1) := by decide +kernel
theorem dxQ_simple_140 : decode cxQ_simple 140 = .ok (.iconst 0, 1) := by decide +kernel
theorem dxQ_simple_141 : decode cxQ_simple 141 = .ok (.invokevirtual 157, 3) := by decide +kernel
theorem dxQ_simple_144 : decode cxQ_simple 144 = .ok (.return_, 1) := by decide +kernel
theorem dxQ_simple_145 : decode cxQ_simple 145 = .ok (.aload_n 0, 1) := by decide +kernel
theorem dxQ_simple_146 : decode cxQ_simple 146 = .ok (.iconst 2, 1) := by decide +kernel
theorem dxQ_simple_147 : decode cxQ_simple 147 = .ok (.aload_n 0, 1) := by decide +kernel
theorem dxQ_simple_148 : decode cxQ_simple 148 = .ok (.getfield 74, 3) := by decide +kernel
theorem dxQ_simple_151 : decode cxQ_simple 151 = .ok (.iload_n 2, 1) := by decide +kernel
theorem dxQ_simple_152 : decode cxQ_simple 152 = .ok (.iaload, 1) := by decide +kernel
theorem dxQ_simple_153 : decode cxQ_simple 153 = .ok (.invokevirtual 157, 3) := by decide +kernel
theorem dxQ_simple_156 : decode cxQ_simple 156 = .ok (.return_, 1) := by decide +kernel
theorem dxQ_simple_157 : decode cxQ_simple 157 = .ok (.aload_n 0, 1) := by decide +kernel
theorem dxQ_simple_158 : decode cxQ_simple 158 = .ok (.iload_n 2, 1) := by decide +kernel
theorem dxQ_simple_159 : decode cxQ_simple 159 = .ok (.aload_n 0, 1) := by decide +kernel
theorem dxQ_simple_160 : decode cxQ_simple 160 = .ok (.getfield 47, 3) := by decide +kernel
theorem dxQ_simple_163 : decode cxQ_simple 163 = .ok (.iload_n 1, 1) := by decide +kernel
theorem dxQ_simple_164 : decode cxQ_simple 164 = .ok (.iaload, 1) := by decide +kernel
theorem dxQ_simple_165 : decode cxQ_simple 165 = .ok (.iconst (-1), 1) := by decide +kernel
theorem dxQ_simple_166 : decode cxQ_simple 166 = .ok (.invokevirtual 168, 3) := by decide +kernel
theorem dxQ_simple_169 : decode cxQ_simple 169 = .ok (.return_, 1) := by decide +kernel
theorem dxQ_simple_170 : decode cxQ_simple 170 = .ok (.aload_n 0, 1) := by decide +kernel
theorem dxQ_simple_171 : decode cxQ_simple 171 = .ok (.getfield 172, 3) := by decide +kernel
theorem dxQ_simple_174 : decode cxQ_simple 174 = .ok (.ifCond .ge 13, 3) := by decide +kernel
theorem dxQ_simple_177 : decode cxQ_simple 177 = .ok (.aload_n 0, 1) := by decide +kernel
theorem dxQ_simple_178 : decode cxQ_simple 178 = .ok (.iconst 1, 1) := by decide +kernel
theorem dxQ_simple_179 : decode cxQ_simple 179 = .ok (.iconst 0, 1) := by decide +kernel
theorem dxQ_simple_180 : decode cxQ_simple 180 = .ok (.iconst (-1), 1) := by decide +kernel
theorem dxQ_simple_181 : decode cxQ_simple 181 = .ok (.invokevirtual 168, 3) := by decide +kernel
theorem dxQ_simple_184 : decode cxQ_simple 184 = .ok (.goto 12, 3) := by decide +kernel
theorem dxQ_simple_187 : decode cxQ_simple 187 = .ok (.aload_n 0, 1) := by decide +kernel
theorem dxQ_simple_188 : decode cxQ_simple 188 = .ok (.iconst 3, 1) := by decide +kernel
theorem dxQ_simple_189 : decode cxQ_simple 189 = .ok (.aload_n 0, 1) := by decide +kernel
theorem dxQ_simple_190 : decode cxQ_simple 190 = .ok (.getfield 172, 3) := by decide +kernel
theorem dxQ_simple_193 : decode cxQ_simple 193 = .ok (.invokevirtual 157, 3) := by decide +kernel
theorem dxQ_simple_196 : decode cxQ_simple 196 = .ok (.return_, 1) := by decide +kernel
theorem dxQ_simple_197 : decode cxQ_simple 197 = .ok (.aload_n 0, 1) := by decide +kernel
theorem dxQ_simple_198 : decode cxQ_simple 198 = .ok (.iload_n 2, 1) := by decide +kernel
theorem dxQ_simple_199 : decode cxQ_simple 199 = .ok (.aload_n 0, 1) := by decide +kernel
theorem dxQ_simple_200 : decode cxQ_simple 200 = .ok (.getfield 47, 3) := by decide +kernel
theorem dxQ_simple_203 : decode cxQ_simple 203 = .ok (.iload_n 1, 1) := by decide +kernel
theorem dxQ_simple_204 : decode cxQ_simple 204 = .ok (.iaload, 1) := by decide +kernel
theorem dxQ_simple_205 : decode cxQ_simple 205 = .ok (.aload_n 0, 1) := by decide +kernel
theorem dxQ_simple_206 : decode cxQ_simple 206 = .ok (.getfield 172, 3) := by decide +kernel
theorem dxQ_simple_209 : decode cxQ_simple 209 = .ok (.invokevirtual 168, 3) := by decide +kernel
theorem dxQ_simple_212 : decode cxQ_simple 212 = .ok (.return_, 1) := by decide +kernel
theorem dxQ_simple_213 : decode cxQ_simple 213 = .ok (.aload_n 0, 1) := by decide +kernel
theorem dxQ_simple_214 : decode cxQ_simple 214 = .ok (.iload_n 1, 1) := by decide +kernel
theorem dxQ_simple_215 : decode cxQ_simple 215 = .ok (.iload_n 2, 1) := by decide +kernel
theorem dxQ_simple_216 : decode cxQ_simple 216 = .ok (.invokevirtual 175, 3) := by decide +kernel
theorem dxQ_simple_219 : decode cxQ_simple 219 = .ok (.return_, 1) := by decide +kernel
theorem dxQ_machine_0 : decode cxQ_machine 0 = .ok (.aload_n 0, 1) := by decide +kernel
theorem dxQ_machine_1 : decode cxQ_machine 1 = .ok (.getfield 41, 3) := by decide +kernel
theorem dxQ_machine_4 : decode cxQ_machine 4 = .ok (.iload_n 1, 1) := by decide +kernel
theorem dxQ_machine_5 : decode cxQ_machine 5 = .ok (.iaload, 1) := by decide +kernel
theorem dxQ_machine_6 : decode cxQ_machine 6 = .ok (.tableswitch 244 16 21 #[38, 98, 141, 190, 244, 215], 38) := by decide +kernel
theorem dxQ_machine_44 : decode cxQ_machine 44 = .ok (.aload_n 0, 1) := by decide +kernel
theorem dxQ_machine_45 : decode cxQ_machine 45 = .ok (.getfield 74, 3) := by decide +kernel
theorem dxQ_machine_48 : decode cxQ_machine 48 = .ok (.aload_n 0, 1) := by decide +kernel
theorem dxQ_machine_49 : decode cxQ_machine 49 = .ok (.getfield 47, 3) := by decide +kernel
theorem dxQ_machine_52 : decode cxQ_machine 52 = .ok (.iload_n 1, 1) := by decide +kernel
theorem dxQ_machine_53 : decode cxQ_machine 53 = .ok (.iaload, 1) := by decide +kernel
theorem dxQ_machine_54 : decode cxQ_machine 54 = .ok (.iaload, 1) := by decide +kernel
theorem dxQ_machine_55 : decode cxQ_machine 55 = .ok (.istore_n 3, 1) := by decide +kernel
theorem dxQ_machine_56 : decode cxQ_machine 56 = .ok (.iload_n 3, 1) := by decide +kernel
theorem dxQ_machine_57 : decode cxQ_machine 57 = .ok (.ifCond .ne 11, 3) := by decide +kernel
theorem dxQ_machine_60 : decode cxQ_machine 60 = .ok (.aload_n 0, 1) := by decide +kernel
theorem dxQ_machine_61 : decode cxQ_machine 61 = .ok (.iconst 2, 1) := by decide +kernel
theorem dxQ_machine_62 : decode cxQ_machine 62 = .ok (.iconst 0, 1) := by decide +kernel
theorem dxQ_machine_63 : decode cxQ_machine 63 = .ok (.iconst (-1), 1) := by decide +kernel
theorem dxQ_machine_64 : decode cxQ_machine 64 = .ok (.invokevirtual 168, 3) := by decide +kernel
theorem dxQ_machine_67 : decode cxQ_machine 67 = .ok (.return_, 1) := by decide +kernel
theorem dxQ_machine_68 : decode cxQ_machine 68 = .ok (.aload_n 0, 1) := by decide +kernel
theorem dxQ_machine_69 : decode cxQ_machine 69 = .ok (.getfield 74, 3) := by decide +kernel
theorem dxQ_machine_72 : decode cxQ_machine 72 = .ok (.iload_n 2, 1) := by decide +kernel
theorem dxQ_machine_73 : decode cxQ_machine 73 = .ok (.iload_n 3, 1) := by decide +kernel
theorem dxQ_machine_74 : decode cxQ_machine 74 = .ok (.iconst (-1), 1) := by decide +kernel
theorem dxQ_machine_75 : decode cxQ_machine 75 = .ok (.if_icmp .ne 13, 3) := by decide +kernel
theorem dxQ_machine_78 : decode cxQ_machine 78 = .ok (.aload_n 0, 1) := by decide +kernel
theorem dxQ_machine_79 : decode cxQ_machine 79 = .ok (.getfield 74, 3) := by decide +kernel
theorem dxQ_machine_82 : decode cxQ_machine 82 = .ok (.iload_n 2, 1) := by decide +kernel
theorem dxQ_machine_83 : decode cxQ_machine 83 = .ok (.iaload, 1) := by decide +kernel
theorem dxQ_machine_84 : decode cxQ_machine 84 = .ok (.ineg, 1) := by decide +kernel
theorem dxQ_machine_85 : decode cxQ_machine 85 = .ok (.goto 11, 3) := by decide +kernel
theorem dxQ_machine_88 : decode cxQ_machine 88 = .ok (.aload_n 0, 1) := by decide +kernel
theorem dxQ_machine_89 : decode cxQ_machine 89 = .ok (.getfield 74, 3) := by decide +kernel
theorem dxQ_machine_92 : decode cxQ_machine 92 = .ok (.iload_n 2, 1) := by decide +kernel
theorem dxQ_machine_93 : decode cxQ_machine 93 = .ok (.iaload, 1) := by decide +kernel
theorem dxQ_machine_94 : decode cxQ_machine 94 = .ok (.iload_n 3, 1) := by decide +kernel
theorem dxQ_machine_95 : decode cxQ_machine 95 = .ok (.idiv, 1) := by decide +kernel
theorem dxQ_machine_96 : decode cxQ_machine 96 = .ok (.iastore, 1) := by decide +kernel
theorem dxQ_machine_97 : decode cxQ_machine 97 = .ok (.aload_n 0, 1) := by decide +kernel
theorem dxQ_machine_98 : decode cxQ_machine 98 = .ok (.iconst 0, 1) := by decide +kernel
theorem dxQ_machine_99 : decode cxQ_machine 99 = .ok (.iconst 0, 1) := by decide +kernel
theorem dxQ_machine_100 : decode cxQ_machine 100 = .ok (.invokevirtual 157, 3) := by decide +kernel
theorem dxQ_machine_103 : decode cxQ_machine 103 = .ok (.return_, 1) := by decide +kernel
theorem dxQ_machine_104 : decode cxQ_machine 104 = .ok (.aload_n 0, 1) := by decide +kernel
theorem dxQ_machine_105 : decode cxQ_machine 105 = .ok (.getfield 74, 3) := by decide +kernel
theorem dxQ_machine_108 : decode cxQ_machine 108 = .ok (.iload_n 2, 1) := by decide +kernel
theorem dxQ_machine_109 : decode cxQ_machine 109 = .ok (.iaload, 1) := by decide +kernel
theorem dxQ_machine_110 : decode cxQ_machine 110 = .ok (.iconst 0, 1) := by decide +kernel
theorem dxQ_machine_111 : decode cxQ_machine 111 = .ok (.aload_n 0, 1) := by decide +kernel
theorem dxQ_machine_112 : decode cxQ_machine 112 = .ok (.getfield 47, 3) := by decide +kernel
theorem dxQ_machine_115 : decode cxQ_machine 115 = .ok (.iload_n 1, 1) := by decide +kernel
theorem dxQ_machine_116 : decode cxQ_machine 116 = .ok (.iaload, 1) := by decide +kernel
theorem dxQ_machine_117 : decode cxQ_machine 117 = .ok (.iconst 1, 1) := by decide +kernel
theorem dxQ_machine_118 : decode cxQ_machine 118 = .ok (.isub, 1) := by decide +kernel
theorem dxQ_machine_119 : decode cxQ_machine 119 = .ok (.invokestatic 113, 3) := by decide +kernel
theorem dxQ_machine_122 : decode cxQ_machine 122 = .ok (.ifCond .eq 18, 3) := by decide +kernel
theorem dxQ_machine_125 : decode cxQ_machine 125 = .ok (.aload_n 0, 1) := by decide +kernel
theorem dxQ_machine_126 : decode cxQ_machine 126 = .ok (.iconst 3, 1) := by decide +kernel
theorem dxQ_machine_127 : decode cxQ_machine 127 = .ok (.aload_n 0, 1) := by decide +kernel
theorem dxQ_machine_128 : decode cxQ_machine 128 = .ok (.getfield 74, 3) := by decide +kernel
theorem dxQ_machine_131 : decode cxQ_machine 131 = .ok (.iload_n 2, 1) := by decide +kernel
theorem dxQ_machine_132 : decode cxQ_machine 132 = .ok (.iaload, 1) := by decide +kernel
theorem dxQ_machine_133 : decode cxQ_machine 133 = .ok (.iconst (-1), 1) := by decide +kernel
theorem dxQ_machine_134 : decode cxQ_machine 134 = .ok (.invokevirtual 168, 3) := by decide +kernel
theorem dxQ_machine_137 : decode cxQ_machine 137 = .ok (.goto 9, 3) := by decide +kernel
theorem dxQ_machine_140 : decode cxQ_machine 140 = .ok (.aload_n 0, 1) := by decide +kernel
theorem dxQ_machine_141 : decode cxQ_machine 141 = .ok (.iconst 0, 1) := by decide +kernel
theorem dxQ_machine_142 : decode cxQ_machine 142 = .ok (.iconst 0, 1) := by decide +kernel
theorem dxQ_machine_143 : decode cxQ_machine 143 = .ok (.invokevirtual 157, 3) := by decide +kernel
theorem dxQ_machine_146 : decode cxQ_machine 146 = .ok (.return_, 1) := by decide +kernel
theorem dxQ_machine_147 : decode cxQ_machine 147 = .ok (.aload_n 0, 1) := by decide +kernel
theorem dxQ_machine_148 : decode cxQ_machine 148 = .ok (.getfield 172, 3) := by decide +kernel
theorem dxQ_machine_151 : decode cxQ_machine 151 = .ok (.ifCond .lt 38, 3) := by decide +kernel
theorem dxQ_machine_154 : decode cxQ_machine 154 = .ok (.aload_n 0, 1) := by decide +kernel
theorem dxQ_machine_155 : decode cxQ_machine 155 = .ok (.aload_n 0, 1) := by decide +kernel
theorem dxQ_machine_156 : decode cxQ_machine 156 = .ok (.getfield 62, 3) := by decide +kernel
theorem dxQ_machine_159 : decode cxQ_machine 159 = .ok (.aload_n 0, 1) := by decide +kernel
theorem dxQ_machine_160 : decode cxQ_machine 160 = .ok (.getfield 172, 3) := by decide +kernel
theorem dxQ_machine_163 : decode cxQ_machine 163 = .ok (.iaload, 1) := by decide +kernel
theorem dxQ_machine_164 : decode cxQ_machine 164 = .ok (.iload_n 2, 1) := by decide +kernel
theorem dxQ_machine_165 : decode cxQ_machine 165 = .ok (.invokevirtual 178, 3) := by decide +kernel
theorem dxQ_machine_168 : decode cxQ_machine 168 = .ok (.ifCond .ne 21, 3) := by decide +kernel
theorem dxQ_machine_171 : decode cxQ_machine 171 = .ok (.aload_n 0, 1) := by decide +kernel
theorem dxQ_machine_172 : decode cxQ_machine 172 = .ok (.iconst 4, 1) := by decide +kernel
theorem dxQ_machine_173 : decode cxQ_machine 173 = .ok (.aload_n 0, 1) := by decide +kernel
theorem dxQ_machine_174 : decode cxQ_machine 174 = .ok (.getfield 62, 3) := by decide +kernel
theorem dxQ_machine_177 : decode cxQ_machine 177 = .ok (.aload_n 0, 1) := by decide +kernel
theorem dxQ_machine_178 : decode cxQ_machine 178 = .ok (.getfield 172, 3) := by decide +kernel
theorem dxQ_machine_181 : decode cxQ_machine 181 = .ok (.iaload, 1) := by decide +kernel
theorem dxQ_machine_182 : decode cxQ_machine 182 = .ok (.iconst (-1), 1) := by decide +kernel
theorem dxQ_machine_183 : decode cxQ_machine 183 = .ok (.invokevirtual 168, 3) := by decide +kernel
theorem dxQ_machine_186 : decode cxQ_machine 186 = .ok (.goto 9, 3) := by decide +kernel
theorem dxQ_machine_189 : decode cxQ_machine 189 = .ok (.aload_n 0, 1) := by decide +kernel
theorem dxQ_machine_190 : decode cxQ_machine 190 = .ok (.iconst 0, 1) := by decide +kernel
theorem dxQ_machine_191 : decode cxQ_machine 191 = .ok (.iconst 0, 1) := by decide +kernel
theorem dxQ_machine_192 : decode cxQ_machine 192 = .ok (.invokevirtual 157, 3) := by decide +kernel
theorem dxQ_machine_195 : decode cxQ_machine 195 = .ok (.return_, 1) := by decide +kernel
theorem dxQ_machine_196 : decode cxQ_machine 196 = .ok (.aload_n 0, 1) := by decide +kernel
theorem dxQ_machine_197 : decode cxQ_machine 197 = .ok (.iconst 4, 1) := by decide +kernel
theorem dxQ_machine_198 : decode cxQ_machine 198 = .ok (.putfield 138, 3) := by decide +kernel
theorem dxQ_machine_201 : decode cxQ_machine 201 = .ok (.aload_n 0, 1) := by decide +kernel
theorem dxQ_machine_202 : decode cxQ_machine 202 = .ok (.aload_n 0, 1) := by decide +kernel
theorem dxQ_machine_203 : decode cxQ_machine 203 = .ok (.getfield 74, 3) := by decide +kernel
theorem dxQ_machine_206 : decode cxQ_machine 206 = .ok (.iload_n 2, 1) := by decide +kernel
theorem dxQ_machine_207 : decode cxQ_machine 207 = .ok (.iaload, 1) := by decide +kernel
theorem dxQ_machine_208 : decode cxQ_machine 208 = .ok (.sipush 255, 3) := by decide +kernel
theorem dxQ_machine_211 : decode cxQ_machine 211 = .ok (.iand, 1) := by decide +kernel
theorem dxQ_machine_212 : decode cxQ_machine 212 = .ok (.putfield 181, 3) := by decide +kernel
theorem dxQ_machine_215 : decode cxQ_machine 215 = .ok (.aload_n 0, 1) := by decide +kernel
theorem dxQ_machine_216 : decode cxQ_machine 216 = .ok (.iconst 1, 1) := by decide +kernel
theorem dxQ_machine_217 : decode cxQ_machine 217 = .ok (.putfield 141, 3) := by decide +kernel
theorem dxQ_machine_220 : decode cxQ_machine 220 = .ok (.return_, 1) := by decide +kernel
theorem dxQ_machine_221 : decode cxQ_machine 221 = .ok (.aload_n 0, 1) := by decide +kernel
theorem dxQ_machine_222 : decode cxQ_machine 222 = .ok (.getfield 77, 3) := by decide +kernel
theorem dxQ_machine_225 : decode cxQ_machine 225 = .ok (.iload_n 2, 1) := by decide +kernel
theorem dxQ_machine_226 : decode cxQ_machine 226 = .ok (.iaload, 1) := by decide +kernel
theorem dxQ_machine_227 : decode cxQ_machine 227 = .ok (.ifCond .ne 14, 3) := by decide +kernel
theorem dxQ_machine_230 : decode cxQ_machine 230 = .ok (.aload_n 0, 1) := by decide +kernel
theorem dxQ_machine_231 : decode cxQ_machine 231 = .ok (.bipush 6, 2) := by decide +kernel
theorem dxQ_machine_233 : decode cxQ_machine 233 = .ok (.iload_n 2, 1) := by decide +kernel
theorem dxQ_machine_234 : decode cxQ_machine 234 = .ok (.iconst (-1), 1) := by decide +kernel
theorem dxQ_machine_235 : decode cxQ_machine 235 = .ok (.invokevirtual 168, 3) := by decide +kernel
theorem dxQ_machine_238 : decode cxQ_machine 238 = .ok (.goto 11, 3) := by decide +kernel
theorem dxQ_machine_241 : decode cxQ_machine 241 = .ok (.aload_n 0, 1) := by decide +kernel
theorem dxQ_machine_242 : decode cxQ_machine 242 = .ok (.bipush 100, 2) := by decide +kernel
theorem dxQ_machine_244 : decode cxQ_machine 244 = .ok (.iload_n 2, 1) := by decide +kernel
theorem dxQ_machine_245 : decode cxQ_machine 245 = .ok (.iadd, 1) := by decide +kernel
theorem dxQ_machine_246 : decode cxQ_machine 246 = .ok (.invokevirtual 164, 3) := by decide +kernel
theorem dxQ_machine_249 : decode cxQ_machine 249 = .ok (.return_, 1) := by decide +kernel
theorem dxQ_machine_250 : decode cxQ_machine 250 = .ok (.aload_n 0, 1) := by decide +kernel
theorem dxQ_machine_251 : decode cxQ_machine 251 = .ok (.getfield 172, 3) := by decide +kernel
theorem dxQ_machine_254 : decode cxQ_machine 254 = .ok (.ifCond .lt 23, 3) := by decide +kernel
theorem dxQ_machine_257 : decode cxQ_machine 257 = .ok (.aload_n 0, 1) := by decide +kernel
theorem dxQ_machine_258 : decode cxQ_machine 258 = .ok (.aload_n 0, 1) := by decide +kernel
theorem dxQ_machine_259 : decode cxQ_machine 259 = .ok (.getfield 62, 3) := by decide +kernel
theorem dxQ_machine_262 : decode cxQ_machine 262 = .ok (.aload_n 0, 1) := by decide +kernel
theorem dxQ_machine_263 : decode cxQ_machine 263 = .ok (.aload_n 0, 1) := by decide +kernel
theorem dxQ_machine_264 : decode cxQ_machine 264 = .ok (.getfield 172, 3) := by decide +kernel
theorem dxQ_machine_267 : decode cxQ_machine 267 = .ok (.invokevirtual 184, 3) := by decide +kernel
theorem dxQ_machine_270 : decode cxQ_machine 270 = .ok (.iaload, 1) := by decide +kernel
theorem dxQ_machine_271 : decode cxQ_machine 271 = .ok (.invokevirtual 164, 3) := by decide +kernel
theorem dxQ_machine_274 : decode cxQ_machine 274 = .ok (.goto 9, 3) := by decide +kernel
theorem dxQ_machine_277 : decode cxQ_machine 277 = .ok (.aload_n 0, 1) := by decide +kernel
theorem dxQ_machine_278 : decode cxQ_machine 278 = .ok (.iconst 0, 1) := by decide +kernel
theorem dxQ_machine_279 : decode cxQ_machine 279 = .ok (.iconst 0, 1) := by decide +kernel
theorem dxQ_machine_280 : decode cxQ_machine 280 = .ok (.invokevirtual 157, 3) := by decide +kernel
theorem dxQ_machine_283 : decode cxQ_machine 283 = .ok (.return_, 1) := by decide +kernel
theorem dxQ_lastOf_0 : decode cxQ_lastOf 0 = .ok (.iload_n 1, 1) := by decide +kernel
theorem dxQ_lastOf_1 : decode cxQ_lastOf 1 = .ok (.istore_n 2, 1) := by decide +kernel
theorem dxQ_lastOf_2 : decode cxQ_lastOf 2 = .ok (.aload_n 0, 1) := by decide +kernel
theorem dxQ_lastOf_3 : decode cxQ_lastOf 3 = .ok (.getfield 68, 3) := by decide +kernel
theorem dxQ_lastOf_6 : decode cxQ_lastOf 6 = .ok (.iload_n 2, 1) := by decide +kernel
theorem dxQ_lastOf_7 : decode cxQ_lastOf 7 = .ok (.iaload, 1) := by decide +kernel
theorem dxQ_lastOf_8 : decode cxQ_lastOf 8 = .ok (.ifCond .lt 13, 3) := by decide +kernel
theorem dxQ_lastOf_11 : decode cxQ_lastOf 11 = .ok (.aload_n 0, 1) := by decide +kernel
theorem dxQ_lastOf_12 : decode cxQ_lastOf 12 = .ok (.getfield 68, 3) := by decide +kernel
theorem dxQ_lastOf_15 : decode cxQ_lastOf 15 = .ok (.iload_n 2, 1) := by decide +kernel
theorem dxQ_lastOf_16 : decode cxQ_lastOf 16 = .ok (.iaload, 1) := by decide +kernel
theorem dxQ_lastOf_17 : decode cxQ_lastOf 17 = .ok (.istore_n 2, 1) := by decide +kernel
theorem dxQ_lastOf_18 : decode cxQ_lastOf 18 = .ok (.goto (-16), 3) := by decide +kernel
theorem dxQ_lastOf_21 : decode cxQ_lastOf 21 = .ok (.iload_n 2, 1) := by decide +kernel
theorem dxQ_lastOf_22 : decode cxQ_lastOf 22 = .ok (.ireturn, 1) := by decide +kernel
theorem dxQ_hasParts_0 : decode cxQ_hasParts 0 = .ok (.iload_n 0, 1) := by decide +kernel
theorem dxQ_hasParts_1 : decode cxQ_hasParts 1 = .ok (.iconst 4, 1) := by decide +kernel
theorem dxQ_hasParts_2 : decode cxQ_hasParts 2 = .ok (.if_icmp .lt 9, 3) := by decide +kernel
theorem dxQ_hasParts_5 : decode cxQ_hasParts 5 = .ok (.iload_n 0, 1) := by decide +kernel
theorem dxQ_hasParts_6 : decode cxQ_hasParts 6 = .ok (.bipush 6, 2) := by decide +kernel
theorem dxQ_hasParts_8 : decode cxQ_hasParts 8 = .ok (.if_icmp .le 27, 3) := by decide +kernel
theorem dxQ_hasParts_11 : decode cxQ_hasParts 11 = .ok (.iload_n 0, 1) := by decide +kernel
theorem dxQ_hasParts_12 : decode cxQ_hasParts 12 = .ok (.bipush 9, 2) := by decide +kernel
theorem dxQ_hasParts_14 : decode cxQ_hasParts 14 = .ok (.if_icmp .eq 21, 3) := by decide +kernel
theorem dxQ_hasParts_17 : decode cxQ_hasParts 17 = .ok (.iload_n 0, 1) := by decide +kernel
theorem dxQ_hasParts_18 : decode cxQ_hasParts 18 = .ok (.bipush 13, 2) := by decide +kernel
theorem dxQ_hasParts_20 : decode cxQ_hasParts 20 = .ok (.if_icmp .lt 9, 3) := by decide +kernel
theorem dxQ_hasParts_23 : decode cxQ_hasParts 23 = .ok (.iload_n 0, 1) := by decide +kernel
theorem dxQ_hasParts_24 : decode cxQ_hasParts 24 = .ok (.bipush 15, 2) := by decide +kernel
theorem dxQ_hasParts_26 : decode cxQ_hasParts 26 = .ok (.if_icmp .le 9, 3) := by decide +kernel
theorem dxQ_hasParts_29 : decode cxQ_hasParts 29 = .ok (.iload_n 0, 1) := by decide +kernel
theorem dxQ_hasParts_30 : decode cxQ_hasParts 30 = .ok (.bipush 20, 2) := by decide +kernel
theorem dxQ_hasParts_32 : decode cxQ_hasParts 32 = .ok (.if_icmp .ne 7, 3) := by decide +kernel
theorem dxQ_hasParts_35 : decode cxQ_hasParts 35 = .ok (.iconst 1, 1) := by decide +kernel
theorem dxQ_hasParts_36 : decode cxQ_hasParts 36 = .ok (.goto 4, 3) := by decide +kernel
theorem dxQ_hasParts_39 : decode cxQ_hasParts 39 = .ok (.iconst 0, 1) := by decide +kernel
theorem dxQ_hasParts_40 : decode cxQ_hasParts 40 = .ok (.ireturn, 1) := by decide +kernel
theorem dxQ_go_0 : decode cxQ_go 0 = .ok (.aload_n 0, 1) := by decide +kernel
theorem dxQ_go_1 : decode cxQ_go 1 = .ok (.getfield 145, 3) := by decide +kernel
theorem dxQ_go_4 : decode cxQ_go 4 = .ok (.iconst 1, 1) := by decide +kernel
theorem dxQ_go_5 : decode cxQ_go 5 = .ok (.isub, 1) := by decide +kernel
theorem dxQ_go_6 : decode cxQ_go 6 = .ok (.istore_n 1, 1) := by decide +kernel
theorem dxQ_go_7 : decode cxQ_go 7 = .ok (.aload_n 0, 1) := by decide +kernel
theorem dxQ_go_8 : decode cxQ_go 8 = .ok (.getfield 89, 3) := by decide +kernel
theorem dxQ_go_11 : decode cxQ_go 11 = .ok (.iload_n 1, 1) := by decide +kernel
theorem dxQ_go_12 : decode cxQ_go 12 = .ok (.iaload, 1) := by decide +kernel
theorem dxQ_go_13 : decode cxQ_go 13 = .ok (.istore_n 2, 1) := by decide +kernel
theorem dxQ_go_14 : decode cxQ_go 14 = .ok (.aload_n 0, 1) := by decide +kernel
theorem dxQ_go_15 : decode cxQ_go 15 = .ok (.getfield 92, 3) := by decide +kernel
theorem dxQ_go_18 : decode cxQ_go 18 = .ok (.iload_n 1, 1) := by decide +kernel
theorem dxQ_go_19 : decode cxQ_go 19 = .ok (.iaload, 1) := by decide +kernel
theorem dxQ_go_20 : decode cxQ_go 20 = .ok (.istore_n 3, 1) := by decide +kernel
theorem dxQ_go_21 : decode cxQ_go 21 = .ok (.aload_n 0, 1) := by decide +kernel
theorem dxQ_go_22 : decode cxQ_go 22 = .ok (.getfield 92, 3) := by decide +kernel
theorem dxQ_go_25 : decode cxQ_go 25 = .ok (.iload_n 1, 1) := by decide +kernel
theorem dxQ_go_26 : decode cxQ_go 26 = .ok (.dup2, 1) := by decide +kernel
theorem dxQ_go_27 : decode cxQ_go 27 = .ok (.iaload, 1) := by decide +kernel
theorem dxQ_go_28 : decode cxQ_go 28 = .ok (.iconst 1, 1) := by decide +kernel
theorem dxQ_go_29 : decode cxQ_go 29 = .ok (.iadd, 1) := by decide +kernel
theorem dxQ_go_30 : decode cxQ_go 30 = .ok (.iastore, 1) := by decide +kernel
theorem dxQ_go_31 : decode cxQ_go 31 = .ok (.aload_n 0, 1) := by decide +kernel
theorem dxQ_go_32 : decode cxQ_go 32 = .ok (.getfield 41, 3) := by decide +kernel
theorem dxQ_go_35 : decode cxQ_go 35 = .ok (.iload_n 2, 1) := by decide +kernel
theorem dxQ_go_36 : decode cxQ_go 36 = .ok (.iaload, 1) := by decide +kernel
theorem dxQ_go_37 : decode cxQ_go 37 = .ok (.invokestatic 188, 3) := by decide +kernel
theorem dxQ_go_40 : decode cxQ_go 40 = .ok (.ifCond .ne 9, 3) := by decide +kernel
theorem dxQ_go_43 : decode cxQ_go 43 = .ok (.aload_n 0, 1) := by decide +kernel
theorem dxQ_go_44 : decode cxQ_go 44 = .ok (.iload_n 2, 1) := by decide +kernel
theorem dxQ_go_45 : decode cxQ_go 45 = .ok (.invokevirtual 191, 3) := by decide +kernel
theorem dxQ_go_48 : decode cxQ_go 48 = .ok (.return_, 1) := by decide +kernel
theorem dxQ_go_49 : decode cxQ_go 49 = .ok (.aload_n 0, 1) := by decide +kernel
theorem dxQ_go_50 : decode cxQ_go 50 = .ok (.getfield 41, 3) := by decide +kernel
theorem dxQ_go_53 : decode cxQ_go 53 = .ok (.iload_n 2, 1) := by decide +kernel
theorem dxQ_go_54 : decode cxQ_go 54 = .ok (.iaload, 1) := by decide +kernel
theorem dxQ_go_55 : decode cxQ_go 55 = .ok (.tableswitch 176 4 20 #[81, 138, 145, 176, 176, 153, 176, 176, 176, 161, 176, 176, 176, 176, 176, 176, 169], 81) := by decide +kernel
theorem dxQ_go_136 : decode cxQ_go 136 = .ok (.iload_n 3, 1) := by decide +kernel
theorem dxQ_go_137 : decode cxQ_go 137 = .ok (.ifCond .ne 17, 3) := by decide +kernel
theorem dxQ_go_140 : decode cxQ_go 140 = .ok (.aload_n 0, 1) := by decide +kernel
theorem dxQ_go_141 : decode cxQ_go 141 = .ok (.aload_n 0, 1) := by decide +kernel
theorem dxQ_go_142 : decode cxQ_go 142 = .ok (.getfield 44, 3) := by decide +kernel
theorem dxQ_go_145 : decode cxQ_go 145 = .ok (.iload_n 2, 1) := by decide +kernel
theorem dxQ_go_146 : decode cxQ_go 146 = .ok (.iaload, 1) := by decide +kernel
theorem dxQ_go_147 : decode cxQ_go 147 = .ok (.invokevirtual 194, 3) := by decide +kernel
theorem dxQ_go_150 : decode cxQ_go 150 = .ok (.pop, 1) := by decide +kernel
theorem dxQ_go_151 : decode cxQ_go 151 = .ok (.goto 41, 3) := by decide +kernel
theorem dxQ_go_154 : decode cxQ_go 154 = .ok (.iload_n 3, 1) := by decide +kernel
theorem dxQ_go_155 : decode cxQ_go 155 = .ok (.iconst 1, 1) := by decide +kernel
theorem dxQ_go_156 : decode cxQ_go 156 = .ok (.if_icmp .ne 24, 3) := by decide +kernel
theorem dxQ_go_159 : decode cxQ_go 159 = .ok (.aload_n 0, 1) := by decide +kernel
theorem dxQ_go_160 : decode cxQ_go 160 = .ok (.getfield 148, 3) := by decide +kernel
theorem dxQ_go_163 : decode cxQ_go 163 = .ok (.ifCond .ne 17, 3) := by decide +kernel
theorem dxQ_go_166 : decode cxQ_go 166 = .ok (.aload_n 0, 1) := by decide +kernel
theorem dxQ_go_167 : decode cxQ_go 167 = .ok (.aload_n 0, 1) := by decide +kernel
theorem dxQ_go_168 : decode cxQ_go 168 = .ok (.getfield 47, 3) := by decide +kernel
theorem dxQ_go_171 : decode cxQ_go 171 = .ok (.iload_n 2, 1) := by decide +kernel
theorem dxQ_go_172 : decode cxQ_go 172 = .ok (.iaload, 1) := by decide +kernel
theorem dxQ_go_173 : decode cxQ_go 173 = .ok (.invokevirtual 194, 3) := by decide +kernel
theorem dxQ_go_176 : decode cxQ_go 176 = .ok (.pop, 1) := by decide +kernel
theorem dxQ_go_177 : decode cxQ_go 177 = .ok (.goto 15, 3) := by decide +kernel
theorem dxQ_go_180 : decode cxQ_go 180 = .ok (.aload_n 0, 1) := by decide +kernel
theorem dxQ_go_181 : decode cxQ_go 181 = .ok (.aload_n 0, 1) := by decide +kernel
theorem dxQ_go_182 : decode cxQ_go 182 = .ok (.getfield 148, 3) := by decide +kernel
theorem dxQ_go_185 : decode cxQ_go 185 = .ok (.aload_n 0, 1) := by decide +kernel
theorem dxQ_go_186 : decode cxQ_go 186 = .ok (.getfield 151, 3) := by decide +kernel
theorem dxQ_go_189 : decode cxQ_go 189 = .ok (.invokevirtual 157, 3) := by decide +kernel
theorem dxQ_go_192 : decode cxQ_go 192 = .ok (.return_, 1) := by decide +kernel
theorem dxQ_go_193 : decode cxQ_go 193 = .ok (.aload_n 0, 1) := by decide +kernel
theorem dxQ_go_194 : decode cxQ_go 194 = .ok (.iload_n 2, 1) := by decide +kernel
theorem dxQ_go_195 : decode cxQ_go 195 = .ok (.iload_n 3, 1) := by decide +kernel
theorem dxQ_go_196 : decode cxQ_go 196 = .ok (.invokevirtual 197, 3) := by decide +kernel
theorem dxQ_go_199 : decode cxQ_go 199 = .ok (.return_, 1) := by decide +kernel
theorem dxQ_go_200 : decode cxQ_go 200 = .ok (.aload_n 0, 1) := by decide +kernel
theorem dxQ_go_201 : decode cxQ_go 201 = .ok (.iload_n 1, 1) := by decide +kernel
theorem dxQ_go_202 : decode cxQ_go 202 = .ok (.iload_n 2, 1) := by decide +kernel
theorem dxQ_go_203 : decode cxQ_go 203 = .ok (.iload_n 3, 1) := by decide +kernel
theorem dxQ_go_204 : decode cxQ_go 204 = .ok (.invokevirtual 200, 3) := by decide +kernel
theorem dxQ_go_207 : decode cxQ_go 207 = .ok (.return_, 1) := by decide +kernel
theorem dxQ_go_208 : decode cxQ_go 208 = .ok (.aload_n 0, 1) := by decide +kernel
theorem dxQ_go_209 : decode cxQ_go 209 = .ok (.iload_n 1, 1) := by decide +kernel
theorem dxQ_go_210 : decode cxQ_go 210 = .ok (.iload_n 2, 1) := by decide +kernel
theorem dxQ_go_211 : decode cxQ_go 211 = .ok (.iload_n 3, 1) := by decide +kernel
theorem dxQ_go_212 : decode cxQ_go 212 = .ok (.invokevirtual 203, 3) := by decide +kernel
theorem dxQ_go_215 : decode cxQ_go 215 = .ok (.return_, 1) := by decide +kernel
theorem dxQ_go_216 : decode cxQ_go 216 = .ok (.aload_n 0, 1) := by decide +kernel
theorem dxQ_go_217 : decode cxQ_go 217 = .ok (.iload_n 1, 1) := by decide +kernel
theorem dxQ_go_218 : decode cxQ_go 218 = .ok (.iload_n 2, 1) := by decide +kernel
theorem dxQ_go_219 : decode cxQ_go 219 = .ok (.iload_n 3, 1) := by decide +kernel
theorem dxQ_go_220 : decode cxQ_go 220 = .ok (.invokevirtual 206, 3) := by decide +kernel
theorem dxQ_go_223 : decode cxQ_go 223 = .ok (.return_, 1) := by decide +kernel
theorem dxQ_go_224 : decode cxQ_go 224 = .ok (.aload_n 0, 1) := by decide +kernel
theorem dxQ_go_225 : decode cxQ_go 225 = .ok (.iload_n 2, 1) := by decide +kernel
theorem dxQ_go_226 : decode cxQ_go 226 = .ok (.iload_n 3, 1) := by decide +kernel
theorem dxQ_go_227 : decode cxQ_go 227 = .ok (.invokevirtual 209, 3) := by decide +kernel
theorem dxQ_go_230 : decode cxQ_go 230 = .ok (.return_, 1) := by decide +kernel
theorem dxQ_go_231 : decode cxQ_go 231 = .ok (.aload_n 0, 1) := by decide +kernel
theorem dxQ_go_232 : decode cxQ_go 232 = .ok (.iload_n 1, 1) := by decide +kernel
theorem dxQ_go_233 : decode cxQ_go 233 = .ok (.iload_n 2, 1) := by decide +kernel
theorem dxQ_go_234 : decode cxQ_go 234 = .ok (.iload_n 3, 1) := by decide +kernel
theorem dxQ_go_235 : decode cxQ_go 235 = .ok (.invokevirtual 212, 3) := by decide +kernel
theorem dxQ_go_238 : decode cxQ_go 238 = .ok (.return_, 1) := by decide +kernel
theorem dxQ_branch_0 : decode cxQ_branch 0 = .ok (.aload_n 0, 1) := by decide +kernel
theorem dxQ_branch_1 : decode cxQ_branch 1 = .ok (.getfield 74, 3) := by decide +kernel
theorem dxQ_branch_4 : decode cxQ_branch 4 = .ok (.aload_n 0, 1) := by decide +kernel
theorem dxQ_branch_5 : decode cxQ_branch 5 = .ok (.getfield 44, 3) := by decide +kernel
theorem dxQ_branch_8 : decode cxQ_branch 8 = .ok (.iload_n 1, 1) := by decide +kernel
theorem dxQ_branch_9 : decode cxQ_branch 9 = .ok (.iaload, 1) := by decide +kernel
theorem dxQ_branch_10 : decode cxQ_branch 10 = .ok (.iaload, 1) := by decide +kernel
theorem dxQ_branch_11 : decode cxQ_branch 11 = .ok (.ifCond .eq 12, 3) := by decide +kernel
theorem dxQ_branch_14 : decode cxQ_branch 14 = .ok (.aload_n 0, 1) := by decide +kernel
theorem dxQ_branch_15 : decode cxQ_branch 15 = .ok (.getfield 47, 3) := by decide +kernel
theorem dxQ_branch_18 : decode cxQ_branch 18 = .ok (.iload_n 1, 1) := by decide +kernel
theorem dxQ_branch_19 : decode cxQ_branch 19 = .ok (.iaload, 1) := by decide +kernel
theorem dxQ_branch_20 : decode cxQ_branch 20 = .ok (.goto 9, 3) := by decide +kernel
theorem dxQ_branch_23 : decode cxQ_branch 23 = .ok (.aload_n 0, 1) := by decide +kernel
theorem dxQ_branch_24 : decode cxQ_branch 24 = .ok (.getfield 50, 3) := by decide +kernel
theorem dxQ_branch_27 : decode cxQ_branch 27 = .ok (.iload_n 1, 1) := by decide +kernel
theorem dxQ_branch_28 : decode cxQ_branch 28 = .ok (.iaload, 1) := by decide +kernel
theorem dxQ_branch_29 : decode cxQ_branch 29 = .ok (.istore_n 3, 1) := by decide +kernel
theorem dxQ_branch_30 : decode cxQ_branch 30 = .ok (.iload_n 2, 1) := by decide +kernel
theorem dxQ_branch_31 : decode cxQ_branch 31 = .ok (.iconst 1, 1) := by decide +kernel
theorem dxQ_branch_32 : decode cxQ_branch 32 = .ok (.if_icmp .ne 18, 3) := by decide +kernel
theorem dxQ_branch_35 : decode cxQ_branch 35 = .ok (.aload_n 0, 1) := by decide +kernel
theorem dxQ_branch_36 : decode cxQ_branch 36 = .ok (.aload_n 0, 1) := by decide +kernel
theorem dxQ_branch_37 : decode cxQ_branch 37 = .ok (.getfield 148, 3) := by decide +kernel
theorem dxQ_branch_40 : decode cxQ_branch 40 = .ok (.aload_n 0, 1) := by decide +kernel
theorem dxQ_branch_41 : decode cxQ_branch 41 = .ok (.getfield 151, 3) := by decide +kernel
theorem dxQ_branch_44 : decode cxQ_branch 44 = .ok (.invokevirtual 157, 3) := by decide +kernel
theorem dxQ_branch_47 : decode cxQ_branch 47 = .ok (.goto 22, 3) := by decide +kernel
theorem dxQ_branch_50 : decode cxQ_branch 50 = .ok (.iload_n 3, 1) := by decide +kernel
theorem dxQ_branch_51 : decode cxQ_branch 51 = .ok (.ifCond .ge 12, 3) := by decide +kernel
theorem dxQ_branch_54 : decode cxQ_branch 54 = .ok (.aload_n 0, 1) := by decide +kernel
theorem dxQ_branch_55 : decode cxQ_branch 55 = .ok (.iconst 0, 1) := by decide +kernel
theorem dxQ_branch_56 : decode cxQ_branch 56 = .ok (.iconst 0, 1) := by decide +kernel
theorem dxQ_branch_57 : decode cxQ_branch 57 = .ok (.invokevirtual 157, 3) := by decide +kernel
theorem dxQ_branch_60 : decode cxQ_branch 60 = .ok (.goto 9, 3) := by decide +kernel
theorem dxQ_branch_63 : decode cxQ_branch 63 = .ok (.aload_n 0, 1) := by decide +kernel
theorem dxQ_branch_64 : decode cxQ_branch 64 = .ok (.iload_n 3, 1) := by decide +kernel
theorem dxQ_branch_65 : decode cxQ_branch 65 = .ok (.invokevirtual 194, 3) := by decide +kernel
theorem dxQ_branch_68 : decode cxQ_branch 68 = .ok (.pop, 1) := by decide +kernel
theorem dxQ_branch_69 : decode cxQ_branch 69 = .ok (.return_, 1) := by decide +kernel
theorem dxQ_loop_0 : decode cxQ_loop 0 = .ok (.iload_n 3, 1) := by decide +kernel
theorem dxQ_loop_1 : decode cxQ_loop 1 = .ok (.ifCond .le 35, 3) := by decide +kernel
theorem dxQ_loop_4 : decode cxQ_loop 4 = .ok (.aload_n 0, 1) := by decide +kernel
theorem dxQ_loop_5 : decode cxQ_loop 5 = .ok (.getfield 148, 3) := by decide +kernel
theorem dxQ_loop_8 : decode cxQ_loop 8 = .ok (.ifCond .eq 28, 3) := by decide +kernel
theorem dxQ_loop_11 : decode cxQ_loop 11 = .ok (.aload_n 0, 1) := by decide +kernel
theorem dxQ_loop_12 : decode cxQ_loop 12 = .ok (.aload_n 0, 1) := by decide +kernel
theorem dxQ_loop_13 : decode cxQ_loop 13 = .ok (.getfield 148, 3) := by decide +kernel
theorem dxQ_loop_16 : decode cxQ_loop 16 = .ok (.iconst 1, 1) := by decide +kernel
theorem dxQ_loop_17 : decode cxQ_loop 17 = .ok (.if_icmp .ne 7, 3) := by decide +kernel
theorem dxQ_loop_20 : decode cxQ_loop 20 = .ok (.iconst 0, 1) := by decide +kernel
theorem dxQ_loop_21 : decode cxQ_loop 21 = .ok (.goto 7, 3) := by decide +kernel
theorem dxQ_loop_24 : decode cxQ_loop 24 = .ok (.aload_n 0, 1) := by decide +kernel
theorem dxQ_loop_25 : decode cxQ_loop 25 = .ok (.getfield 148, 3) := by decide +kernel
theorem dxQ_loop_28 : decode cxQ_loop 28 = .ok (.aload_n 0, 1) := by decide +kernel
theorem dxQ_loop_29 : decode cxQ_loop 29 = .ok (.getfield 151, 3) := by decide +kernel
theorem dxQ_loop_32 : decode cxQ_loop 32 = .ok (.invokevirtual 157, 3) := by decide +kernel
theorem dxQ_loop_35 : decode cxQ_loop 35 = .ok (.return_, 1) := by decide +kernel
theorem dxQ_loop_36 : decode cxQ_loop 36 = .ok (.aload_n 0, 1) := by decide +kernel
theorem dxQ_loop_37 : decode cxQ_loop 37 = .ok (.getfield 95, 3) := by decide +kernel
theorem dxQ_loop_40 : decode cxQ_loop 40 = .ok (.iload_n 1, 1) := by decide +kernel
theorem dxQ_loop_41 : decode cxQ_loop 41 = .ok (.iaload, 1) := by decide +kernel
theorem dxQ_loop_42 : decode cxQ_loop 42 = .ok (.aload_n 0, 1) := by decide +kernel
theorem dxQ_loop_43 : decode cxQ_loop 43 = .ok (.getfield 44, 3) := by decide +kernel
theorem dxQ_loop_46 : decode cxQ_loop 46 = .ok (.iload_n 2, 1) := by decide +kernel
theorem dxQ_loop_47 : decode cxQ_loop 47 = .ok (.iaload, 1) := by decide +kernel
theorem dxQ_loop_48 : decode cxQ_loop 48 = .ok (.if_icmp .ne 10, 3) := by decide +kernel
theorem dxQ_loop_51 : decode cxQ_loop 51 = .ok (.aload_n 0, 1) := by decide +kernel
theorem dxQ_loop_52 : decode cxQ_loop 52 = .ok (.iconst 0, 1) := by decide +kernel
theorem dxQ_loop_53 : decode cxQ_loop 53 = .ok (.iconst 0, 1) := by decide +kernel
theorem dxQ_loop_54 : decode cxQ_loop 54 = .ok (.invokevirtual 157, 3) := by decide +kernel
theorem dxQ_loop_57 : decode cxQ_loop 57 = .ok (.return_, 1) := by decide +kernel
theorem dxQ_loop_58 : decode cxQ_loop 58 = .ok (.aload_n 0, 1) := by decide +kernel
theorem dxQ_loop_59 : decode cxQ_loop 59 = .ok (.getfield 95, 3) := by decide +kernel
theorem dxQ_loop_62 : decode cxQ_loop 62 = .ok (.iload_n 1, 1) := by decide +kernel
theorem dxQ_loop_63 : decode cxQ_loop 63 = .ok (.dup2, 1) := by decide +kernel
theorem dxQ_loop_64 : decode cxQ_loop 64 = .ok (.iaload, 1) := by decide +kernel
theorem dxQ_loop_65 : decode cxQ_loop 65 = .ok (.iconst 1, 1) := by decide +kernel
theorem dxQ_loop_66 : decode cxQ_loop 66 = .ok (.iadd, 1) := by decide +kernel
theorem dxQ_loop_67 : decode cxQ_loop 67 = .ok (.iastore, 1) := by decide +kernel
theorem dxQ_loop_68 : decode cxQ_loop 68 = .ok (.aload_n 0, 1) := by decide +kernel
theorem dxQ_loop_69 : decode cxQ_loop 69 = .ok (.aload_n 0, 1) := by decide +kernel
theorem dxQ_loop_70 : decode cxQ_loop 70 = .ok (.getfield 47, 3) := by decide +kernel
theorem dxQ_loop_73 : decode cxQ_loop 73 = .ok (.iload_n 2, 1) := by decide +kernel
theorem dxQ_loop_74 : decode cxQ_loop 74 = .ok (.iaload, 1) := by decide +kernel
theorem dxQ_loop_75 : decode cxQ_loop 75 = .ok (.invokevirtual 194, 3) := by decide +kernel
theorem dxQ_loop_78 : decode cxQ_loop 78 = .ok (.pop, 1) := by decide +kernel
theorem dxQ_loop_79 : decode cxQ_loop 79 = .ok (.return_, 1) := by decide +kernel
theorem dxQ_call_0 : decode cxQ_call 0 = .ok (.iload_n 3, 1) := by decide +kernel
theorem dxQ_call_1 : decode cxQ_call 1 = .ok (.ifCond .ne 110, 3) := by decide +kernel
theorem dxQ_call_4 : decode cxQ_call 4 = .ok (.aload_n 0, 1) := by decide +kernel
theorem dxQ_call_5 : decode cxQ_call 5 = .ok (.getfield 56, 3) := by decide +kernel
theorem dxQ_call_8 : decode cxQ_call 8 = .ok (.aload_n 0, 1) := by decide +kernel
theorem dxQ_call_9 : decode cxQ_call 9 = .ok (.getfield 44, 3) := by decide +kernel
theorem dxQ_call_12 : decode cxQ_call 12 = .ok (.iload_n 2, 1) := by decide +kernel
theorem dxQ_call_13 : decode cxQ_call 13 = .ok (.iaload, 1) := by decide +kernel
theorem dxQ_call_14 : decode cxQ_call 14 = .ok (.iaload, 1) := by decide +kernel
theorem dxQ_call_15 : decode cxQ_call 15 = .ok (.ifCond .ge 10, 3) := by decide +kernel
theorem dxQ_call_18 : decode cxQ_call 18 = .ok (.aload_n 0, 1) := by decide +kernel
theorem dxQ_call_19 : decode cxQ_call 19 = .ok (.iconst 0, 1) := by decide +kernel
theorem dxQ_call_20 : decode cxQ_call 20 = .ok (.iconst 0, 1) := by decide +kernel
theorem dxQ_call_21 : decode cxQ_call 21 = .ok (.invokevirtual 157, 3) := by decide +kernel
theorem dxQ_call_24 : decode cxQ_call 24 = .ok (.return_, 1) := by decide +kernel
theorem dxQ_call_25 : decode cxQ_call 25 = .ok (.aload_n 0, 1) := by decide +kernel
theorem dxQ_call_26 : decode cxQ_call 26 = .ok (.getfield 215, 3) := by decide +kernel
theorem dxQ_call_29 : decode cxQ_call 29 = .ok (.aload_n 0, 1) := by decide +kernel
theorem dxQ_call_30 : decode cxQ_call 30 = .ok (.getfield 110, 3) := by decide +kernel
theorem dxQ_call_33 : decode cxQ_call 33 = .ok (.if_icmp .ne 14, 3) := by decide +kernel
theorem dxQ_call_36 : decode cxQ_call 36 = .ok (.aload_n 0, 1) := by decide +kernel
theorem dxQ_call_37 : decode cxQ_call 37 = .ok (.iconst 5, 1) := by decide +kernel
theorem dxQ_call_38 : decode cxQ_call 38 = .ok (.aload_n 0, 1) := by decide +kernel
theorem dxQ_call_39 : decode cxQ_call 39 = .ok (.getfield 110, 3) := by decide +kernel
theorem dxQ_call_42 : decode cxQ_call 42 = .ok (.iconst (-1), 1) := by decide +kernel
theorem dxQ_call_43 : decode cxQ_call 43 = .ok (.invokevirtual 168, 3) := by decide +kernel
theorem dxQ_call_46 : decode cxQ_call 46 = .ok (.return_, 1) := by decide +kernel
theorem dxQ_call_47 : decode cxQ_call 47 = .ok (.aload_n 0, 1) := by decide +kernel
theorem dxQ_call_48 : decode cxQ_call 48 = .ok (.getfield 104, 3) := by decide +kernel
theorem dxQ_call_51 : decode cxQ_call 51 = .ok (.iload_n 1, 1) := by decide +kernel
theorem dxQ_call_52 : decode cxQ_call 52 = .ok (.aload_n 0, 1) := by decide +kernel
theorem dxQ_call_53 : decode cxQ_call 53 = .ok (.getfield 172, 3) := by decide +kernel
theorem dxQ_call_56 : decode cxQ_call 56 = .ok (.iastore, 1) := by decide +kernel
theorem dxQ_call_57 : decode cxQ_call 57 = .ok (.aload_n 0, 1) := by decide +kernel
theorem dxQ_call_58 : decode cxQ_call 58 = .ok (.aload_n 0, 1) := by decide +kernel
theorem dxQ_call_59 : decode cxQ_call 59 = .ok (.getfield 56, 3) := by decide +kernel
theorem dxQ_call_62 : decode cxQ_call 62 = .ok (.aload_n 0, 1) := by decide +kernel
theorem dxQ_call_63 : decode cxQ_call 63 = .ok (.getfield 44, 3) := by decide +kernel
theorem dxQ_call_66 : decode cxQ_call 66 = .ok (.iload_n 2, 1) := by decide +kernel
theorem dxQ_call_67 : decode cxQ_call 67 = .ok (.iaload, 1) := by decide +kernel
theorem dxQ_call_68 : decode cxQ_call 68 = .ok (.iaload, 1) := by decide +kernel
theorem dxQ_call_69 : decode cxQ_call 69 = .ok (.invokevirtual 194, 3) := by decide +kernel
theorem dxQ_call_72 : decode cxQ_call 72 = .ok (.ifCond .ne 4, 3) := by decide +kernel
theorem dxQ_call_75 : decode cxQ_call 75 = .ok (.return_, 1) := by decide +kernel
theorem dxQ_call_76 : decode cxQ_call 76 = .ok (.aload_n 0, 1) := by decide +kernel
theorem dxQ_call_77 : decode cxQ_call 77 = .ok (.dup, 1) := by decide +kernel
theorem dxQ_call_78 : decode cxQ_call 78 = .ok (.getfield 215, 3) := by decide +kernel
theorem dxQ_call_81 : decode cxQ_call 81 = .ok (.iconst 1, 1) := by decide +kernel
theorem dxQ_call_82 : decode cxQ_call 82 = .ok (.iadd, 1) := by decide +kernel
theorem dxQ_call_83 : decode cxQ_call 83 = .ok (.putfield 215, 3) := by decide +kernel
theorem dxQ_call_86 : decode cxQ_call 86 = .ok (.aload_n 0, 1) := by decide +kernel
theorem dxQ_call_87 : decode cxQ_call 87 = .ok (.getfield 215, 3) := by decide +kernel
theorem dxQ_call_90 : decode cxQ_call 90 = .ok (.aload_n 0, 1) := by decide +kernel
theorem dxQ_call_91 : decode cxQ_call 91 = .ok (.getfield 218, 3) := by decide +kernel
theorem dxQ_call_94 : decode cxQ_call 94 = .ok (.if_icmp .le 11, 3) := by decide +kernel
theorem dxQ_call_97 : decode cxQ_call 97 = .ok (.aload_n 0, 1) := by decide +kernel
theorem dxQ_call_98 : decode cxQ_call 98 = .ok (.aload_n 0, 1) := by decide +kernel
theorem dxQ_call_99 : decode cxQ_call 99 = .ok (.getfield 215, 3) := by decide +kernel
theorem dxQ_call_102 : decode cxQ_call 102 = .ok (.putfield 218, 3) := by decide +kernel
theorem dxQ_call_105 : decode cxQ_call 105 = .ok (.aload_n 0, 1) := by decide +kernel
theorem dxQ_call_106 : decode cxQ_call 106 = .ok (.iconst (-1), 1) := by decide +kernel
theorem dxQ_call_107 : decode cxQ_call 107 = .ok (.putfield 172, 3) := by decide +kernel
theorem dxQ_call_110 : decode cxQ_call 110 = .ok (.return_, 1) := by decide +kernel
theorem dxQ_call_111 : decode cxQ_call 111 = .ok (.aload_n 0, 1) := by decide +kernel
theorem dxQ_call_112 : decode cxQ_call 112 = .ok (.dup, 1) := by decide +kernel
theorem dxQ_call_113 : decode cxQ_call 113 = .ok (.getfield 215, 3) := by decide +kernel
theorem dxQ_call_116 : decode cxQ_call 116 = .ok (.iconst 1, 1) := by decide +kernel
theorem dxQ_call_117 : decode cxQ_call 117 = .ok (.isub, 1) := by decide +kernel
theorem dxQ_call_118 : decode cxQ_call 118 = .ok (.putfield 215, 3) := by decide +kernel
theorem dxQ_call_121 : decode cxQ_call 121 = .ok (.aload_n 0, 1) := by decide +kernel
theorem dxQ_call_122 : decode cxQ_call 122 = .ok (.aload_n 0, 1) := by decide +kernel
theorem dxQ_call_123 : decode cxQ_call 123 = .ok (.getfield 104, 3) := by decide +kernel
theorem dxQ_call_126 : decode cxQ_call 126 = .ok (.iload_n 1, 1) := by decide +kernel
theorem dxQ_call_127 : decode cxQ_call 127 = .ok (.iaload, 1) := by decide +kernel
theorem dxQ_call_128 : decode cxQ_call 128 = .ok (.putfield 172, 3) := by decide +kernel
theorem dxQ_call_131 : decode cxQ_call 131 = .ok (.aload_n 0, 1) := by decide +kernel
theorem dxQ_call_132 : decode cxQ_call 132 = .ok (.getfield 148, 3) := by decide +kernel
theorem dxQ_call_135 : decode cxQ_call 135 = .ok (.iconst 2, 1) := by decide +kernel
theorem dxQ_call_136 : decode cxQ_call 136 = .ok (.if_icmp .ne 13, 3) := by decide +kernel
theorem dxQ_call_139 : decode cxQ_call 139 = .ok (.aload_n 0, 1) := by decide +kernel
theorem dxQ_call_140 : decode cxQ_call 140 = .ok (.getfield 74, 3) := by decide +kernel
theorem dxQ_call_143 : decode cxQ_call 143 = .ok (.iconst 0, 1) := by decide +kernel
theorem dxQ_call_144 : decode cxQ_call 144 = .ok (.aload_n 0, 1) := by decide +kernel
theorem dxQ_call_145 : decode cxQ_call 145 = .ok (.getfield 151, 3) := by decide +kernel
theorem dxQ_call_148 : decode cxQ_call 148 = .ok (.iastore, 1) := by decide +kernel
theorem dxQ_call_149 : decode cxQ_call 149 = .ok (.aload_n 0, 1) := by decide +kernel
theorem dxQ_call_150 : decode cxQ_call 150 = .ok (.getfield 148, 3) := by decide +kernel
theorem dxQ_call_153 : decode cxQ_call 153 = .ok (.iconst 3, 1) := by decide +kernel
theorem dxQ_call_154 : decode cxQ_call 154 = .ok (.if_icmp .ne 15, 3) := by decide +kernel
theorem dxQ_call_157 : decode cxQ_call 157 = .ok (.aload_n 0, 1) := by decide +kernel
theorem dxQ_call_158 : decode cxQ_call 158 = .ok (.iconst 3, 1) := by decide +kernel
theorem dxQ_call_159 : decode cxQ_call 159 = .ok (.aload_n 0, 1) := by decide +kernel
theorem dxQ_call_160 : decode cxQ_call 160 = .ok (.getfield 151, 3) := by decide +kernel
theorem dxQ_call_163 : decode cxQ_call 163 = .ok (.invokevirtual 157, 3) := by decide +kernel
theorem dxQ_call_166 : decode cxQ_call 166 = .ok (.goto 9, 3) := by decide +kernel
theorem dxQ_call_169 : decode cxQ_call 169 = .ok (.aload_n 0, 1) := by decide +kernel
theorem dxQ_call_170 : decode cxQ_call 170 = .ok (.iconst 0, 1) := by decide +kernel
theorem dxQ_call_171 : decode cxQ_call 171 = .ok (.iconst 0, 1) := by decide +kernel
theorem dxQ_call_172 : decode cxQ_call 172 = .ok (.invokevirtual 157, 3) := by decide +kernel
theorem dxQ_call_175 : decode cxQ_call 175 = .ok (.return_, 1) := by decide +kernel
theorem dxQ_attempt_0 : decode cxQ_attempt 0 = .ok (.iload_n 3, 1) := by decide +kernel
theorem dxQ_attempt_1 : decode cxQ_attempt 1 = .ok (.ifCond .ne 17, 3) := by decide +kernel
theorem dxQ_attempt_4 : decode cxQ_attempt 4 = .ok (.aload_n 0, 1) := by decide +kernel
theorem dxQ_attempt_5 : decode cxQ_attempt 5 = .ok (.aload_n 0, 1) := by decide +kernel
theorem dxQ_attempt_6 : decode cxQ_attempt 6 = .ok (.getfield 44, 3) := by decide +kernel
theorem dxQ_attempt_9 : decode cxQ_attempt 9 = .ok (.iload_n 2, 1) := by decide +kernel
theorem dxQ_attempt_10 : decode cxQ_attempt 10 = .ok (.iaload, 1) := by decide +kernel
theorem dxQ_attempt_11 : decode cxQ_attempt 11 = .ok (.invokevirtual 194, 3) := by decide +kernel
theorem dxQ_attempt_14 : decode cxQ_attempt 14 = .ok (.pop, 1) := by decide +kernel
theorem dxQ_attempt_15 : decode cxQ_attempt 15 = .ok (.goto 114, 3) := by decide +kernel
theorem dxQ_attempt_18 : decode cxQ_attempt 18 = .ok (.iload_n 3, 1) := by decide +kernel
theorem dxQ_attempt_19 : decode cxQ_attempt 19 = .ok (.iconst 1, 1) := by decide +kernel
theorem dxQ_attempt_20 : decode cxQ_attempt 20 = .ok (.if_icmp .ne 82, 3) := by decide +kernel
theorem dxQ_attempt_23 : decode cxQ_attempt 23 = .ok (.aload_n 0, 1) := by decide +kernel
theorem dxQ_attempt_24 : decode cxQ_attempt 24 = .ok (.getfield 148, 3) := by decide +kernel
theorem dxQ_attempt_27 : decode cxQ_attempt 27 = .ok (.iconst 3, 1) := by decide +kernel
theorem dxQ_attempt_28 : decode cxQ_attempt 28 = .ok (.if_icmp .ne 74, 3) := by decide +kernel
theorem dxQ_attempt_31 : decode cxQ_attempt 31 = .ok (.aload_n 0, 1) := by decide +kernel
theorem dxQ_attempt_32 : decode cxQ_attempt 32 = .ok (.aload_n 0, 1) := by decide +kernel
theorem dxQ_attempt_33 : decode cxQ_attempt 33 = .ok (.getfield 62, 3) := by decide +kernel
theorem dxQ_attempt_36 : decode cxQ_attempt 36 = .ok (.aload_n 0, 1) := by decide +kernel
theorem dxQ_attempt_37 : decode cxQ_attempt 37 = .ok (.getfield 151, 3) := by decide +kernel
theorem dxQ_attempt_40 : decode cxQ_attempt 40 = .ok (.iaload, 1) := by decide +kernel
theorem dxQ_attempt_41 : decode cxQ_attempt 41 = .ok (.aload_n 0, 1) := by decide +kernel
theorem dxQ_attempt_42 : decode cxQ_attempt 42 = .ok (.getfield 47, 3) := by decide +kernel
theorem dxQ_attempt_45 : decode cxQ_attempt 45 = .ok (.iload_n 2, 1) := by decide +kernel
theorem dxQ_attempt_46 : decode cxQ_attempt 46 = .ok (.iaload, 1) := by decide +kernel
theorem dxQ_attempt_47 : decode cxQ_attempt 47 = .ok (.invokevirtual 178, 3) := by decide +kernel
theorem dxQ_attempt_50 : decode cxQ_attempt 50 = .ok (.ifCond .eq 52, 3) := by decide +kernel
theorem dxQ_attempt_53 : decode cxQ_attempt 53 = .ok (.aload_n 0, 1) := by decide +kernel
theorem dxQ_attempt_54 : decode cxQ_attempt 54 = .ok (.getfield 151, 3) := by decide +kernel
theorem dxQ_attempt_57 : decode cxQ_attempt 57 = .ok (.istore 4, 2) := by decide +kernel
theorem dxQ_attempt_59 : decode cxQ_attempt 59 = .ok (.aload_n 0, 1) := by decide +kernel
theorem dxQ_attempt_60 : decode cxQ_attempt 60 = .ok (.aload_n 0, 1) := by decide +kernel
theorem dxQ_attempt_61 : decode cxQ_attempt 61 = .ok (.getfield 50, 3) := by decide +kernel
theorem dxQ_attempt_64 : decode cxQ_attempt 64 = .ok (.iload_n 2, 1) := by decide +kernel
theorem dxQ_attempt_65 : decode cxQ_attempt 65 = .ok (.iaload, 1) := by decide +kernel
theorem dxQ_attempt_66 : decode cxQ_attempt 66 = .ok (.invokevirtual 194, 3) := by decide +kernel
theorem dxQ_attempt_69 : decode cxQ_attempt 69 = .ok (.ifCond .ne 4, 3) := by decide +kernel
theorem dxQ_attempt_72 : decode cxQ_attempt 72 = .ok (.return_, 1) := by decide +kernel
theorem dxQ_attempt_73 : decode cxQ_attempt 73 = .ok (.aload_n 0, 1) := by decide +kernel
theorem dxQ_attempt_74 : decode cxQ_attempt 74 = .ok (.dup, 1) := by decide +kernel
theorem dxQ_attempt_75 : decode cxQ_attempt 75 = .ok (.getfield 221, 3) := by decide +kernel
theorem dxQ_attempt_78 : decode cxQ_attempt 78 = .ok (.iconst 1, 1) := by decide +kernel
theorem dxQ_attempt_79 : decode cxQ_attempt 79 = .ok (.iadd, 1) := by decide +kernel
theorem dxQ_attempt_80 : decode cxQ_attempt 80 = .ok (.putfield 221, 3) := by decide +kernel
theorem dxQ_attempt_83 : decode cxQ_attempt 83 = .ok (.aload_n 0, 1) := by decide +kernel
theorem dxQ_attempt_84 : decode cxQ_attempt 84 = .ok (.getfield 104, 3) := by decide +kernel
theorem dxQ_attempt_87 : decode cxQ_attempt 87 = .ok (.iload_n 1, 1) := by decide +kernel
theorem dxQ_attempt_88 : decode cxQ_attempt 88 = .ok (.aload_n 0, 1) := by decide +kernel
theorem dxQ_attempt_89 : decode cxQ_attempt 89 = .ok (.getfield 172, 3) := by decide +kernel
theorem dxQ_attempt_92 : decode cxQ_attempt 92 = .ok (.iastore, 1) := by decide +kernel
theorem dxQ_attempt_93 : decode cxQ_attempt 93 = .ok (.aload_n 0, 1) := by decide +kernel
theorem dxQ_attempt_94 : decode cxQ_attempt 94 = .ok (.iload 4, 2) := by decide +kernel
theorem dxQ_attempt_96 : decode cxQ_attempt 96 = .ok (.putfield 172, 3) := by decide +kernel
theorem dxQ_attempt_99 : decode cxQ_attempt 99 = .ok (.goto 30, 3) := by decide +kernel
theorem dxQ_attempt_102 : decode cxQ_attempt 102 = .ok (.iload_n 3, 1) := by decide +kernel
theorem dxQ_attempt_103 : decode cxQ_attempt 103 = .ok (.iconst 2, 1) := by decide +kernel
theorem dxQ_attempt_104 : decode cxQ_attempt 104 = .ok (.if_icmp .ne 13, 3) := by decide +kernel
theorem dxQ_attempt_107 : decode cxQ_attempt 107 = .ok (.aload_n 0, 1) := by decide +kernel
theorem dxQ_attempt_108 : decode cxQ_attempt 108 = .ok (.aload_n 0, 1) := by decide +kernel
theorem dxQ_attempt_109 : decode cxQ_attempt 109 = .ok (.getfield 104, 3) := by decide +kernel
theorem dxQ_attempt_112 : decode cxQ_attempt 112 = .ok (.iload_n 1, 1) := by decide +kernel
theorem dxQ_attempt_113 : decode cxQ_attempt 113 = .ok (.iaload, 1) := by decide +kernel
theorem dxQ_attempt_114 : decode cxQ_attempt 114 = .ok (.putfield 172, 3) := by decide +kernel
theorem dxQ_attempt_117 : decode cxQ_attempt 117 = .ok (.aload_n 0, 1) := by decide +kernel
theorem dxQ_attempt_118 : decode cxQ_attempt 118 = .ok (.aload_n 0, 1) := by decide +kernel
theorem dxQ_attempt_119 : decode cxQ_attempt 119 = .ok (.getfield 148, 3) := by decide +kernel
theorem dxQ_attempt_122 : decode cxQ_attempt 122 = .ok (.aload_n 0, 1) := by decide +kernel
theorem dxQ_attempt_123 : decode cxQ_attempt 123 = .ok (.getfield 151, 3) := by decide +kernel
theorem dxQ_attempt_126 : decode cxQ_attempt 126 = .ok (.invokevirtual 157, 3) := by decide +kernel
theorem dxQ_attempt_129 : decode cxQ_attempt 129 = .ok (.return_, 1) := by decide +kernel
theorem dxQ_lock_0 : decode cxQ_lock 0 = .ok (.iload_n 2, 1) := by decide +kernel
theorem dxQ_lock_1 : decode cxQ_lock 1 = .ok (.ifCond .ne 32, 3) := by decide +kernel
theorem dxQ_lock_4 : decode cxQ_lock 4 = .ok (.aload_n 0, 1) := by decide +kernel
theorem dxQ_lock_5 : decode cxQ_lock 5 = .ok (.getfield 77, 3) := by decide +kernel
theorem dxQ_lock_8 : decode cxQ_lock 8 = .ok (.aload_n 0, 1) := by decide +kernel
theorem dxQ_lock_9 : decode cxQ_lock 9 = .ok (.getfield 44, 3) := by decide +kernel
theorem dxQ_lock_12 : decode cxQ_lock 12 = .ok (.iload_n 1, 1) := by decide +kernel
theorem dxQ_lock_13 : decode cxQ_lock 13 = .ok (.iaload, 1) := by decide +kernel
theorem dxQ_lock_14 : decode cxQ_lock 14 = .ok (.dup2, 1) := by decide +kernel
theorem dxQ_lock_15 : decode cxQ_lock 15 = .ok (.iaload, 1) := by decide +kernel
theorem dxQ_lock_16 : decode cxQ_lock 16 = .ok (.iconst 1, 1) := by decide +kernel
theorem dxQ_lock_17 : decode cxQ_lock 17 = .ok (.iadd, 1) := by decide +kernel
theorem dxQ_lock_18 : decode cxQ_lock 18 = .ok (.iastore, 1) := by decide +kernel
theorem dxQ_lock_19 : decode cxQ_lock 19 = .ok (.aload_n 0, 1) := by decide +kernel
theorem dxQ_lock_20 : decode cxQ_lock 20 = .ok (.aload_n 0, 1) := by decide +kernel
theorem dxQ_lock_21 : decode cxQ_lock 21 = .ok (.getfield 47, 3) := by decide +kernel
theorem dxQ_lock_24 : decode cxQ_lock 24 = .ok (.iload_n 1, 1) := by decide +kernel
theorem dxQ_lock_25 : decode cxQ_lock 25 = .ok (.iaload, 1) := by decide +kernel
theorem dxQ_lock_26 : decode cxQ_lock 26 = .ok (.invokevirtual 194, 3) := by decide +kernel
theorem dxQ_lock_29 : decode cxQ_lock 29 = .ok (.pop, 1) := by decide +kernel
theorem dxQ_lock_30 : decode cxQ_lock 30 = .ok (.goto 30, 3) := by decide +kernel
theorem dxQ_lock_33 : decode cxQ_lock 33 = .ok (.aload_n 0, 1) := by decide +kernel
theorem dxQ_lock_34 : decode cxQ_lock 34 = .ok (.getfield 77, 3) := by decide +kernel
theorem dxQ_lock_37 : decode cxQ_lock 37 = .ok (.aload_n 0, 1) := by decide +kernel
theorem dxQ_lock_38 : decode cxQ_lock 38 = .ok (.getfield 44, 3) := by decide +kernel
theorem dxQ_lock_41 : decode cxQ_lock 41 = .ok (.iload_n 1, 1) := by decide +kernel
theorem dxQ_lock_42 : decode cxQ_lock 42 = .ok (.iaload, 1) := by decide +kernel
theorem dxQ_lock_43 : decode cxQ_lock 43 = .ok (.dup2, 1) := by decide +kernel
theorem dxQ_lock_44 : decode cxQ_lock 44 = .ok (.iaload, 1) := by decide +kernel
theorem dxQ_lock_45 : decode cxQ_lock 45 = .ok (.iconst 1, 1) := by decide +kernel
theorem dxQ_lock_46 : decode cxQ_lock 46 = .ok (.isub, 1) := by decide +kernel
theorem dxQ_lock_47 : decode cxQ_lock 47 = .ok (.iastore, 1) := by decide +kernel
theorem dxQ_lock_48 : decode cxQ_lock 48 = .ok (.aload_n 0, 1) := by decide +kernel
theorem dxQ_lock_49 : decode cxQ_lock 49 = .ok (.aload_n 0, 1) := by decide +kernel
theorem dxQ_lock_50 : decode cxQ_lock 50 = .ok (.getfield 148, 3) := by decide +kernel
theorem dxQ_lock_53 : decode cxQ_lock 53 = .ok (.aload_n 0, 1) := by decide +kernel
theorem dxQ_lock_54 : decode cxQ_lock 54 = .ok (.getfield 151, 3) := by decide +kernel
theorem dxQ_lock_57 : decode cxQ_lock 57 = .ok (.invokevirtual 157, 3) := by decide +kernel
theorem dxQ_lock_60 : decode cxQ_lock 60 = .ok (.return_, 1) := by decide +kernel
theorem dxQ_atLast_0 : decode cxQ_atLast 0 = .ok (.iload_n 3, 1) := by decide +kernel
theorem dxQ_atLast_1 : decode cxQ_atLast 1 = .ok (.ifCond .ne 15, 3) := by decide +kernel
theorem dxQ_atLast_4 : decode cxQ_atLast 4 = .ok (.aload_n 0, 1) := by decide +kernel
theorem dxQ_atLast_5 : decode cxQ_atLast 5 = .ok (.aload_n 0, 1) := by decide +kernel
theorem dxQ_atLast_6 : decode cxQ_atLast 6 = .ok (.getfield 44, 3) := by decide +kernel
theorem dxQ_atLast_9 : decode cxQ_atLast 9 = .ok (.iload_n 2, 1) := by decide +kernel
theorem dxQ_atLast_10 : decode cxQ_atLast 10 = .ok (.iaload, 1) := by decide +kernel
theorem dxQ_atLast_11 : decode cxQ_atLast 11 = .ok (.invokevirtual 194, 3) := by decide +kernel
theorem dxQ_atLast_14 : decode cxQ_atLast 14 = .ok (.pop, 1) := by decide +kernel
theorem dxQ_atLast_15 : decode cxQ_atLast 15 = .ok (.return_, 1) := by decide +kernel
theorem dxQ_atLast_16 : decode cxQ_atLast 16 = .ok (.iload_n 3, 1) := by decide +kernel
theorem dxQ_atLast_17 : decode cxQ_atLast 17 = .ok (.iconst 1, 1) := by decide +kernel
theorem dxQ_atLast_18 : decode cxQ_atLast 18 = .ok (.if_icmp .ne 47, 3) := by decide +kernel
theorem dxQ_atLast_21 : decode cxQ_atLast 21 = .ok (.aload_n 0, 1) := by decide +kernel
theorem dxQ_atLast_22 : decode cxQ_atLast 22 = .ok (.getfield 98, 3) := by decide +kernel
theorem dxQ_atLast_25 : decode cxQ_atLast 25 = .ok (.iload_n 1, 1) := by decide +kernel
theorem dxQ_atLast_26 : decode cxQ_atLast 26 = .ok (.aload_n 0, 1) := by decide +kernel
theorem dxQ_atLast_27 : decode cxQ_atLast 27 = .ok (.getfield 148, 3) := by decide +kernel
theorem dxQ_atLast_30 : decode cxQ_atLast 30 = .ok (.iastore, 1) := by decide +kernel
theorem dxQ_atLast_31 : decode cxQ_atLast 31 = .ok (.aload_n 0, 1) := by decide +kernel
theorem dxQ_atLast_32 : decode cxQ_atLast 32 = .ok (.getfield 101, 3) := by decide +kernel
theorem dxQ_atLast_35 : decode cxQ_atLast 35 = .ok (.iload_n 1, 1) := by decide +kernel
theorem dxQ_atLast_36 : decode cxQ_atLast 36 = .ok (.aload_n 0, 1) := by decide +kernel
theorem dxQ_atLast_37 : decode cxQ_atLast 37 = .ok (.getfield 151, 3) := by decide +kernel
theorem dxQ_atLast_40 : decode cxQ_atLast 40 = .ok (.iastore, 1) := by decide +kernel
theorem dxQ_atLast_41 : decode cxQ_atLast 41 = .ok (.aload_n 0, 1) := by decide +kernel
theorem dxQ_atLast_42 : decode cxQ_atLast 42 = .ok (.aload_n 0, 1) := by decide +kernel
theorem dxQ_atLast_43 : decode cxQ_atLast 43 = .ok (.getfield 47, 3) := by decide +kernel
theorem dxQ_atLast_46 : decode cxQ_atLast 46 = .ok (.iload_n 2, 1) := by decide +kernel
theorem dxQ_atLast_47 : decode cxQ_atLast 47 = .ok (.iaload, 1) := by decide +kernel
theorem dxQ_atLast_48 : decode cxQ_atLast 48 = .ok (.invokevirtual 194, 3) := by decide +kernel
theorem dxQ_atLast_51 : decode cxQ_atLast 51 = .ok (.ifCond .eq 13, 3) := by decide +kernel
theorem dxQ_atLast_54 : decode cxQ_atLast 54 = .ok (.aload_n 0, 1) := by decide +kernel
theorem dxQ_atLast_55 : decode cxQ_atLast 55 = .ok (.dup, 1) := by decide +kernel
theorem dxQ_atLast_56 : decode cxQ_atLast 56 = .ok (.getfield 224, 3) := by decide +kernel
theorem dxQ_atLast_59 : decode cxQ_atLast 59 = .ok (.iconst 1, 1) := by decide +kernel
theorem dxQ_atLast_60 : decode cxQ_atLast 60 = .ok (.iadd, 1) := by decide +kernel
theorem dxQ_atLast_61 : decode cxQ_atLast 61 = .ok (.putfield 224, 3) := by decide +kernel
theorem dxQ_atLast_64 : decode cxQ_atLast 64 = .ok (.return_, 1) := by decide +kernel
theorem dxQ_atLast_65 : decode cxQ_atLast 65 = .ok (.aload_n 0, 1) := by decide +kernel
theorem dxQ_atLast_66 : decode cxQ_atLast 66 = .ok (.getfield 41, 3) := by decide +kernel
theorem dxQ_atLast_69 : decode cxQ_atLast 69 = .ok (.iload_n 2, 1) := by decide +kernel
theorem dxQ_atLast_70 : decode cxQ_atLast 70 = .ok (.iaload, 1) := by decide +kernel
theorem dxQ_atLast_71 : decode cxQ_atLast 71 = .ok (.bipush 15, 2) := by decide +kernel
theorem dxQ_atLast_73 : decode cxQ_atLast 73 = .ok (.if_icmp .ne 17, 3) := by decide +kernel
theorem dxQ_atLast_76 : decode cxQ_atLast 76 = .ok (.aload_n 0, 1) := by decide +kernel
theorem dxQ_atLast_77 : decode cxQ_atLast 77 = .ok (.getfield 98, 3) := by decide +kernel
theorem dxQ_atLast_80 : decode cxQ_atLast 80 = .ok (.iload_n 1, 1) := by decide +kernel
theorem dxQ_atLast_81 : decode cxQ_atLast 81 = .ok (.iaload, 1) := by decide +kernel
theorem dxQ_atLast_82 : decode cxQ_atLast 82 = .ok (.iconst 3, 1) := by decide +kernel
theorem dxQ_atLast_83 : decode cxQ_atLast 83 = .ok (.if_icmp .ne 7, 3) := by decide +kernel
theorem dxQ_atLast_86 : decode cxQ_atLast 86 = .ok (.iconst 1, 1) := by decide +kernel
theorem dxQ_atLast_87 : decode cxQ_atLast 87 = .ok (.goto 4, 3) := by decide +kernel
theorem dxQ_atLast_90 : decode cxQ_atLast 90 = .ok (.iconst 0, 1) := by decide +kernel
theorem dxQ_atLast_91 : decode cxQ_atLast 91 = .ok (.istore 4, 2) := by decide +kernel
theorem dxQ_atLast_93 : decode cxQ_atLast 93 = .ok (.iload 4, 2) := by decide +kernel
theorem dxQ_atLast_95 : decode cxQ_atLast 95 = .ok (.ifCond .eq 26, 3) := by decide +kernel
theorem dxQ_atLast_98 : decode cxQ_atLast 98 = .ok (.aload_n 0, 1) := by decide +kernel
theorem dxQ_atLast_99 : decode cxQ_atLast 99 = .ok (.getfield 148, 3) := by decide +kernel
theorem dxQ_atLast_102 : decode cxQ_atLast 102 = .ok (.iconst 3, 1) := by decide +kernel
theorem dxQ_atLast_103 : decode cxQ_atLast 103 = .ok (.if_icmp .ne 18, 3) := by decide +kernel
theorem dxQ_atLast_106 : decode cxQ_atLast 106 = .ok (.aload_n 0, 1) := by decide +kernel
theorem dxQ_atLast_107 : decode cxQ_atLast 107 = .ok (.getfield 71, 3) := by decide +kernel
theorem dxQ_atLast_110 : decode cxQ_atLast 110 = .ok (.aload_n 0, 1) := by decide +kernel
theorem dxQ_atLast_111 : decode cxQ_atLast 111 = .ok (.getfield 101, 3) := by decide +kernel
theorem dxQ_atLast_114 : decode cxQ_atLast 114 = .ok (.iload_n 1, 1) := by decide +kernel
theorem dxQ_atLast_115 : decode cxQ_atLast 115 = .ok (.iaload, 1) := by decide +kernel
theorem dxQ_atLast_116 : decode cxQ_atLast 116 = .ok (.dup2, 1) := by decide +kernel
theorem dxQ_atLast_117 : decode cxQ_atLast 117 = .ok (.iaload, 1) := by decide +kernel
theorem dxQ_atLast_118 : decode cxQ_atLast 118 = .ok (.iconst 1, 1) := by decide +kernel
theorem dxQ_atLast_119 : decode cxQ_atLast 119 = .ok (.iadd, 1) := by decide +kernel
theorem dxQ_atLast_120 : decode cxQ_atLast 120 = .ok (.iastore, 1) := by decide +kernel
theorem dxQ_atLast_121 : decode cxQ_atLast 121 = .ok (.iload 4, 2) := by decide +kernel
theorem dxQ_atLast_123 : decode cxQ_atLast 123 = .ok (.ifCond .ne 10, 3) := by decide +kernel
theorem dxQ_atLast_126 : decode cxQ_atLast 126 = .ok (.aload_n 0, 1) := by decide +kernel
theorem dxQ_atLast_127 : decode cxQ_atLast 127 = .ok (.getfield 148, 3) := by decide +kernel
theorem dxQ_atLast_130 : decode cxQ_atLast 130 = .ok (.ifCond .ne 22, 3) := by decide +kernel
theorem dxQ_atLast_133 : decode cxQ_atLast 133 = .ok (.aload_n 0, 1) := by decide +kernel
theorem dxQ_atLast_134 : decode cxQ_atLast 134 = .ok (.aload_n 0, 1) := by decide +kernel
theorem dxQ_atLast_135 : decode cxQ_atLast 135 = .ok (.getfield 98, 3) := by decide +kernel
theorem dxQ_atLast_138 : decode cxQ_atLast 138 = .ok (.iload_n 1, 1) := by decide +kernel
theorem dxQ_atLast_139 : decode cxQ_atLast 139 = .ok (.iaload, 1) := by decide +kernel
theorem dxQ_atLast_140 : decode cxQ_atLast 140 = .ok (.aload_n 0, 1) := by decide +kernel
theorem dxQ_atLast_141 : decode cxQ_atLast 141 = .ok (.getfield 101, 3) := by decide +kernel
theorem dxQ_atLast_144 : decode cxQ_atLast 144 = .ok (.iload_n 1, 1) := by decide +kernel
theorem dxQ_atLast_145 : decode cxQ_atLast 145 = .ok (.iaload, 1) := by decide +kernel
theorem dxQ_atLast_146 : decode cxQ_atLast 146 = .ok (.invokevirtual 157, 3) := by decide +kernel
theorem dxQ_atLast_149 : decode cxQ_atLast 149 = .ok (.goto 15, 3) := by decide +kernel
theorem dxQ_atLast_152 : decode cxQ_atLast 152 = .ok (.aload_n 0, 1) := by decide +kernel
theorem dxQ_atLast_153 : decode cxQ_atLast 153 = .ok (.aload_n 0, 1) := by decide +kernel
theorem dxQ_atLast_154 : decode cxQ_atLast 154 = .ok (.getfield 148, 3) := by decide +kernel
theorem dxQ_atLast_157 : decode cxQ_atLast 157 = .ok (.aload_n 0, 1) := by decide +kernel
theorem dxQ_atLast_158 : decode cxQ_atLast 158 = .ok (.getfield 151, 3) := by decide +kernel
theorem dxQ_atLast_161 : decode cxQ_atLast 161 = .ok (.invokevirtual 157, 3) := by decide +kernel
theorem dxQ_atLast_164 : decode cxQ_atLast 164 = .ok (.return_, 1) := by decide +kernel
theorem dxQ_complete_0 : decode cxQ_complete 0 = .ok (.aload_n 0, 1) := by decide +kernel
theorem dxQ_complete_1 : decode cxQ_complete 1 = .ok (.iconst 0, 1) := by decide +kernel
theorem dxQ_complete_2 : decode cxQ_complete 2 = .ok (.putfield 145, 3) := by decide +kernel
theorem dxQ_complete_5 : decode cxQ_complete 5 = .ok (.aload_n 0, 1) := by decide +kernel
theorem dxQ_complete_6 : decode cxQ_complete 6 = .ok (.iconst 1, 1) := by decide +kernel
theorem dxQ_complete_7 : decode cxQ_complete 7 = .ok (.putfield 215, 3) := by decide +kernel
theorem dxQ_complete_10 : decode cxQ_complete 10 = .ok (.aload_n 0, 1) := by decide +kernel
theorem dxQ_complete_11 : decode cxQ_complete 11 = .ok (.getfield 218, 3) := by decide +kernel
theorem dxQ_complete_14 : decode cxQ_complete 14 = .ok (.iconst 1, 1) := by decide +kernel
theorem dxQ_complete_15 : decode cxQ_complete 15 = .ok (.if_icmp .ge 8, 3) := by decide +kernel
theorem dxQ_complete_18 : decode cxQ_complete 18 = .ok (.aload_n 0, 1) := by decide +kernel
theorem dxQ_complete_19 : decode cxQ_complete 19 = .ok (.iconst 1, 1) := by decide +kernel
theorem dxQ_complete_20 : decode cxQ_complete 20 = .ok (.putfield 218, 3) := by decide +kernel
theorem dxQ_complete_23 : decode cxQ_complete 23 = .ok (.aload_n 0, 1) := by decide +kernel
theorem dxQ_complete_24 : decode cxQ_complete 24 = .ok (.iload_n 2, 1) := by decide +kernel
theorem dxQ_complete_25 : decode cxQ_complete 25 = .ok (.putfield 172, 3) := by decide +kernel
theorem dxQ_complete_28 : decode cxQ_complete 28 = .ok (.aload_n 0, 1) := by decide +kernel
theorem dxQ_complete_29 : decode cxQ_complete 29 = .ok (.iload_n 1, 1) := by decide +kernel
theorem dxQ_complete_30 : decode cxQ_complete 30 = .ok (.invokevirtual 194, 3) := by decide +kernel
theorem dxQ_complete_33 : decode cxQ_complete 33 = .ok (.pop, 1) := by decide +kernel
theorem dxQ_complete_34 : decode cxQ_complete 34 = .ok (.aload_n 0, 1) := by decide +kernel
theorem dxQ_complete_35 : decode cxQ_complete 35 = .ok (.getfield 141, 3) := by decide +kernel
theorem dxQ_complete_38 : decode cxQ_complete 38 = .ok (.ifCond .ne 17, 3) := by decide +kernel
theorem dxQ_complete_41 : decode cxQ_complete 41 = .ok (.aload_n 0, 1) := by decide +kernel
theorem dxQ_complete_42 : decode cxQ_complete 42 = .ok (.getfield 145, 3) := by decide +kernel
theorem dxQ_complete_45 : decode cxQ_complete 45 = .ok (.ifCond .le 10, 3) := by decide +kernel
theorem dxQ_complete_48 : decode cxQ_complete 48 = .ok (.aload_n 0, 1) := by decide +kernel
theorem dxQ_complete_49 : decode cxQ_complete 49 = .ok (.invokevirtual 227, 3) := by decide +kernel
theorem dxQ_complete_52 : decode cxQ_complete 52 = .ok (.goto (-18), 3) := by decide +kernel
theorem dxQ_complete_55 : decode cxQ_complete 55 = .ok (.aload_n 0, 1) := by decide +kernel
theorem dxQ_complete_56 : decode cxQ_complete 56 = .ok (.getfield 141, 3) := by decide +kernel
theorem dxQ_complete_59 : decode cxQ_complete 59 = .ok (.ifCond .ne 7, 3) := by decide +kernel
theorem dxQ_complete_62 : decode cxQ_complete 62 = .ok (.iconst 1, 1) := by decide +kernel
theorem dxQ_complete_63 : decode cxQ_complete 63 = .ok (.goto 4, 3) := by decide +kernel
theorem dxQ_complete_66 : decode cxQ_complete 66 = .ok (.iconst 0, 1) := by decide +kernel
theorem dxQ_complete_67 : decode cxQ_complete 67 = .ok (.ireturn, 1) := by decide +kernel
theorem dxQ_run_0 : decode cxQ_run 0 = .ok (.iload_n 1, 1) := by decide +kernel
theorem dxQ_run_1 : decode cxQ_run 1 = .ok (.iconst 0, 1) := by decide +kernel
theorem dxQ_run_2 : decode cxQ_run 2 = .ok (.iconst 5, 1) := by decide +kernel
theorem dxQ_run_3 : decode cxQ_run 3 = .ok (.invokestatic 113, 3) := by decide +kernel
theorem dxQ_run_6 : decode cxQ_run 6 = .ok (.ifCond .ne 12, 3) := by decide +kernel
theorem dxQ_run_9 : decode cxQ_run 9 = .ok (.aload_n 0, 1) := by decide +kernel
theorem dxQ_run_10 : decode cxQ_run 10 = .ok (.getfield 56, 3) := by decide +kernel
theorem dxQ_run_13 : decode cxQ_run 13 = .ok (.iload_n 1, 1) := by decide +kernel
theorem dxQ_run_14 : decode cxQ_run 14 = .ok (.iaload, 1) := by decide +kernel
theorem dxQ_run_15 : decode cxQ_run 15 = .ok (.ifCond .ge 5, 3) := by decide +kernel
theorem dxQ_run_18 : decode cxQ_run 18 = .ok (.iconst (-1), 1) := by decide +kernel
theorem dxQ_run_19 : decode cxQ_run 19 = .ok (.ireturn, 1) := by decide +kernel
theorem dxQ_run_20 : decode cxQ_run 20 = .ok (.aload_n 0, 1) := by decide +kernel
theorem dxQ_run_21 : decode cxQ_run 21 = .ok (.iconst 1, 1) := by decide +kernel
theorem dxQ_run_22 : decode cxQ_run 22 = .ok (.putfield 230, 3) := by decide +kernel
theorem dxQ_run_25 : decode cxQ_run 25 = .ok (.aload_n 0, 1) := by decide +kernel
theorem dxQ_run_26 : decode cxQ_run 26 = .ok (.iconst 0, 1) := by decide +kernel
theorem dxQ_run_27 : decode cxQ_run 27 = .ok (.putfield 141, 3) := by decide +kernel
theorem dxQ_run_30 : decode cxQ_run 30 = .ok (.aload_n 0, 1) := by decide +kernel
theorem dxQ_run_31 : decode cxQ_run 31 = .ok (.aload_n 0, 1) := by decide +kernel
theorem dxQ_run_32 : decode cxQ_run 32 = .ok (.aload_n 0, 1) := by decide +kernel
theorem dxQ_run_33 : decode cxQ_run 33 = .ok (.aload_n 0, 1) := by decide +kernel
theorem dxQ_run_34 : decode cxQ_run 34 = .ok (.aload_n 0, 1) := by decide +kernel
theorem dxQ_run_35 : decode cxQ_run 35 = .ok (.aload_n 0, 1) := by decide +kernel
theorem dxQ_run_36 : decode cxQ_run 36 = .ok (.iconst 0, 1) := by decide +kernel
theorem dxQ_run_37 : decode cxQ_run 37 = .ok (.dup_x1, 1) := by decide +kernel
theorem dxQ_run_38 : decode cxQ_run 38 = .ok (.putfield 154, 3) := by decide +kernel
theorem dxQ_run_41 : decode cxQ_run 41 = .ok (.dup_x1, 1) := by decide +kernel
theorem dxQ_run_42 : decode cxQ_run 42 = .ok (.putfield 161, 3) := by decide +kernel
theorem dxQ_run_45 : decode cxQ_run 45 = .ok (.dup_x1, 1) := by decide +kernel
theorem dxQ_run_46 : decode cxQ_run 46 = .ok (.putfield 218, 3) := by decide +kernel
theorem dxQ_run_49 : decode cxQ_run 49 = .ok (.dup_x1, 1) := by decide +kernel
theorem dxQ_run_50 : decode cxQ_run 50 = .ok (.putfield 224, 3) := by decide +kernel
theorem dxQ_run_53 : decode cxQ_run 53 = .ok (.dup_x1, 1) := by decide +kernel
theorem dxQ_run_54 : decode cxQ_run 54 = .ok (.putfield 221, 3) := by decide +kernel
theorem dxQ_run_57 : decode cxQ_run 57 = .ok (.putfield 135, 3) := by decide +kernel
theorem dxQ_run_60 : decode cxQ_run 60 = .ok (.aload_n 0, 1) := by decide +kernel
theorem dxQ_run_61 : decode cxQ_run 61 = .ok (.getfield 74, 3) := by decide +kernel
theorem dxQ_run_64 : decode cxQ_run 64 = .ok (.iconst 0, 1) := by decide +kernel
theorem dxQ_run_65 : decode cxQ_run 65 = .ok (.iload_n 2, 1) := by decide +kernel
theorem dxQ_run_66 : decode cxQ_run 66 = .ok (.iastore, 1) := by decide +kernel
theorem dxQ_run_67 : decode cxQ_run 67 = .ok (.aload_n 0, 1) := by decide +kernel
theorem dxQ_run_68 : decode cxQ_run 68 = .ok (.getfield 74, 3) := by decide +kernel
theorem dxQ_run_71 : decode cxQ_run 71 = .ok (.iconst 1, 1) := by decide +kernel
theorem dxQ_run_72 : decode cxQ_run 72 = .ok (.iload_n 3, 1) := by decide +kernel
theorem dxQ_run_73 : decode cxQ_run 73 = .ok (.iastore, 1) := by decide +kernel
theorem dxQ_run_74 : decode cxQ_run 74 = .ok (.aload_n 0, 1) := by decide +kernel
theorem dxQ_run_75 : decode cxQ_run 75 = .ok (.getfield 74, 3) := by decide +kernel
theorem dxQ_run_78 : decode cxQ_run 78 = .ok (.iconst 2, 1) := by decide +kernel
theorem dxQ_run_79 : decode cxQ_run 79 = .ok (.aload_n 0, 1) := by decide +kernel
theorem dxQ_run_80 : decode cxQ_run 80 = .ok (.getfield 74, 3) := by decide +kernel
theorem dxQ_run_83 : decode cxQ_run 83 = .ok (.iconst 3, 1) := by decide +kernel
theorem dxQ_run_84 : decode cxQ_run 84 = .ok (.aload_n 0, 1) := by decide +kernel
theorem dxQ_run_85 : decode cxQ_run 85 = .ok (.getfield 77, 3) := by decide +kernel
theorem dxQ_run_88 : decode cxQ_run 88 = .ok (.iconst 0, 1) := by decide +kernel
theorem dxQ_run_89 : decode cxQ_run 89 = .ok (.aload_n 0, 1) := by decide +kernel
theorem dxQ_run_90 : decode cxQ_run 90 = .ok (.getfield 77, 3) := by decide +kernel
theorem dxQ_run_93 : decode cxQ_run 93 = .ok (.iconst 1, 1) := by decide +kernel
theorem dxQ_run_94 : decode cxQ_run 94 = .ok (.iconst 0, 1) := by decide +kernel
theorem dxQ_run_95 : decode cxQ_run 95 = .ok (.dup_x2, 1) := by decide +kernel
theorem dxQ_run_96 : decode cxQ_run 96 = .ok (.iastore, 1) := by decide +kernel
theorem dxQ_run_97 : decode cxQ_run 97 = .ok (.dup_x2, 1) := by decide +kernel
theorem dxQ_run_98 : decode cxQ_run 98 = .ok (.iastore, 1) := by decide +kernel
theorem dxQ_run_99 : decode cxQ_run 99 = .ok (.dup_x2, 1) := by decide +kernel
theorem dxQ_run_100 : decode cxQ_run 100 = .ok (.iastore, 1) := by decide +kernel
theorem dxQ_run_101 : decode cxQ_run 101 = .ok (.iastore, 1) := by decide +kernel
theorem dxQ_run_102 : decode cxQ_run 102 = .ok (.aload_n 0, 1) := by decide +kernel
theorem dxQ_run_103 : decode cxQ_run 103 = .ok (.aload_n 0, 1) := by decide +kernel
theorem dxQ_run_104 : decode cxQ_run 104 = .ok (.iconst (-1), 1) := by decide +kernel
theorem dxQ_run_105 : decode cxQ_run 105 = .ok (.dup_x1, 1) := by decide +kernel
theorem dxQ_run_106 : decode cxQ_run 106 = .ok (.putfield 86, 3) := by decide +kernel
theorem dxQ_run_109 : decode cxQ_run 109 = .ok (.putfield 83, 3) := by decide +kernel
theorem dxQ_run_112 : decode cxQ_run 112 = .ok (.aload_n 0, 1) := by decide +kernel
theorem dxQ_run_113 : decode cxQ_run 113 = .ok (.iconst 0, 1) := by decide +kernel
theorem dxQ_run_114 : decode cxQ_run 114 = .ok (.putfield 233, 3) := by decide +kernel
theorem dxQ_run_117 : decode cxQ_run 117 = .ok (.aload_n 0, 1) := by decide +kernel
theorem dxQ_run_118 : decode cxQ_run 118 = .ok (.aload_n 0, 1) := by decide +kernel
theorem dxQ_run_119 : decode cxQ_run 119 = .ok (.getfield 56, 3) := by decide +kernel
theorem dxQ_run_122 : decode cxQ_run 122 = .ok (.iload_n 1, 1) := by decide +kernel
theorem dxQ_run_123 : decode cxQ_run 123 = .ok (.iaload, 1) := by decide +kernel
theorem dxQ_run_124 : decode cxQ_run 124 = .ok (.iconst (-1), 1) := by decide +kernel
theorem dxQ_run_125 : decode cxQ_run 125 = .ok (.invokevirtual 236, 3) := by decide +kernel
theorem dxQ_run_128 : decode cxQ_run 128 = .ok (.ifCond .eq 7, 3) := by decide +kernel
theorem dxQ_run_131 : decode cxQ_run 131 = .ok (.aload_n 0, 1) := by decide +kernel
theorem dxQ_run_132 : decode cxQ_run 132 = .ok (.invokevirtual 239, 3) := by decide +kernel
theorem dxQ_run_135 : decode cxQ_run 135 = .ok (.aload_n 0, 1) := by decide +kernel
theorem dxQ_run_136 : decode cxQ_run 136 = .ok (.invokevirtual 242, 3) := by decide +kernel
theorem dxQ_run_139 : decode cxQ_run 139 = .ok (.aload_n 0, 1) := by decide +kernel
theorem dxQ_run_140 : decode cxQ_run 140 = .ok (.getfield 138, 3) := by decide +kernel
theorem dxQ_run_143 : decode cxQ_run 143 = .ok (.ireturn, 1) := by decide +kernel
theorem dxQ_settle_0 : decode cxQ_settle 0 = .ok (.aload_n 0, 1) := by decide +kernel
theorem dxQ_settle_1 : decode cxQ_settle 1 = .ok (.getfield 148, 3) := by decide +kernel
theorem dxQ_settle_4 : decode cxQ_settle 4 = .ok (.iconst 3, 1) := by decide +kernel
theorem dxQ_settle_5 : decode cxQ_settle 5 = .ok (.if_icmp .eq 34, 3) := by decide +kernel
theorem dxQ_settle_8 : decode cxQ_settle 8 = .ok (.aload_n 0, 1) := by decide +kernel
theorem dxQ_settle_9 : decode cxQ_settle 9 = .ok (.iconst 0, 1) := by decide +kernel
theorem dxQ_settle_10 : decode cxQ_settle 10 = .ok (.putfield 138, 3) := by decide +kernel
theorem dxQ_settle_13 : decode cxQ_settle 13 = .ok (.aload_n 0, 1) := by decide +kernel
theorem dxQ_settle_14 : decode cxQ_settle 14 = .ok (.aload_n 0, 1) := by decide +kernel
theorem dxQ_settle_15 : decode cxQ_settle 15 = .ok (.getfield 148, 3) := by decide +kernel
theorem dxQ_settle_18 : decode cxQ_settle 18 = .ok (.iconst 2, 1) := by decide +kernel
theorem dxQ_settle_19 : decode cxQ_settle 19 = .ok (.if_icmp .ne 7, 3) := by decide +kernel
theorem dxQ_settle_22 : decode cxQ_settle 22 = .ok (.iconst 1, 1) := by decide +kernel
theorem dxQ_settle_23 : decode cxQ_settle 23 = .ok (.goto 4, 3) := by decide +kernel
theorem dxQ_settle_26 : decode cxQ_settle 26 = .ok (.iconst 0, 1) := by decide +kernel
theorem dxQ_settle_27 : decode cxQ_settle 27 = .ok (.putfield 233, 3) := by decide +kernel
theorem dxQ_settle_30 : decode cxQ_settle 30 = .ok (.aload_n 0, 1) := by decide +kernel
theorem dxQ_settle_31 : decode cxQ_settle 31 = .ok (.aload_n 0, 1) := by decide +kernel
theorem dxQ_settle_32 : decode cxQ_settle 32 = .ok (.getfield 151, 3) := by decide +kernel
theorem dxQ_settle_35 : decode cxQ_settle 35 = .ok (.putfield 181, 3) := by decide +kernel
theorem dxQ_settle_38 : decode cxQ_settle 38 = .ok (.return_, 1) := by decide +kernel
theorem dxQ_settle_39 : decode cxQ_settle 39 = .ok (.aload_n 0, 1) := by decide +kernel
theorem dxQ_settle_40 : decode cxQ_settle 40 = .ok (.aload_n 0, 1) := by decide +kernel
theorem dxQ_settle_41 : decode cxQ_settle 41 = .ok (.getfield 151, 3) := by decide +kernel
theorem dxQ_settle_44 : decode cxQ_settle 44 = .ok (.putfield 83, 3) := by decide +kernel
theorem dxQ_settle_47 : decode cxQ_settle 47 = .ok (.aload_n 0, 1) := by decide +kernel
theorem dxQ_settle_48 : decode cxQ_settle 48 = .ok (.iconst 1, 1) := by decide +kernel
theorem dxQ_settle_49 : decode cxQ_settle 49 = .ok (.putfield 138, 3) := by decide +kernel
theorem dxQ_settle_52 : decode cxQ_settle 52 = .ok (.aload_n 0, 1) := by decide +kernel
theorem dxQ_settle_53 : decode cxQ_settle 53 = .ok (.getfield 59, 3) := by decide +kernel
theorem dxQ_settle_56 : decode cxQ_settle 56 = .ok (.ifCond .lt 35, 3) := by decide +kernel
theorem dxQ_settle_59 : decode cxQ_settle 59 = .ok (.aload_n 0, 1) := by decide +kernel
theorem dxQ_settle_60 : decode cxQ_settle 60 = .ok (.getfield 56, 3) := by decide +kernel
theorem dxQ_settle_63 : decode cxQ_settle 63 = .ok (.aload_n 0, 1) := by decide +kernel
theorem dxQ_settle_64 : decode cxQ_settle 64 = .ok (.getfield 59, 3) := by decide +kernel
theorem dxQ_settle_67 : decode cxQ_settle 67 = .ok (.iaload, 1) := by decide +kernel
theorem dxQ_settle_68 : decode cxQ_settle 68 = .ok (.ifCond .lt 23, 3) := by decide +kernel
theorem dxQ_settle_71 : decode cxQ_settle 71 = .ok (.aload_n 0, 1) := by decide +kernel
theorem dxQ_settle_72 : decode cxQ_settle 72 = .ok (.aload_n 0, 1) := by decide +kernel
theorem dxQ_settle_73 : decode cxQ_settle 73 = .ok (.getfield 56, 3) := by decide +kernel
theorem dxQ_settle_76 : decode cxQ_settle 76 = .ok (.aload_n 0, 1) := by decide +kernel
theorem dxQ_settle_77 : decode cxQ_settle 77 = .ok (.getfield 59, 3) := by decide +kernel
theorem dxQ_settle_80 : decode cxQ_settle 80 = .ok (.iaload, 1) := by decide +kernel
theorem dxQ_settle_81 : decode cxQ_settle 81 = .ok (.aload_n 0, 1) := by decide +kernel
theorem dxQ_settle_82 : decode cxQ_settle 82 = .ok (.getfield 83, 3) := by decide +kernel
theorem dxQ_settle_85 : decode cxQ_settle 85 = .ok (.invokevirtual 236, 3) := by decide +kernel
theorem dxQ_settle_88 : decode cxQ_settle 88 = .ok (.ifCond .ne 4, 3) := by decide +kernel
theorem dxQ_settle_91 : decode cxQ_settle 91 = .ok (.return_, 1) := by decide +kernel
theorem dxQ_settle_92 : decode cxQ_settle 92 = .ok (.aload_n 0, 1) := by decide +kernel
theorem dxQ_settle_93 : decode cxQ_settle 93 = .ok (.aload_n 0, 1) := by decide +kernel
theorem dxQ_settle_94 : decode cxQ_settle 94 = .ok (.getfield 148, 3) := by decide +kernel
theorem dxQ_settle_97 : decode cxQ_settle 97 = .ok (.iconst 3, 1) := by decide +kernel
theorem dxQ_settle_98 : decode cxQ_settle 98 = .ok (.if_icmp .ne 7, 3) := by decide +kernel
theorem dxQ_settle_101 : decode cxQ_settle 101 = .ok (.iconst 3, 1) := by decide +kernel
theorem dxQ_settle_102 : decode cxQ_settle 102 = .ok (.goto 4, 3) := by decide +kernel
theorem dxQ_settle_105 : decode cxQ_settle 105 = .ok (.iconst 2, 1) := by decide +kernel
theorem dxQ_settle_106 : decode cxQ_settle 106 = .ok (.putfield 138, 3) := by decide +kernel
theorem dxQ_settle_109 : decode cxQ_settle 109 = .ok (.aload_n 0, 1) := by decide +kernel
theorem dxQ_settle_110 : decode cxQ_settle 110 = .ok (.getfield 148, 3) := by decide +kernel
theorem dxQ_settle_113 : decode cxQ_settle 113 = .ok (.iconst 3, 1) := by decide +kernel
theorem dxQ_settle_114 : decode cxQ_settle 114 = .ok (.if_icmp .ne 11, 3) := by decide +kernel
theorem dxQ_settle_117 : decode cxQ_settle 117 = .ok (.aload_n 0, 1) := by decide +kernel
theorem dxQ_settle_118 : decode cxQ_settle 118 = .ok (.aload_n 0, 1) := by decide +kernel
theorem dxQ_settle_119 : decode cxQ_settle 119 = .ok (.getfield 151, 3) := by decide +kernel
theorem dxQ_settle_122 : decode cxQ_settle 122 = .ok (.putfield 86, 3) := by decide +kernel
theorem dxQ_settle_125 : decode cxQ_settle 125 = .ok (.return_, 1) := by decide +kernel
theorem dxQ_letter_0 : decode cxQ_letter 0 = .ok (.aload_n 0, 1) := by decide +kernel
theorem dxQ_letter_1 : decode cxQ_letter 1 = .ok (.getfield 107, 3) := by decide +kernel
theorem dxQ_letter_4 : decode cxQ_letter 4 = .ok (.aload_n 0, 1) := by decide +kernel
theorem dxQ_letter_5 : decode cxQ_letter 5 = .ok (.getfield 245, 3) := by decide +kernel
theorem dxQ_letter_8 : decode cxQ_letter 8 = .ok (.iload_n 1, 1) := by decide +kernel
theorem dxQ_letter_9 : decode cxQ_letter 9 = .ok (.iastore, 1) := by decide +kernel
theorem dxQ_letter_10 : decode cxQ_letter 10 = .ok (.aload_n 0, 1) := by decide +kernel
theorem dxQ_letter_11 : decode cxQ_letter 11 = .ok (.getfield 245, 3) := by decide +kernel
theorem dxQ_letter_14 : decode cxQ_letter 14 = .ok (.sipush 300, 3) := by decide +kernel
theorem dxQ_letter_17 : decode cxQ_letter 17 = .ok (.if_icmp .ge 13, 3) := by decide +kernel
theorem dxQ_letter_20 : decode cxQ_letter 20 = .ok (.aload_n 0, 1) := by decide +kernel
theorem dxQ_letter_21 : decode cxQ_letter 21 = .ok (.dup, 1) := by decide +kernel
theorem dxQ_letter_22 : decode cxQ_letter 22 = .ok (.getfield 245, 3) := by decide +kernel
theorem dxQ_letter_25 : decode cxQ_letter 25 = .ok (.iconst 1, 1) := by decide +kernel
theorem dxQ_letter_26 : decode cxQ_letter 26 = .ok (.iadd, 1) := by decide +kernel
theorem dxQ_letter_27 : decode cxQ_letter 27 = .ok (.putfield 245, 3) := by decide +kernel
theorem dxQ_letter_30 : decode cxQ_letter 30 = .ok (.return_, 1) := by decide +kernel
theorem dxQ_word_0 : decode cxQ_word 0 = .ok (.iconst 1, 1) := by decide +kernel
theorem dxQ_word_1 : decode cxQ_word 1 = .ok (.istore 4, 2) := by decide +kernel
theorem dxQ_word_3 : decode cxQ_word 3 = .ok (.bipush 60, 2) := by decide +kernel
theorem dxQ_word_5 : decode cxQ_word 5 = .ok (.istore 5, 2) := by decide +kernel
theorem dxQ_word_7 : decode cxQ_word 7 = .ok (.iload 5, 2) := by decide +kernel
theorem dxQ_word_9 : decode cxQ_word 9 = .ok (.ifCond .lt 53, 3) := by decide +kernel
theorem dxQ_word_12 : decode cxQ_word 12 = .ok (.lload_n 1, 1) := by decide +kernel
theorem dxQ_word_13 : decode cxQ_word 13 = .ok (.iload 5, 2) := by decide +kernel
theorem dxQ_word_15 : decode cxQ_word 15 = .ok (.lshr, 1) := by decide +kernel
theorem dxQ_word_16 : decode cxQ_word 16 = .ok (.l2i, 1) := by decide +kernel
theorem dxQ_word_17 : decode cxQ_word 17 = .ok (.bipush 31, 2) := by decide +kernel
theorem dxQ_word_19 : decode cxQ_word 19 = .ok (.iand, 1) := by decide +kernel
theorem dxQ_word_20 : decode cxQ_word 20 = .ok (.istore 6, 2) := by decide +kernel
theorem dxQ_word_22 : decode cxQ_word 22 = .ok (.iload 6, 2) := by decide +kernel
theorem dxQ_word_24 : decode cxQ_word 24 = .ok (.ifCond .ne 6, 3) := by decide +kernel
theorem dxQ_word_27 : decode cxQ_word 27 = .ok (.goto 29, 3) := by decide +kernel
theorem dxQ_word_30 : decode cxQ_word 30 = .ok (.aload_n 0, 1) := by decide +kernel
theorem dxQ_word_31 : decode cxQ_word 31 = .ok (.iload 6, 2) := by decide +kernel
theorem dxQ_word_33 : decode cxQ_word 33 = .ok (.iload 4, 2) := by decide +kernel
theorem dxQ_word_35 : decode cxQ_word 35 = .ok (.ifCond .eq 12, 3) := by decide +kernel
theorem dxQ_word_38 : decode cxQ_word 38 = .ok (.iload_n 3, 1) := by decide +kernel
theorem dxQ_word_39 : decode cxQ_word 39 = .ok (.ifCond .eq 8, 3) := by decide +kernel
theorem dxQ_word_42 : decode cxQ_word 42 = .ok (.bipush 64, 2) := by decide +kernel
theorem dxQ_word_44 : decode cxQ_word 44 = .ok (.goto 5, 3) := by decide +kernel
theorem dxQ_word_47 : decode cxQ_word 47 = .ok (.bipush 96, 2) := by decide +kernel
theorem dxQ_word_49 : decode cxQ_word 49 = .ok (.iadd, 1) := by decide +kernel
theorem dxQ_word_50 : decode cxQ_word 50 = .ok (.invokevirtual 248, 3) := by decide +kernel
theorem dxQ_word_53 : decode cxQ_word 53 = .ok (.iconst 0, 1) := by decide +kernel
theorem dxQ_word_54 : decode cxQ_word 54 = .ok (.istore 4, 2) := by decide +kernel
theorem dxQ_word_56 : decode cxQ_word 56 = .ok (.iinc 5 (-5), 3) := by decide +kernel
theorem dxQ_word_59 : decode cxQ_word 59 = .ok (.goto (-52), 3) := by decide +kernel
theorem dxQ_word_62 : decode cxQ_word 62 = .ok (.return_, 1) := by decide +kernel
theorem dxQ_number_0 : decode cxQ_number 0 = .ok (.iload_n 1, 1) := by decide +kernel
theorem dxQ_number_1 : decode cxQ_number 1 = .ok (.i2l, 1) := by decide +kernel
theorem dxQ_number_2 : decode cxQ_number 2 = .ok (.lstore_n 2, 1) := by decide +kernel
theorem dxQ_number_3 : decode cxQ_number 3 = .ok (.lload_n 2, 1) := by decide +kernel
theorem dxQ_number_4 : decode cxQ_number 4 = .ok (.lconst 0, 1) := by decide +kernel
theorem dxQ_number_5 : decode cxQ_number 5 = .ok (.lcmp, 1) := by decide +kernel
theorem dxQ_number_6 : decode cxQ_number 6 = .ok (.ifCond .ge 9, 3) := by decide +kernel
theorem dxQ_number_9 : decode cxQ_number 9 = .ok (.aload_n 0, 1) := by decide +kernel
theorem dxQ_number_10 : decode cxQ_number 10 = .ok (.bipush 45, 2) := by decide +kernel
theorem dxQ_number_12 : decode cxQ_number 12 = .ok (.invokevirtual 248, 3) := by decide +kernel
theorem dxQ_number_15 : decode cxQ_number 15 = .ok (.lload_n 2, 1) := by decide +kernel
theorem dxQ_number_16 : decode cxQ_number 16 = .ok (.lconst 0, 1) := by decide +kernel
theorem dxQ_number_17 : decode cxQ_number 17 = .ok (.lcmp, 1) := by decide +kernel
theorem dxQ_number_18 : decode cxQ_number 18 = .ok (.ifCond .ge 6, 3) := by decide +kernel
theorem dxQ_number_21 : decode cxQ_number 21 = .ok (.lload_n 2, 1) := by decide +kernel
theorem dxQ_number_22 : decode cxQ_number 22 = .ok (.lneg, 1) := by decide +kernel
theorem dxQ_number_23 : decode cxQ_number 23 = .ok (.lstore_n 2, 1) := by decide +kernel
theorem dxQ_number_24 : decode cxQ_number 24 = .ok (.lconst 1, 1) := by decide +kernel
theorem dxQ_number_25 : decode cxQ_number 25 = .ok (.lstore 4, 2) := by decide +kernel
theorem dxQ_number_27 : decode cxQ_number 27 = .ok (.lload 4, 2) := by decide +kernel
theorem dxQ_number_29 : decode cxQ_number 29 = .ok (.ldc2_w 251, 3) := by decide +kernel
theorem dxQ_number_32 : decode cxQ_number 32 = .ok (.lmul, 1) := by decide +kernel
theorem dxQ_number_33 : decode cxQ_number 33 = .ok (.lload_n 2, 1) := by decide +kernel
theorem dxQ_number_34 : decode cxQ_number 34 = .ok (.lcmp, 1) := by decide +kernel
theorem dxQ_number_35 : decode cxQ_number 35 = .ok (.ifCond .gt 14, 3) := by decide +kernel
theorem dxQ_number_38 : decode cxQ_number 38 = .ok (.lload 4, 2) := by decide +kernel
theorem dxQ_number_40 : decode cxQ_number 40 = .ok (.ldc2_w 251, 3) := by decide +kernel
theorem dxQ_number_43 : decode cxQ_number 43 = .ok (.lmul, 1) := by decide +kernel
theorem dxQ_number_44 : decode cxQ_number 44 = .ok (.lstore 4, 2) := by decide +kernel
theorem dxQ_number_46 : decode cxQ_number 46 = .ok (.goto (-19), 3) := by decide +kernel
theorem dxQ_number_49 : decode cxQ_number 49 = .ok (.lload 4, 2) := by decide +kernel
theorem dxQ_number_51 : decode cxQ_number 51 = .ok (.lconst 0, 1) := by decide +kernel
theorem dxQ_number_52 : decode cxQ_number 52 = .ok (.lcmp, 1) := by decide +kernel
theorem dxQ_number_53 : decode cxQ_number 53 = .ok (.ifCond .le 30, 3) := by decide +kernel
theorem dxQ_number_56 : decode cxQ_number 56 = .ok (.aload_n 0, 1) := by decide +kernel
theorem dxQ_number_57 : decode cxQ_number 57 = .ok (.bipush 48, 2) := by decide +kernel
theorem dxQ_number_59 : decode cxQ_number 59 = .ok (.lload_n 2, 1) := by decide +kernel
theorem dxQ_number_60 : decode cxQ_number 60 = .ok (.lload 4, 2) := by decide +kernel
theorem dxQ_number_62 : decode cxQ_number 62 = .ok (.ldiv, 1) := by decide +kernel
theorem dxQ_number_63 : decode cxQ_number 63 = .ok (.ldc2_w 251, 3) := by decide +kernel
theorem dxQ_number_66 : decode cxQ_number 66 = .ok (.lrem, 1) := by decide +kernel
theorem dxQ_number_67 : decode cxQ_number 67 = .ok (.l2i, 1) := by decide +kernel
theorem dxQ_number_68 : decode cxQ_number 68 = .ok (.iadd, 1) := by decide +kernel
theorem dxQ_number_69 : decode cxQ_number 69 = .ok (.invokevirtual 248, 3) := by decide +kernel
theorem dxQ_number_72 : decode cxQ_number 72 = .ok (.lload 4, 2) := by decide +kernel
theorem dxQ_number_74 : decode cxQ_number 74 = .ok (.ldc2_w 251, 3) := by decide +kernel
theorem dxQ_number_77 : decode cxQ_number 77 = .ok (.ldiv, 1) := by decide +kernel
theorem dxQ_number_78 : decode cxQ_number 78 = .ok (.lstore 4, 2) := by decide +kernel
theorem dxQ_number_80 : decode cxQ_number 80 = .ok (.goto (-31), 3) := by decide +kernel
theorem dxQ_number_83 : decode cxQ_number 83 = .ok (.return_, 1) := by decide +kernel
theorem dxQ_name_0 : decode cxQ_name 0 = .ok (.aload_n 0, 1) := by decide +kernel
theorem dxQ_name_1 : decode cxQ_name 1 = .ok (.getfield 62, 3) := by decide +kernel
theorem dxQ_name_4 : decode cxQ_name 4 = .ok (.iload_n 1, 1) := by decide +kernel
theorem dxQ_name_5 : decode cxQ_name 5 = .ok (.iaload, 1) := by decide +kernel
theorem dxQ_name_6 : decode cxQ_name 6 = .ok (.istore_n 2, 1) := by decide +kernel
theorem dxQ_name_7 : decode cxQ_name 7 = .ok (.iload_n 2, 1) := by decide +kernel
theorem dxQ_name_8 : decode cxQ_name 8 = .ok (.bipush 10, 2) := by decide +kernel
theorem dxQ_name_10 : decode cxQ_name 10 = .ok (.if_icmp .ge 17, 3) := by decide +kernel
theorem dxQ_name_13 : decode cxQ_name 13 = .ok (.aload_n 0, 1) := by decide +kernel
theorem dxQ_name_14 : decode cxQ_name 14 = .ok (.aload_n 0, 1) := by decide +kernel
theorem dxQ_name_15 : decode cxQ_name 15 = .ok (.getfield 27, 3) := by decide +kernel
theorem dxQ_name_18 : decode cxQ_name 18 = .ok (.iload_n 2, 1) := by decide +kernel
theorem dxQ_name_19 : decode cxQ_name 19 = .ok (.laload, 1) := by decide +kernel
theorem dxQ_name_20 : decode cxQ_name 20 = .ok (.iconst 1, 1) := by decide +kernel
theorem dxQ_name_21 : decode cxQ_name 21 = .ok (.invokevirtual 253, 3) := by decide +kernel
theorem dxQ_name_24 : decode cxQ_name 24 = .ok (.goto 16, 3) := by decide +kernel
theorem dxQ_name_27 : decode cxQ_name 27 = .ok (.aload_n 0, 1) := by decide +kernel
theorem dxQ_name_28 : decode cxQ_name 28 = .ok (.ldc2_w 257, 3) := by decide +kernel
theorem dxQ_name_31 : decode cxQ_name 31 = .ok (.iconst 1, 1) := by decide +kernel
theorem dxQ_name_32 : decode cxQ_name 32 = .ok (.invokevirtual 253, 3) := by decide +kernel
theorem dxQ_name_35 : decode cxQ_name 35 = .ok (.aload_n 0, 1) := by decide +kernel
theorem dxQ_name_36 : decode cxQ_name 36 = .ok (.iload_n 2, 1) := by decide +kernel
theorem dxQ_name_37 : decode cxQ_name 37 = .ok (.invokevirtual 259, 3) := by decide +kernel
theorem dxQ_name_40 : decode cxQ_name 40 = .ok (.aload_n 0, 1) := by decide +kernel
theorem dxQ_name_41 : decode cxQ_name 41 = .ok (.bipush 40, 2) := by decide +kernel
theorem dxQ_name_43 : decode cxQ_name 43 = .ok (.invokevirtual 248, 3) := by decide +kernel
theorem dxQ_name_46 : decode cxQ_name 46 = .ok (.aload_n 0, 1) := by decide +kernel
theorem dxQ_name_47 : decode cxQ_name 47 = .ok (.aload_n 0, 1) := by decide +kernel
theorem dxQ_name_48 : decode cxQ_name 48 = .ok (.getfield 65, 3) := by decide +kernel
theorem dxQ_name_51 : decode cxQ_name 51 = .ok (.iload_n 1, 1) := by decide +kernel
theorem dxQ_name_52 : decode cxQ_name 52 = .ok (.iaload, 1) := by decide +kernel
theorem dxQ_name_53 : decode cxQ_name 53 = .ok (.invokevirtual 259, 3) := by decide +kernel
theorem dxQ_name_56 : decode cxQ_name 56 = .ok (.aload_n 0, 1) := by decide +kernel
theorem dxQ_name_57 : decode cxQ_name 57 = .ok (.bipush 41, 2) := by decide +kernel
theorem dxQ_name_59 : decode cxQ_name 59 = .ok (.invokevirtual 248, 3) := by decide +kernel
theorem dxQ_name_62 : decode cxQ_name 62 = .ok (.aload_n 0, 1) := by decide +kernel
theorem dxQ_name_63 : decode cxQ_name 63 = .ok (.getfield 71, 3) := by decide +kernel
theorem dxQ_name_66 : decode cxQ_name 66 = .ok (.iload_n 1, 1) := by decide +kernel
theorem dxQ_name_67 : decode cxQ_name 67 = .ok (.iaload, 1) := by decide +kernel
theorem dxQ_name_68 : decode cxQ_name 68 = .ok (.ifCond .ne 4, 3) := by decide +kernel
theorem dxQ_name_71 : decode cxQ_name 71 = .ok (.return_, 1) := by decide +kernel
theorem dxQ_name_72 : decode cxQ_name 72 = .ok (.aload_n 0, 1) := by decide +kernel
theorem dxQ_name_73 : decode cxQ_name 73 = .ok (.bipush 43, 2) := by decide +kernel
theorem dxQ_name_75 : decode cxQ_name 75 = .ok (.invokevirtual 248, 3) := by decide +kernel
theorem dxQ_name_78 : decode cxQ_name 78 = .ok (.aload_n 0, 1) := by decide +kernel
theorem dxQ_name_79 : decode cxQ_name 79 = .ok (.aload_n 0, 1) := by decide +kernel
theorem dxQ_name_80 : decode cxQ_name 80 = .ok (.getfield 71, 3) := by decide +kernel
theorem dxQ_name_83 : decode cxQ_name 83 = .ok (.iload_n 1, 1) := by decide +kernel
theorem dxQ_name_84 : decode cxQ_name 84 = .ok (.iaload, 1) := by decide +kernel
theorem dxQ_name_85 : decode cxQ_name 85 = .ok (.invokevirtual 259, 3) := by decide +kernel
theorem dxQ_name_88 : decode cxQ_name 88 = .ok (.return_, 1) := by decide +kernel
theorem dxQ_outcomeWord_0 : decode cxQ_outcomeWord 0 = .ok (.aload_n 0, 1) := by decide +kernel
theorem dxQ_outcomeWord_1 : decode cxQ_outcomeWord 1 = .ok (.getfield 138, 3) := by decide +kernel
theorem dxQ_outcomeWord_4 : decode cxQ_outcomeWord 4 = .ok (.tableswitch 85 0 5 #[40, 49, 58, 85, 67, 76], 40) := by decide +kernel
theorem dxQ_outcomeWord_44 : decode cxQ_outcomeWord 44 = .ok (.aload_n 0, 1) := by decide +kernel
theorem dxQ_outcomeWord_45 : decode cxQ_outcomeWord 45 = .ok (.ldc2_w 262, 3) := by decide +kernel
theorem dxQ_outcomeWord_48 : decode cxQ_outcomeWord 48 = .ok (.iconst 0, 1) := by decide +kernel
theorem dxQ_outcomeWord_49 : decode cxQ_outcomeWord 49 = .ok (.invokevirtual 253, 3) := by decide +kernel
theorem dxQ_outcomeWord_52 : decode cxQ_outcomeWord 52 = .ok (.return_, 1) := by decide +kernel
theorem dxQ_outcomeWord_53 : decode cxQ_outcomeWord 53 = .ok (.aload_n 0, 1) := by decide +kernel
theorem dxQ_outcomeWord_54 : decode cxQ_outcomeWord 54 = .ok (.ldc2_w 264, 3) := by decide +kernel
theorem dxQ_outcomeWord_57 : decode cxQ_outcomeWord 57 = .ok (.iconst 0, 1) := by decide +kernel
theorem dxQ_outcomeWord_58 : decode cxQ_outcomeWord 58 = .ok (.invokevirtual 253, 3) := by decide +kernel
theorem dxQ_outcomeWord_61 : decode cxQ_outcomeWord 61 = .ok (.return_, 1) := by decide +kernel
theorem dxQ_outcomeWord_62 : decode cxQ_outcomeWord 62 = .ok (.aload_n 0, 1) := by decide +kernel
theorem dxQ_outcomeWord_63 : decode cxQ_outcomeWord 63 = .ok (.ldc2_w 266, 3) := by decide +kernel
theorem dxQ_outcomeWord_66 : decode cxQ_outcomeWord 66 = .ok (.iconst 0, 1) := by decide +kernel
theorem dxQ_outcomeWord_67 : decode cxQ_outcomeWord 67 = .ok (.invokevirtual 253, 3) := by decide +kernel
theorem dxQ_outcomeWord_70 : decode cxQ_outcomeWord 70 = .ok (.return_, 1) := by decide +kernel
theorem dxQ_outcomeWord_71 : decode cxQ_outcomeWord 71 = .ok (.aload_n 0, 1) := by decide +kernel
theorem dxQ_outcomeWord_72 : decode cxQ_outcomeWord 72 = .ok (.ldc2_w 268, 3) := by decide +kernel
theorem dxQ_outcomeWord_75 : decode cxQ_outcomeWord 75 = .ok (.iconst 0, 1) := by decide +kernel
theorem dxQ_outcomeWord_76 : decode cxQ_outcomeWord 76 = .ok (.invokevirtual 253, 3) := by decide +kernel
theorem dxQ_outcomeWord_79 : decode cxQ_outcomeWord 79 = .ok (.return_, 1) := by decide +kernel
theorem dxQ_outcomeWord_80 : decode cxQ_outcomeWord 80 = .ok (.aload_n 0, 1) := by decide +kernel
theorem dxQ_outcomeWord_81 : decode cxQ_outcomeWord 81 = .ok (.ldc2_w 270, 3) := by decide +kernel
theorem dxQ_outcomeWord_84 : decode cxQ_outcomeWord 84 = .ok (.iconst 0, 1) := by decide +kernel
theorem dxQ_outcomeWord_85 : decode cxQ_outcomeWord 85 = .ok (.invokevirtual 253, 3) := by decide +kernel
theorem dxQ_outcomeWord_88 : decode cxQ_outcomeWord 88 = .ok (.return_, 1) := by decide +kernel
theorem dxQ_outcomeWord_89 : decode cxQ_outcomeWord 89 = .ok (.aload_n 0, 1) := by decide +kernel
theorem dxQ_outcomeWord_90 : decode cxQ_outcomeWord 90 = .ok (.ldc2_w 272, 3) := by decide +kernel
theorem dxQ_outcomeWord_93 : decode cxQ_outcomeWord 93 = .ok (.iconst 0, 1) := by decide +kernel
theorem dxQ_outcomeWord_94 : decode cxQ_outcomeWord 94 = .ok (.invokevirtual 253, 3) := by decide +kernel
theorem dxQ_outcomeWord_97 : decode cxQ_outcomeWord 97 = .ok (.aload_n 0, 1) := by decide +kernel
theorem dxQ_outcomeWord_98 : decode cxQ_outcomeWord 98 = .ok (.bipush 32, 2) := by decide +kernel
theorem dxQ_outcomeWord_100 : decode cxQ_outcomeWord 100 = .ok (.invokevirtual 248, 3) := by decide +kernel
theorem dxQ_outcomeWord_103 : decode cxQ_outcomeWord 103 = .ok (.aload_n 0, 1) := by decide +kernel
theorem dxQ_outcomeWord_104 : decode cxQ_outcomeWord 104 = .ok (.ldc2_w 274, 3) := by decide +kernel
theorem dxQ_outcomeWord_107 : decode cxQ_outcomeWord 107 = .ok (.iconst 0, 1) := by decide +kernel
theorem dxQ_outcomeWord_108 : decode cxQ_outcomeWord 108 = .ok (.invokevirtual 253, 3) := by decide +kernel
theorem dxQ_outcomeWord_111 : decode cxQ_outcomeWord 111 = .ok (.return_, 1) := by decide +kernel
theorem dxQ_write_0 : decode cxQ_write 0 = .ok (.aload_n 0, 1) := by decide +kernel
theorem dxQ_write_1 : decode cxQ_write 1 = .ok (.iconst 0, 1) := by decide +kernel
theorem dxQ_write_2 : decode cxQ_write 2 = .ok (.putfield 245, 3) := by decide +kernel
theorem dxQ_write_5 : decode cxQ_write 5 = .ok (.aload_n 0, 1) := by decide +kernel
theorem dxQ_write_6 : decode cxQ_write 6 = .ok (.invokevirtual 276, 3) := by decide +kernel
theorem dxQ_write_9 : decode cxQ_write 9 = .ok (.aload_n 0, 1) := by decide +kernel
theorem dxQ_write_10 : decode cxQ_write 10 = .ok (.getfield 233, 3) := by decide +kernel
theorem dxQ_write_13 : decode cxQ_write 13 = .ok (.ifCond .ne 11, 3) := by decide +kernel
theorem dxQ_write_16 : decode cxQ_write 16 = .ok (.aload_n 0, 1) := by decide +kernel
theorem dxQ_write_17 : decode cxQ_write 17 = .ok (.getfield 138, 3) := by decide +kernel
theorem dxQ_write_20 : decode cxQ_write 20 = .ok (.iconst 4, 1) := by decide +kernel
theorem dxQ_write_21 : decode cxQ_write 21 = .ok (.if_icmp .ne 17, 3) := by decide +kernel
theorem dxQ_write_24 : decode cxQ_write 24 = .ok (.aload_n 0, 1) := by decide +kernel
theorem dxQ_write_25 : decode cxQ_write 25 = .ok (.bipush 32, 2) := by decide +kernel
theorem dxQ_write_27 : decode cxQ_write 27 = .ok (.invokevirtual 248, 3) := by decide +kernel
theorem dxQ_write_30 : decode cxQ_write 30 = .ok (.aload_n 0, 1) := by decide +kernel
theorem dxQ_write_31 : decode cxQ_write 31 = .ok (.aload_n 0, 1) := by decide +kernel
theorem dxQ_write_32 : decode cxQ_write 32 = .ok (.getfield 181, 3) := by decide +kernel
theorem dxQ_write_35 : decode cxQ_write 35 = .ok (.invokevirtual 259, 3) := by decide +kernel
theorem dxQ_write_38 : decode cxQ_write 38 = .ok (.aload_n 0, 1) := by decide +kernel
theorem dxQ_write_39 : decode cxQ_write 39 = .ok (.getfield 83, 3) := by decide +kernel
theorem dxQ_write_42 : decode cxQ_write 42 = .ok (.istore_n 1, 1) := by decide +kernel
theorem dxQ_write_43 : decode cxQ_write 43 = .ok (.iload_n 1, 1) := by decide +kernel
theorem dxQ_write_44 : decode cxQ_write 44 = .ok (.ifCond .lt 9, 3) := by decide +kernel
theorem dxQ_write_47 : decode cxQ_write 47 = .ok (.aload_n 0, 1) := by decide +kernel
theorem dxQ_write_48 : decode cxQ_write 48 = .ok (.bipush 32, 2) := by decide +kernel
theorem dxQ_write_50 : decode cxQ_write 50 = .ok (.invokevirtual 248, 3) := by decide +kernel
theorem dxQ_write_53 : decode cxQ_write 53 = .ok (.iload_n 1, 1) := by decide +kernel
theorem dxQ_write_54 : decode cxQ_write 54 = .ok (.ifCond .lt 55, 3) := by decide +kernel
theorem dxQ_write_57 : decode cxQ_write 57 = .ok (.aload_n 0, 1) := by decide +kernel
theorem dxQ_write_58 : decode cxQ_write 58 = .ok (.getfield 245, 3) := by decide +kernel
theorem dxQ_write_61 : decode cxQ_write 61 = .ok (.sipush 200, 3) := by decide +kernel
theorem dxQ_write_64 : decode cxQ_write 64 = .ok (.if_icmp .ge 45, 3) := by decide +kernel
theorem dxQ_write_67 : decode cxQ_write 67 = .ok (.aload_n 0, 1) := by decide +kernel
theorem dxQ_write_68 : decode cxQ_write 68 = .ok (.iload_n 1, 1) := by decide +kernel
theorem dxQ_write_69 : decode cxQ_write 69 = .ok (.invokevirtual 279, 3) := by decide +kernel
theorem dxQ_write_72 : decode cxQ_write 72 = .ok (.aload_n 0, 1) := by decide +kernel
theorem dxQ_write_73 : decode cxQ_write 73 = .ok (.getfield 68, 3) := by decide +kernel
theorem dxQ_write_76 : decode cxQ_write 76 = .ok (.iload_n 1, 1) := by decide +kernel
theorem dxQ_write_77 : decode cxQ_write 77 = .ok (.iaload, 1) := by decide +kernel
theorem dxQ_write_78 : decode cxQ_write 78 = .ok (.istore_n 1, 1) := by decide +kernel
theorem dxQ_write_79 : decode cxQ_write 79 = .ok (.iload_n 1, 1) := by decide +kernel
theorem dxQ_write_80 : decode cxQ_write 80 = .ok (.ifCond .ge 6, 3) := by decide +kernel
theorem dxQ_write_83 : decode cxQ_write 83 = .ok (.goto (-30), 3) := by decide +kernel
theorem dxQ_write_86 : decode cxQ_write 86 = .ok (.aload_n 0, 1) := by decide +kernel
theorem dxQ_write_87 : decode cxQ_write 87 = .ok (.bipush 32, 2) := by decide +kernel
theorem dxQ_write_89 : decode cxQ_write 89 = .ok (.invokevirtual 248, 3) := by decide +kernel
theorem dxQ_write_92 : decode cxQ_write 92 = .ok (.aload_n 0, 1) := by decide +kernel
theorem dxQ_write_93 : decode cxQ_write 93 = .ok (.ldc2_w 282, 3) := by decide +kernel
theorem dxQ_write_96 : decode cxQ_write 96 = .ok (.iconst 0, 1) := by decide +kernel
theorem dxQ_write_97 : decode cxQ_write 97 = .ok (.invokevirtual 253, 3) := by decide +kernel
theorem dxQ_write_100 : decode cxQ_write 100 = .ok (.aload_n 0, 1) := by decide +kernel
theorem dxQ_write_101 : decode cxQ_write 101 = .ok (.bipush 32, 2) := by decide +kernel
theorem dxQ_write_103 : decode cxQ_write 103 = .ok (.invokevirtual 248, 3) := by decide +kernel
theorem dxQ_write_106 : decode cxQ_write 106 = .ok (.goto (-53), 3) := by decide +kernel
theorem dxQ_write_109 : decode cxQ_write 109 = .ok (.aload_n 0, 1) := by decide +kernel
theorem dxQ_write_110 : decode cxQ_write 110 = .ok (.getfield 86, 3) := by decide +kernel
theorem dxQ_write_113 : decode cxQ_write 113 = .ok (.ifCond .lt 31, 3) := by decide +kernel
theorem dxQ_write_116 : decode cxQ_write 116 = .ok (.aload_n 0, 1) := by decide +kernel
theorem dxQ_write_117 : decode cxQ_write 117 = .ok (.bipush 32, 2) := by decide +kernel
theorem dxQ_write_119 : decode cxQ_write 119 = .ok (.invokevirtual 248, 3) := by decide +kernel
theorem dxQ_write_122 : decode cxQ_write 122 = .ok (.aload_n 0, 1) := by decide +kernel
theorem dxQ_write_123 : decode cxQ_write 123 = .ok (.ldc2_w 284, 3) := by decide +kernel
theorem dxQ_write_126 : decode cxQ_write 126 = .ok (.iconst 0, 1) := by decide +kernel
theorem dxQ_write_127 : decode cxQ_write 127 = .ok (.invokevirtual 253, 3) := by decide +kernel
theorem dxQ_write_130 : decode cxQ_write 130 = .ok (.aload_n 0, 1) := by decide +kernel
theorem dxQ_write_131 : decode cxQ_write 131 = .ok (.bipush 32, 2) := by decide +kernel
theorem dxQ_write_133 : decode cxQ_write 133 = .ok (.invokevirtual 248, 3) := by decide +kernel
theorem dxQ_write_136 : decode cxQ_write 136 = .ok (.aload_n 0, 1) := by decide +kernel
theorem dxQ_write_137 : decode cxQ_write 137 = .ok (.aload_n 0, 1) := by decide +kernel
theorem dxQ_write_138 : decode cxQ_write 138 = .ok (.getfield 86, 3) := by decide +kernel
theorem dxQ_write_141 : decode cxQ_write 141 = .ok (.invokevirtual 279, 3) := by decide +kernel
theorem dxQ_write_144 : decode cxQ_write 144 = .ok (.aload_n 0, 1) := by decide +kernel
theorem dxQ_write_145 : decode cxQ_write 145 = .ok (.getfield 245, 3) := by decide +kernel
theorem dxQ_write_148 : decode cxQ_write 148 = .ok (.bipush 120, 2) := by decide +kernel
theorem dxQ_write_150 : decode cxQ_write 150 = .ok (.if_icmp .le 9, 3) := by decide +kernel
theorem dxQ_write_153 : decode cxQ_write 153 = .ok (.aload_n 0, 1) := by decide +kernel
theorem dxQ_write_154 : decode cxQ_write 154 = .ok (.bipush 120, 2) := by decide +kernel
theorem dxQ_write_156 : decode cxQ_write 156 = .ok (.putfield 245, 3) := by decide +kernel
theorem dxQ_write_159 : decode cxQ_write 159 = .ok (.return_, 1) := by decide +kernel
theorem dxQ_variable_0 : decode cxQ_variable 0 = .ok (.iload_n 1, 1) := by decide +kernel
theorem dxQ_variable_1 : decode cxQ_variable 1 = .ok (.iconst 0, 1) := by decide +kernel
theorem dxQ_variable_2 : decode cxQ_variable 2 = .ok (.iconst 3, 1) := by decide +kernel
theorem dxQ_variable_3 : decode cxQ_variable 3 = .ok (.invokestatic 113, 3) := by decide +kernel
theorem dxQ_variable_6 : decode cxQ_variable 6 = .ok (.ifCond .eq 9, 3) := by decide +kernel
theorem dxQ_variable_9 : decode cxQ_variable 9 = .ok (.ldc2_w 286, 3) := by decide +kernel
theorem dxQ_variable_12 : decode cxQ_variable 12 = .ok (.goto 10, 3) := by decide +kernel
theorem dxQ_variable_15 : decode cxQ_variable 15 = .ok (.aload_n 0, 1) := by decide +kernel
theorem dxQ_variable_16 : decode cxQ_variable 16 = .ok (.getfield 74, 3) := by decide +kernel
theorem dxQ_variable_19 : decode cxQ_variable 19 = .ok (.iload_n 1, 1) := by decide +kernel
theorem dxQ_variable_20 : decode cxQ_variable 20 = .ok (.iaload, 1) := by decide +kernel
theorem dxQ_variable_21 : decode cxQ_variable 21 = .ok (.i2l, 1) := by decide +kernel
theorem dxQ_variable_22 : decode cxQ_variable 22 = .ok (.lreturn, 1) := by decide +kernel
theorem dxQ_value_0 : decode cxQ_value 0 = .ok (.aload_n 0, 1) := by decide +kernel
theorem dxQ_value_1 : decode cxQ_value 1 = .ok (.getfield 230, 3) := by decide +kernel
theorem dxQ_value_4 : decode cxQ_value 4 = .ok (.ifCond .eq 26, 3) := by decide +kernel
theorem dxQ_value_7 : decode cxQ_value 7 = .ok (.aload_n 0, 1) := by decide +kernel
theorem dxQ_value_8 : decode cxQ_value 8 = .ok (.getfield 233, 3) := by decide +kernel
theorem dxQ_value_11 : decode cxQ_value 11 = .ok (.ifCond .ne 11, 3) := by decide +kernel
theorem dxQ_value_14 : decode cxQ_value 14 = .ok (.aload_n 0, 1) := by decide +kernel
theorem dxQ_value_15 : decode cxQ_value 15 = .ok (.getfield 138, 3) := by decide +kernel
theorem dxQ_value_18 : decode cxQ_value 18 = .ok (.iconst 4, 1) := by decide +kernel
theorem dxQ_value_19 : decode cxQ_value 19 = .ok (.if_icmp .ne 11, 3) := by decide +kernel
theorem dxQ_value_22 : decode cxQ_value 22 = .ok (.aload_n 0, 1) := by decide +kernel
theorem dxQ_value_23 : decode cxQ_value 23 = .ok (.getfield 181, 3) := by decide +kernel
theorem dxQ_value_26 : decode cxQ_value 26 = .ok (.i2l, 1) := by decide +kernel
theorem dxQ_value_27 : decode cxQ_value 27 = .ok (.goto 6, 3) := by decide +kernel
theorem dxQ_value_30 : decode cxQ_value 30 = .ok (.ldc2_w 286, 3) := by decide +kernel
theorem dxQ_value_33 : decode cxQ_value 33 = .ok (.lreturn, 1) := by decide +kernel
theorem dxQ_logged_0 : decode cxQ_logged 0 = .ok (.iload_n 1, 1) := by decide +kernel
theorem dxQ_logged_1 : decode cxQ_logged 1 = .ok (.ifCond .lt 11, 3) := by decide +kernel
theorem dxQ_logged_4 : decode cxQ_logged 4 = .ok (.iload_n 1, 1) := by decide +kernel
theorem dxQ_logged_5 : decode cxQ_logged 5 = .ok (.aload_n 0, 1) := by decide +kernel
theorem dxQ_logged_6 : decode cxQ_logged 6 = .ok (.getfield 161, 3) := by decide +kernel
theorem dxQ_logged_9 : decode cxQ_logged 9 = .ok (.if_icmp .lt 9, 3) := by decide +kernel
theorem dxQ_logged_12 : decode cxQ_logged 12 = .ok (.ldc2_w 286, 3) := by decide +kernel
theorem dxQ_logged_15 : decode cxQ_logged 15 = .ok (.goto 10, 3) := by decide +kernel
theorem dxQ_logged_18 : decode cxQ_logged 18 = .ok (.aload_n 0, 1) := by decide +kernel
theorem dxQ_logged_19 : decode cxQ_logged 19 = .ok (.getfield 80, 3) := by decide +kernel
theorem dxQ_logged_22 : decode cxQ_logged 22 = .ok (.iload_n 1, 1) := by decide +kernel
theorem dxQ_logged_23 : decode cxQ_logged 23 = .ok (.iaload, 1) := by decide +kernel
theorem dxQ_logged_24 : decode cxQ_logged 24 = .ok (.i2l, 1) := by decide +kernel
theorem dxQ_logged_25 : decode cxQ_logged 25 = .ok (.lreturn, 1) := by decide +kernel
theorem dxQ_chained_0 : decode cxQ_chained 0 = .ok (.iload_n 1, 1) := by decide +kernel
theorem dxQ_chained_1 : decode cxQ_chained 1 = .ok (.istore 4, 2) := by decide +kernel
theorem dxQ_chained_3 : decode cxQ_chained 3 = .ok (.iconst 0, 1) := by decide +kernel
theorem dxQ_chained_4 : decode cxQ_chained 4 = .ok (.istore 5, 2) := by decide +kernel
theorem dxQ_chained_6 : decode cxQ_chained 6 = .ok (.iload 5, 2) := by decide +kernel
theorem dxQ_chained_8 : decode cxQ_chained 8 = .ok (.iload_n 2, 1) := by decide +kernel
theorem dxQ_chained_9 : decode cxQ_chained 9 = .ok (.if_icmp .ge 23, 3) := by decide +kernel
theorem dxQ_chained_12 : decode cxQ_chained 12 = .ok (.iload 4, 2) := by decide +kernel
theorem dxQ_chained_14 : decode cxQ_chained 14 = .ok (.ifCond .lt 18, 3) := by decide +kernel
theorem dxQ_chained_17 : decode cxQ_chained 17 = .ok (.aload_n 0, 1) := by decide +kernel
theorem dxQ_chained_18 : decode cxQ_chained 18 = .ok (.getfield 68, 3) := by decide +kernel
theorem dxQ_chained_21 : decode cxQ_chained 21 = .ok (.iload 4, 2) := by decide +kernel
theorem dxQ_chained_23 : decode cxQ_chained 23 = .ok (.iaload, 1) := by decide +kernel
theorem dxQ_chained_24 : decode cxQ_chained 24 = .ok (.istore 4, 2) := by decide +kernel
theorem dxQ_chained_26 : decode cxQ_chained 26 = .ok (.iinc 5 1, 3) := by decide +kernel
theorem dxQ_chained_29 : decode cxQ_chained 29 = .ok (.goto (-23), 3) := by decide +kernel
theorem dxQ_chained_32 : decode cxQ_chained 32 = .ok (.iload_n 2, 1) := by decide +kernel
theorem dxQ_chained_33 : decode cxQ_chained 33 = .ok (.ifCond .lt 8, 3) := by decide +kernel
theorem dxQ_chained_36 : decode cxQ_chained 36 = .ok (.iload 4, 2) := by decide +kernel
theorem dxQ_chained_38 : decode cxQ_chained 38 = .ok (.ifCond .ge 7, 3) := by decide +kernel
theorem dxQ_chained_41 : decode cxQ_chained 41 = .ok (.ldc2_w 286, 3) := by decide +kernel
theorem dxQ_chained_44 : decode cxQ_chained 44 = .ok (.lreturn, 1) := by decide +kernel
theorem dxQ_chained_45 : decode cxQ_chained 45 = .ok (.iload_n 3, 1) := by decide +kernel
theorem dxQ_chained_46 : decode cxQ_chained 46 = .ok (.ifCond .ne 14, 3) := by decide +kernel
theorem dxQ_chained_49 : decode cxQ_chained 49 = .ok (.aload_n 0, 1) := by decide +kernel
theorem dxQ_chained_50 : decode cxQ_chained 50 = .ok (.getfield 62, 3) := by decide +kernel
theorem dxQ_chained_53 : decode cxQ_chained 53 = .ok (.iload 4, 2) := by decide +kernel
theorem dxQ_chained_55 : decode cxQ_chained 55 = .ok (.iaload, 1) := by decide +kernel
theorem dxQ_chained_56 : decode cxQ_chained 56 = .ok (.i2l, 1) := by decide +kernel
theorem dxQ_chained_57 : decode cxQ_chained 57 = .ok (.goto 38, 3) := by decide +kernel
theorem dxQ_chained_60 : decode cxQ_chained 60 = .ok (.iload_n 3, 1) := by decide +kernel
theorem dxQ_chained_61 : decode cxQ_chained 61 = .ok (.iconst 1, 1) := by decide +kernel
theorem dxQ_chained_62 : decode cxQ_chained 62 = .ok (.if_icmp .ne 14, 3) := by decide +kernel
theorem dxQ_chained_65 : decode cxQ_chained 65 = .ok (.aload_n 0, 1) := by decide +kernel
theorem dxQ_chained_66 : decode cxQ_chained 66 = .ok (.getfield 65, 3) := by decide +kernel
theorem dxQ_chained_69 : decode cxQ_chained 69 = .ok (.iload 4, 2) := by decide +kernel
theorem dxQ_chained_71 : decode cxQ_chained 71 = .ok (.iaload, 1) := by decide +kernel
theorem dxQ_chained_72 : decode cxQ_chained 72 = .ok (.i2l, 1) := by decide +kernel
theorem dxQ_chained_73 : decode cxQ_chained 73 = .ok (.goto 22, 3) := by decide +kernel
theorem dxQ_chained_76 : decode cxQ_chained 76 = .ok (.iload_n 3, 1) := by decide +kernel
theorem dxQ_chained_77 : decode cxQ_chained 77 = .ok (.iconst 2, 1) := by decide +kernel
theorem dxQ_chained_78 : decode cxQ_chained 78 = .ok (.if_icmp .ne 14, 3) := by decide +kernel
theorem dxQ_chained_81 : decode cxQ_chained 81 = .ok (.aload_n 0, 1) := by decide +kernel
theorem dxQ_chained_82 : decode cxQ_chained 82 = .ok (.getfield 71, 3) := by decide +kernel
theorem dxQ_chained_85 : decode cxQ_chained 85 = .ok (.iload 4, 2) := by decide +kernel
theorem dxQ_chained_87 : decode cxQ_chained 87 = .ok (.iaload, 1) := by decide +kernel
theorem dxQ_chained_88 : decode cxQ_chained 88 = .ok (.i2l, 1) := by decide +kernel
theorem dxQ_chained_89 : decode cxQ_chained 89 = .ok (.goto 6, 3) := by decide +kernel
theorem dxQ_chained_92 : decode cxQ_chained 92 = .ok (.ldc2_w 286, 3) := by decide +kernel
theorem dxQ_chained_95 : decode cxQ_chained 95 = .ok (.lreturn, 1) := by decide +kernel
theorem dxQ_failure_0 : decode cxQ_failure 0 = .ok (.aload_n 0, 1) := by decide +kernel
theorem dxQ_failure_1 : decode cxQ_failure 1 = .ok (.aload_n 0, 1) := by decide +kernel
theorem dxQ_failure_2 : decode cxQ_failure 2 = .ok (.getfield 83, 3) := by decide +kernel
theorem dxQ_failure_5 : decode cxQ_failure 5 = .ok (.iload_n 1, 1) := by decide +kernel
theorem dxQ_failure_6 : decode cxQ_failure 6 = .ok (.iload_n 2, 1) := by decide +kernel
theorem dxQ_failure_7 : decode cxQ_failure 7 = .ok (.invokevirtual 288, 3) := by decide +kernel
theorem dxQ_failure_10 : decode cxQ_failure 10 = .ok (.lreturn, 1) := by decide +kernel
theorem dxQ_second_0 : decode cxQ_second 0 = .ok (.aload_n 0, 1) := by decide +kernel
theorem dxQ_second_1 : decode cxQ_second 1 = .ok (.aload_n 0, 1) := by decide +kernel
theorem dxQ_second_2 : decode cxQ_second 2 = .ok (.getfield 86, 3) := by decide +kernel
theorem dxQ_second_5 : decode cxQ_second 5 = .ok (.iload_n 1, 1) := by decide +kernel
theorem dxQ_second_6 : decode cxQ_second 6 = .ok (.iload_n 2, 1) := by decide +kernel
theorem dxQ_second_7 : decode cxQ_second 7 = .ok (.invokevirtual 288, 3) := by decide +kernel
theorem dxQ_second_10 : decode cxQ_second 10 = .ok (.lreturn, 1) := by decide +kernel
theorem dxQ_report_0 : decode cxQ_report 0 = .ok (.iload_n 1, 1) := by decide +kernel
theorem dxQ_report_1 : decode cxQ_report 1 = .ok (.iconst (-1), 1) := by decide +kernel
theorem dxQ_report_2 : decode cxQ_report 2 = .ok (.if_icmp .ne 8, 3) := by decide +kernel
theorem dxQ_report_5 : decode cxQ_report 5 = .ok (.aload_n 0, 1) := by decide +kernel
theorem dxQ_report_6 : decode cxQ_report 6 = .ok (.getfield 245, 3) := by decide +kernel
theorem dxQ_report_9 : decode cxQ_report 9 = .ok (.ireturn, 1) := by decide +kernel
theorem dxQ_report_10 : decode cxQ_report 10 = .ok (.iload_n 1, 1) := by decide +kernel
theorem dxQ_report_11 : decode cxQ_report 11 = .ok (.ifCond .lt 11, 3) := by decide +kernel
theorem dxQ_report_14 : decode cxQ_report 14 = .ok (.iload_n 1, 1) := by decide +kernel
theorem dxQ_report_15 : decode cxQ_report 15 = .ok (.aload_n 0, 1) := by decide +kernel
theorem dxQ_report_16 : decode cxQ_report 16 = .ok (.getfield 245, 3) := by decide +kernel
theorem dxQ_report_19 : decode cxQ_report 19 = .ok (.if_icmp .lt 7, 3) := by decide +kernel
theorem dxQ_report_22 : decode cxQ_report 22 = .ok (.iconst (-1), 1) := by decide +kernel
theorem dxQ_report_23 : decode cxQ_report 23 = .ok (.goto 9, 3) := by decide +kernel
theorem dxQ_report_26 : decode cxQ_report 26 = .ok (.aload_n 0, 1) := by decide +kernel
theorem dxQ_report_27 : decode cxQ_report 27 = .ok (.getfield 107, 3) := by decide +kernel
theorem dxQ_report_30 : decode cxQ_report 30 = .ok (.iload_n 1, 1) := by decide +kernel
theorem dxQ_report_31 : decode cxQ_report 31 = .ok (.iaload, 1) := by decide +kernel
theorem dxQ_report_32 : decode cxQ_report 32 = .ok (.ireturn, 1) := by decide +kernel
theorem dxQ_count_0 : decode cxQ_count 0 = .ok (.iload_n 1, 1) := by decide +kernel
theorem dxQ_count_1 : decode cxQ_count 1 = .ok (.tableswitch 105 0 9 #[55, 60, 65, 70, 75, 80, 85, 90, 95, 95], 55) := by decide +kernel
theorem dxQ_count_56 : decode cxQ_count 56 = .ok (.aload_n 0, 1) := by decide +kernel
theorem dxQ_count_57 : decode cxQ_count 57 = .ok (.getfield 37, 3) := by decide +kernel
theorem dxQ_count_60 : decode cxQ_count 60 = .ok (.ireturn, 1) := by decide +kernel
theorem dxQ_count_61 : decode cxQ_count 61 = .ok (.aload_n 0, 1) := by decide +kernel
theorem dxQ_count_62 : decode cxQ_count 62 = .ok (.getfield 117, 3) := by decide +kernel
theorem dxQ_count_65 : decode cxQ_count 65 = .ok (.ireturn, 1) := by decide +kernel
theorem dxQ_count_66 : decode cxQ_count 66 = .ok (.aload_n 0, 1) := by decide +kernel
theorem dxQ_count_67 : decode cxQ_count 67 = .ok (.getfield 135, 3) := by decide +kernel
theorem dxQ_count_70 : decode cxQ_count 70 = .ok (.ireturn, 1) := by decide +kernel
theorem dxQ_count_71 : decode cxQ_count 71 = .ok (.aload_n 0, 1) := by decide +kernel
theorem dxQ_count_72 : decode cxQ_count 72 = .ok (.getfield 154, 3) := by decide +kernel
theorem dxQ_count_75 : decode cxQ_count 75 = .ok (.ireturn, 1) := by decide +kernel
theorem dxQ_count_76 : decode cxQ_count 76 = .ok (.aload_n 0, 1) := by decide +kernel
theorem dxQ_count_77 : decode cxQ_count 77 = .ok (.getfield 221, 3) := by decide +kernel
theorem dxQ_count_80 : decode cxQ_count 80 = .ok (.ireturn, 1) := by decide +kernel
theorem dxQ_count_81 : decode cxQ_count 81 = .ok (.aload_n 0, 1) := by decide +kernel
theorem dxQ_count_82 : decode cxQ_count 82 = .ok (.getfield 224, 3) := by decide +kernel
theorem dxQ_count_85 : decode cxQ_count 85 = .ok (.ireturn, 1) := by decide +kernel
theorem dxQ_count_86 : decode cxQ_count 86 = .ok (.aload_n 0, 1) := by decide +kernel
theorem dxQ_count_87 : decode cxQ_count 87 = .ok (.getfield 218, 3) := by decide +kernel
theorem dxQ_count_90 : decode cxQ_count 90 = .ok (.ireturn, 1) := by decide +kernel
theorem dxQ_count_91 : decode cxQ_count 91 = .ok (.aload_n 0, 1) := by decide +kernel
theorem dxQ_count_92 : decode cxQ_count 92 = .ok (.getfield 161, 3) := by decide +kernel
theorem dxQ_count_95 : decode cxQ_count 95 = .ok (.ireturn, 1) := by decide +kernel
theorem dxQ_count_96 : decode cxQ_count 96 = .ok (.aload_n 0, 1) := by decide +kernel
theorem dxQ_count_97 : decode cxQ_count 97 = .ok (.getfield 77, 3) := by decide +kernel
theorem dxQ_count_100 : decode cxQ_count 100 = .ok (.iload_n 1, 1) := by decide +kernel
theorem dxQ_count_101 : decode cxQ_count 101 = .ok (.bipush 8, 2) := by decide +kernel
theorem dxQ_count_103 : decode cxQ_count 103 = .ok (.isub, 1) := by decide +kernel
theorem dxQ_count_104 : decode cxQ_count 104 = .ok (.iaload, 1) := by decide +kernel
theorem dxQ_count_105 : decode cxQ_count 105 = .ok (.ireturn, 1) := by decide +kernel
theorem dxQ_count_106 : decode cxQ_count 106 = .ok (.iconst (-1), 1) := by decide +kernel
theorem dxQ_count_107 : decode cxQ_count 107 = .ok (.ireturn, 1) := by decide +kernel
