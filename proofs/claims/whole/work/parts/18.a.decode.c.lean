theorem dxT_init_0 : decode cxT_init 0 = .ok (.aload_n 0, 1) := by decide +kernel
theorem dxT_init_1 : decode cxT_init 1 = .ok (.invokespecial 1, 3) := by decide +kernel
theorem dxT_init_4 : decode cxT_init 4 = .ok (.aload_n 0, 1) := by decide +kernel
theorem dxT_init_5 : decode cxT_init 5 = .ok (.new 7, 3) := by decide +kernel
theorem dxT_init_8 : decode cxT_init 8 = .ok (.dup, 1) := by decide +kernel
theorem dxT_init_9 : decode cxT_init 9 = .ok (.invokespecial 9, 3) := by decide +kernel
theorem dxT_init_12 : decode cxT_init 12 = .ok (.putfield 10, 3) := by decide +kernel
theorem dxT_init_15 : decode cxT_init 15 = .ok (.aload_n 0, 1) := by decide +kernel
theorem dxT_init_16 : decode cxT_init 16 = .ok (.new 16, 3) := by decide +kernel
theorem dxT_init_19 : decode cxT_init 19 = .ok (.dup, 1) := by decide +kernel
theorem dxT_init_20 : decode cxT_init 20 = .ok (.aload_n 0, 1) := by decide +kernel
theorem dxT_init_21 : decode cxT_init 21 = .ok (.getfield 10, 3) := by decide +kernel
theorem dxT_init_24 : decode cxT_init 24 = .ok (.invokespecial 18, 3) := by decide +kernel
theorem dxT_init_27 : decode cxT_init 27 = .ok (.putfield 21, 3) := by decide +kernel
theorem dxT_init_30 : decode cxT_init 30 = .ok (.aload_n 0, 1) := by decide +kernel
theorem dxT_init_31 : decode cxT_init 31 = .ok (.new 25, 3) := by decide +kernel
theorem dxT_init_34 : decode cxT_init 34 = .ok (.dup, 1) := by decide +kernel
theorem dxT_init_35 : decode cxT_init 35 = .ok (.invokespecial 27, 3) := by decide +kernel
theorem dxT_init_38 : decode cxT_init 38 = .ok (.putfield 28, 3) := by decide +kernel
theorem dxT_init_41 : decode cxT_init 41 = .ok (.aload_n 0, 1) := by decide +kernel
theorem dxT_init_42 : decode cxT_init 42 = .ok (.iconst (-1), 1) := by decide +kernel
theorem dxT_init_43 : decode cxT_init 43 = .ok (.putfield 32, 3) := by decide +kernel
theorem dxT_init_46 : decode cxT_init 46 = .ok (.aload_n 0, 1) := by decide +kernel
theorem dxT_init_47 : decode cxT_init 47 = .ok (.ldc2_w 36, 3) := by decide +kernel
theorem dxT_init_50 : decode cxT_init 50 = .ok (.putfield 38, 3) := by decide +kernel
theorem dxT_init_53 : decode cxT_init 53 = .ok (.aload_n 0, 1) := by decide +kernel
theorem dxT_init_54 : decode cxT_init 54 = .ok (.new 42, 3) := by decide +kernel
theorem dxT_init_57 : decode cxT_init 57 = .ok (.dup, 1) := by decide +kernel
theorem dxT_init_58 : decode cxT_init 58 = .ok (.aload_n 0, 1) := by decide +kernel
theorem dxT_init_59 : decode cxT_init 59 = .ok (.getfield 21, 3) := by decide +kernel
theorem dxT_init_62 : decode cxT_init 62 = .ok (.aload_n 0, 1) := by decide +kernel
theorem dxT_init_63 : decode cxT_init 63 = .ok (.getfield 10, 3) := by decide +kernel
theorem dxT_init_66 : decode cxT_init 66 = .ok (.iconst 1, 1) := by decide +kernel
theorem dxT_init_67 : decode cxT_init 67 = .ok (.bipush 12, 2) := by decide +kernel
theorem dxT_init_69 : decode cxT_init 69 = .ok (.iload_n 1, 1) := by decide +kernel
theorem dxT_init_70 : decode cxT_init 70 = .ok (.invokestatic 44, 3) := by decide +kernel
theorem dxT_init_73 : decode cxT_init 73 = .ok (.invokestatic 50, 3) := by decide +kernel
theorem dxT_init_76 : decode cxT_init 76 = .ok (.invokespecial 53, 3) := by decide +kernel
theorem dxT_init_79 : decode cxT_init 79 = .ok (.putfield 56, 3) := by decide +kernel
theorem dxT_init_82 : decode cxT_init 82 = .ok (.return_, 1) := by decide +kernel
theorem dxQ_init_0 : decode cxQ_init 0 = .ok (.aload_n 0, 1) := by decide +kernel
theorem dxQ_init_1 : decode cxQ_init 1 = .ok (.invokespecial 1, 3) := by decide +kernel
theorem dxQ_init_4 : decode cxQ_init 4 = .ok (.aload_n 0, 1) := by decide +kernel
theorem dxQ_init_5 : decode cxQ_init 5 = .ok (.bipush 10, 2) := by decide +kernel
theorem dxQ_init_7 : decode cxQ_init 7 = .ok (.newarray .long, 2) := by decide +kernel
theorem dxQ_init_9 : decode cxQ_init 9 = .ok (.dup, 1) := by decide +kernel
theorem dxQ_init_10 : decode cxQ_init 10 = .ok (.iconst 0, 1) := by decide +kernel
theorem dxQ_init_11 : decode cxQ_init 11 = .ok (.ldc2_w 7, 3) := by decide +kernel
theorem dxQ_init_14 : decode cxQ_init 14 = .ok (.lastore, 1) := by decide +kernel
theorem dxQ_init_15 : decode cxQ_init 15 = .ok (.dup, 1) := by decide +kernel
theorem dxQ_init_16 : decode cxQ_init 16 = .ok (.iconst 1, 1) := by decide +kernel
theorem dxQ_init_17 : decode cxQ_init 17 = .ok (.ldc2_w 9, 3) := by decide +kernel
theorem dxQ_init_20 : decode cxQ_init 20 = .ok (.lastore, 1) := by decide +kernel
theorem dxQ_init_21 : decode cxQ_init 21 = .ok (.dup, 1) := by decide +kernel
theorem dxQ_init_22 : decode cxQ_init 22 = .ok (.iconst 2, 1) := by decide +kernel
theorem dxQ_init_23 : decode cxQ_init 23 = .ok (.ldc2_w 11, 3) := by decide +kernel
theorem dxQ_init_26 : decode cxQ_init 26 = .ok (.lastore, 1) := by decide +kernel
theorem dxQ_init_27 : decode cxQ_init 27 = .ok (.dup, 1) := by decide +kernel
theorem dxQ_init_28 : decode cxQ_init 28 = .ok (.iconst 3, 1) := by decide +kernel
theorem dxQ_init_29 : decode cxQ_init 29 = .ok (.ldc2_w 13, 3) := by decide +kernel
theorem dxQ_init_32 : decode cxQ_init 32 = .ok (.lastore, 1) := by decide +kernel
theorem dxQ_init_33 : decode cxQ_init 33 = .ok (.dup, 1) := by decide +kernel
theorem dxQ_init_34 : decode cxQ_init 34 = .ok (.iconst 4, 1) := by decide +kernel
theorem dxQ_init_35 : decode cxQ_init 35 = .ok (.ldc2_w 15, 3) := by decide +kernel
theorem dxQ_init_38 : decode cxQ_init 38 = .ok (.lastore, 1) := by decide +kernel
theorem dxQ_init_39 : decode cxQ_init 39 = .ok (.dup, 1) := by decide +kernel
theorem dxQ_init_40 : decode cxQ_init 40 = .ok (.iconst 5, 1) := by decide +kernel
theorem dxQ_init_41 : decode cxQ_init 41 = .ok (.ldc2_w 17, 3) := by decide +kernel
theorem dxQ_init_44 : decode cxQ_init 44 = .ok (.lastore, 1) := by decide +kernel
theorem dxQ_init_45 : decode cxQ_init 45 = .ok (.dup, 1) := by decide +kernel
theorem dxQ_init_46 : decode cxQ_init 46 = .ok (.bipush 6, 2) := by decide +kernel
theorem dxQ_init_48 : decode cxQ_init 48 = .ok (.ldc2_w 19, 3) := by decide +kernel
theorem dxQ_init_51 : decode cxQ_init 51 = .ok (.lastore, 1) := by decide +kernel
theorem dxQ_init_52 : decode cxQ_init 52 = .ok (.dup, 1) := by decide +kernel
theorem dxQ_init_53 : decode cxQ_init 53 = .ok (.bipush 7, 2) := by decide +kernel
theorem dxQ_init_55 : decode cxQ_init 55 = .ok (.ldc2_w 21, 3) := by decide +kernel
theorem dxQ_init_58 : decode cxQ_init 58 = .ok (.lastore, 1) := by decide +kernel
theorem dxQ_init_59 : decode cxQ_init 59 = .ok (.dup, 1) := by decide +kernel
theorem dxQ_init_60 : decode cxQ_init 60 = .ok (.bipush 8, 2) := by decide +kernel
theorem dxQ_init_62 : decode cxQ_init 62 = .ok (.ldc2_w 23, 3) := by decide +kernel
theorem dxQ_init_65 : decode cxQ_init 65 = .ok (.lastore, 1) := by decide +kernel
theorem dxQ_init_66 : decode cxQ_init 66 = .ok (.dup, 1) := by decide +kernel
theorem dxQ_init_67 : decode cxQ_init 67 = .ok (.bipush 9, 2) := by decide +kernel
theorem dxQ_init_69 : decode cxQ_init 69 = .ok (.ldc2_w 25, 3) := by decide +kernel
theorem dxQ_init_72 : decode cxQ_init 72 = .ok (.lastore, 1) := by decide +kernel
theorem dxQ_init_73 : decode cxQ_init 73 = .ok (.putfield 27, 3) := by decide +kernel
theorem dxQ_init_76 : decode cxQ_init 76 = .ok (.aload_n 0, 1) := by decide +kernel
theorem dxQ_init_77 : decode cxQ_init 77 = .ok (.bipush 16, 2) := by decide +kernel
theorem dxQ_init_79 : decode cxQ_init 79 = .ok (.newarray .int, 2) := by decide +kernel
theorem dxQ_init_81 : decode cxQ_init 81 = .ok (.dup, 1) := by decide +kernel
theorem dxQ_init_82 : decode cxQ_init 82 = .ok (.iconst 0, 1) := by decide +kernel
theorem dxQ_init_83 : decode cxQ_init 83 = .ok (.iconst (-1), 1) := by decide +kernel
theorem dxQ_init_84 : decode cxQ_init 84 = .ok (.iastore, 1) := by decide +kernel
theorem dxQ_init_85 : decode cxQ_init 85 = .ok (.dup, 1) := by decide +kernel
theorem dxQ_init_86 : decode cxQ_init 86 = .ok (.iconst 1, 1) := by decide +kernel
theorem dxQ_init_87 : decode cxQ_init 87 = .ok (.bipush 7, 2) := by decide +kernel
theorem dxQ_init_89 : decode cxQ_init 89 = .ok (.iastore, 1) := by decide +kernel
theorem dxQ_init_90 : decode cxQ_init 90 = .ok (.dup, 1) := by decide +kernel
theorem dxQ_init_91 : decode cxQ_init 91 = .ok (.iconst 2, 1) := by decide +kernel
theorem dxQ_init_92 : decode cxQ_init 92 = .ok (.bipush 7, 2) := by decide +kernel
theorem dxQ_init_94 : decode cxQ_init 94 = .ok (.iastore, 1) := by decide +kernel
theorem dxQ_init_95 : decode cxQ_init 95 = .ok (.dup, 1) := by decide +kernel
theorem dxQ_init_96 : decode cxQ_init 96 = .ok (.iconst 3, 1) := by decide +kernel
theorem dxQ_init_97 : decode cxQ_init 97 = .ok (.bipush 7, 2) := by decide +kernel
theorem dxQ_init_99 : decode cxQ_init 99 = .ok (.iastore, 1) := by decide +kernel
theorem dxQ_init_100 : decode cxQ_init 100 = .ok (.dup, 1) := by decide +kernel
theorem dxQ_init_101 : decode cxQ_init 101 = .ok (.iconst 4, 1) := by decide +kernel
theorem dxQ_init_102 : decode cxQ_init 102 = .ok (.bipush 7, 2) := by decide +kernel
theorem dxQ_init_104 : decode cxQ_init 104 = .ok (.iastore, 1) := by decide +kernel
theorem dxQ_init_105 : decode cxQ_init 105 = .ok (.dup, 1) := by decide +kernel
theorem dxQ_init_106 : decode cxQ_init 106 = .ok (.iconst 5, 1) := by decide +kernel
theorem dxQ_init_107 : decode cxQ_init 107 = .ok (.bipush 8, 2) := by decide +kernel
theorem dxQ_init_109 : decode cxQ_init 109 = .ok (.iastore, 1) := by decide +kernel
theorem dxQ_init_110 : decode cxQ_init 110 = .ok (.dup, 1) := by decide +kernel
theorem dxQ_init_111 : decode cxQ_init 111 = .ok (.bipush 6, 2) := by decide +kernel
theorem dxQ_init_113 : decode cxQ_init 113 = .ok (.bipush 7, 2) := by decide +kernel
theorem dxQ_init_115 : decode cxQ_init 115 = .ok (.iastore, 1) := by decide +kernel
theorem dxQ_init_116 : decode cxQ_init 116 = .ok (.dup, 1) := by decide +kernel
theorem dxQ_init_117 : decode cxQ_init 117 = .ok (.bipush 7, 2) := by decide +kernel
theorem dxQ_init_119 : decode cxQ_init 119 = .ok (.bipush 9, 2) := by decide +kernel
theorem dxQ_init_121 : decode cxQ_init 121 = .ok (.iastore, 1) := by decide +kernel
theorem dxQ_init_122 : decode cxQ_init 122 = .ok (.dup, 1) := by decide +kernel
theorem dxQ_init_123 : decode cxQ_init 123 = .ok (.bipush 8, 2) := by decide +kernel
theorem dxQ_init_125 : decode cxQ_init 125 = .ok (.iconst 0, 1) := by decide +kernel
theorem dxQ_init_126 : decode cxQ_init 126 = .ok (.iastore, 1) := by decide +kernel
theorem dxQ_init_127 : decode cxQ_init 127 = .ok (.dup, 1) := by decide +kernel
theorem dxQ_init_128 : decode cxQ_init 128 = .ok (.bipush 9, 2) := by decide +kernel
theorem dxQ_init_130 : decode cxQ_init 130 = .ok (.iconst 0, 1) := by decide +kernel
theorem dxQ_init_131 : decode cxQ_init 131 = .ok (.iastore, 1) := by decide +kernel
theorem dxQ_init_132 : decode cxQ_init 132 = .ok (.dup, 1) := by decide +kernel
theorem dxQ_init_133 : decode cxQ_init 133 = .ok (.bipush 10, 2) := by decide +kernel
theorem dxQ_init_135 : decode cxQ_init 135 = .ok (.iconst 0, 1) := by decide +kernel
theorem dxQ_init_136 : decode cxQ_init 136 = .ok (.iastore, 1) := by decide +kernel
theorem dxQ_init_137 : decode cxQ_init 137 = .ok (.dup, 1) := by decide +kernel
theorem dxQ_init_138 : decode cxQ_init 138 = .ok (.bipush 11, 2) := by decide +kernel
theorem dxQ_init_140 : decode cxQ_init 140 = .ok (.iconst 0, 1) := by decide +kernel
theorem dxQ_init_141 : decode cxQ_init 141 = .ok (.iastore, 1) := by decide +kernel
theorem dxQ_init_142 : decode cxQ_init 142 = .ok (.dup, 1) := by decide +kernel
theorem dxQ_init_143 : decode cxQ_init 143 = .ok (.bipush 12, 2) := by decide +kernel
theorem dxQ_init_145 : decode cxQ_init 145 = .ok (.iconst 0, 1) := by decide +kernel
theorem dxQ_init_146 : decode cxQ_init 146 = .ok (.iastore, 1) := by decide +kernel
theorem dxQ_init_147 : decode cxQ_init 147 = .ok (.dup, 1) := by decide +kernel
theorem dxQ_init_148 : decode cxQ_init 148 = .ok (.bipush 13, 2) := by decide +kernel
theorem dxQ_init_150 : decode cxQ_init 150 = .ok (.iconst 0, 1) := by decide +kernel
theorem dxQ_init_151 : decode cxQ_init 151 = .ok (.iastore, 1) := by decide +kernel
theorem dxQ_init_152 : decode cxQ_init 152 = .ok (.dup, 1) := by decide +kernel
theorem dxQ_init_153 : decode cxQ_init 153 = .ok (.bipush 14, 2) := by decide +kernel
theorem dxQ_init_155 : decode cxQ_init 155 = .ok (.iconst 0, 1) := by decide +kernel
theorem dxQ_init_156 : decode cxQ_init 156 = .ok (.iastore, 1) := by decide +kernel
theorem dxQ_init_157 : decode cxQ_init 157 = .ok (.dup, 1) := by decide +kernel
theorem dxQ_init_158 : decode cxQ_init 158 = .ok (.bipush 15, 2) := by decide +kernel
theorem dxQ_init_160 : decode cxQ_init 160 = .ok (.iconst 0, 1) := by decide +kernel
theorem dxQ_init_161 : decode cxQ_init 161 = .ok (.iastore, 1) := by decide +kernel
theorem dxQ_init_162 : decode cxQ_init 162 = .ok (.putfield 33, 3) := by decide +kernel
theorem dxQ_init_165 : decode cxQ_init 165 = .ok (.aload_n 0, 1) := by decide +kernel
theorem dxQ_init_166 : decode cxQ_init 166 = .ok (.bipush 10, 2) := by decide +kernel
theorem dxQ_init_168 : decode cxQ_init 168 = .ok (.putfield 37, 3) := by decide +kernel
theorem dxQ_init_171 : decode cxQ_init 171 = .ok (.aload_n 0, 1) := by decide +kernel
theorem dxQ_init_172 : decode cxQ_init 172 = .ok (.bipush 64, 2) := by decide +kernel
theorem dxQ_init_174 : decode cxQ_init 174 = .ok (.newarray .int, 2) := by decide +kernel
theorem dxQ_init_176 : decode cxQ_init 176 = .ok (.putfield 41, 3) := by decide +kernel
theorem dxQ_init_179 : decode cxQ_init 179 = .ok (.aload_n 0, 1) := by decide +kernel
theorem dxQ_init_180 : decode cxQ_init 180 = .ok (.bipush 64, 2) := by decide +kernel
theorem dxQ_init_182 : decode cxQ_init 182 = .ok (.newarray .int, 2) := by decide +kernel
theorem dxQ_init_184 : decode cxQ_init 184 = .ok (.putfield 44, 3) := by decide +kernel
theorem dxQ_init_187 : decode cxQ_init 187 = .ok (.aload_n 0, 1) := by decide +kernel
theorem dxQ_init_188 : decode cxQ_init 188 = .ok (.bipush 64, 2) := by decide +kernel
theorem dxQ_init_190 : decode cxQ_init 190 = .ok (.newarray .int, 2) := by decide +kernel
theorem dxQ_init_192 : decode cxQ_init 192 = .ok (.putfield 47, 3) := by decide +kernel
theorem dxQ_init_195 : decode cxQ_init 195 = .ok (.aload_n 0, 1) := by decide +kernel
theorem dxQ_init_196 : decode cxQ_init 196 = .ok (.bipush 64, 2) := by decide +kernel
theorem dxQ_init_198 : decode cxQ_init 198 = .ok (.newarray .int, 2) := by decide +kernel
theorem dxQ_init_200 : decode cxQ_init 200 = .ok (.putfield 50, 3) := by decide +kernel
theorem dxQ_init_203 : decode cxQ_init 203 = .ok (.aload_n 0, 1) := by decide +kernel
theorem dxQ_init_204 : decode cxQ_init 204 = .ok (.bipush 64, 2) := by decide +kernel
theorem dxQ_init_206 : decode cxQ_init 206 = .ok (.newarray .int, 2) := by decide +kernel
theorem dxQ_init_208 : decode cxQ_init 208 = .ok (.putfield 53, 3) := by decide +kernel
theorem dxQ_init_211 : decode cxQ_init 211 = .ok (.aload_n 0, 1) := by decide +kernel
theorem dxQ_init_212 : decode cxQ_init 212 = .ok (.bipush 6, 2) := by decide +kernel
theorem dxQ_init_214 : decode cxQ_init 214 = .ok (.newarray .int, 2) := by decide +kernel
theorem dxQ_init_216 : decode cxQ_init 216 = .ok (.dup, 1) := by decide +kernel
theorem dxQ_init_217 : decode cxQ_init 217 = .ok (.iconst 0, 1) := by decide +kernel
theorem dxQ_init_218 : decode cxQ_init 218 = .ok (.iconst (-1), 1) := by decide +kernel
theorem dxQ_init_219 : decode cxQ_init 219 = .ok (.iastore, 1) := by decide +kernel
theorem dxQ_init_220 : decode cxQ_init 220 = .ok (.dup, 1) := by decide +kernel
theorem dxQ_init_221 : decode cxQ_init 221 = .ok (.iconst 1, 1) := by decide +kernel
theorem dxQ_init_222 : decode cxQ_init 222 = .ok (.iconst (-1), 1) := by decide +kernel
theorem dxQ_init_223 : decode cxQ_init 223 = .ok (.iastore, 1) := by decide +kernel
theorem dxQ_init_224 : decode cxQ_init 224 = .ok (.dup, 1) := by decide +kernel
theorem dxQ_init_225 : decode cxQ_init 225 = .ok (.iconst 2, 1) := by decide +kernel
theorem dxQ_init_226 : decode cxQ_init 226 = .ok (.iconst (-1), 1) := by decide +kernel
theorem dxQ_init_227 : decode cxQ_init 227 = .ok (.iastore, 1) := by decide +kernel
theorem dxQ_init_228 : decode cxQ_init 228 = .ok (.dup, 1) := by decide +kernel
theorem dxQ_init_229 : decode cxQ_init 229 = .ok (.iconst 3, 1) := by decide +kernel
theorem dxQ_init_230 : decode cxQ_init 230 = .ok (.iconst (-1), 1) := by decide +kernel
theorem dxQ_init_231 : decode cxQ_init 231 = .ok (.iastore, 1) := by decide +kernel
theorem dxQ_init_232 : decode cxQ_init 232 = .ok (.dup, 1) := by decide +kernel
theorem dxQ_init_233 : decode cxQ_init 233 = .ok (.iconst 4, 1) := by decide +kernel
theorem dxQ_init_234 : decode cxQ_init 234 = .ok (.iconst (-1), 1) := by decide +kernel
theorem dxQ_init_235 : decode cxQ_init 235 = .ok (.iastore, 1) := by decide +kernel
theorem dxQ_init_236 : decode cxQ_init 236 = .ok (.dup, 1) := by decide +kernel
theorem dxQ_init_237 : decode cxQ_init 237 = .ok (.iconst 5, 1) := by decide +kernel
theorem dxQ_init_238 : decode cxQ_init 238 = .ok (.iconst (-1), 1) := by decide +kernel
theorem dxQ_init_239 : decode cxQ_init 239 = .ok (.iastore, 1) := by decide +kernel
theorem dxQ_init_240 : decode cxQ_init 240 = .ok (.putfield 56, 3) := by decide +kernel
theorem dxQ_init_243 : decode cxQ_init 243 = .ok (.aload_n 0, 1) := by decide +kernel
theorem dxQ_init_244 : decode cxQ_init 244 = .ok (.iconst (-1), 1) := by decide +kernel
theorem dxQ_init_245 : decode cxQ_init 245 = .ok (.putfield 59, 3) := by decide +kernel
theorem dxQ_init_248 : decode cxQ_init 248 = .ok (.aload_n 0, 1) := by decide +kernel
theorem dxQ_init_249 : decode cxQ_init 249 = .ok (.sipush 302, 3) := by decide +kernel
theorem dxQ_init_252 : decode cxQ_init 252 = .ok (.newarray .int, 2) := by decide +kernel
theorem dxQ_init_254 : decode cxQ_init 254 = .ok (.putfield 62, 3) := by decide +kernel
theorem dxQ_init_257 : decode cxQ_init 257 = .ok (.aload_n 0, 1) := by decide +kernel
theorem dxQ_init_258 : decode cxQ_init 258 = .ok (.sipush 302, 3) := by decide +kernel
theorem dxQ_init_261 : decode cxQ_init 261 = .ok (.newarray .int, 2) := by decide +kernel
theorem dxQ_init_263 : decode cxQ_init 263 = .ok (.putfield 65, 3) := by decide +kernel
theorem dxQ_init_266 : decode cxQ_init 266 = .ok (.aload_n 0, 1) := by decide +kernel
theorem dxQ_init_267 : decode cxQ_init 267 = .ok (.sipush 302, 3) := by decide +kernel
theorem dxQ_init_270 : decode cxQ_init 270 = .ok (.newarray .int, 2) := by decide +kernel
theorem dxQ_init_272 : decode cxQ_init 272 = .ok (.putfield 68, 3) := by decide +kernel
theorem dxQ_init_275 : decode cxQ_init 275 = .ok (.aload_n 0, 1) := by decide +kernel
theorem dxQ_init_276 : decode cxQ_init 276 = .ok (.sipush 302, 3) := by decide +kernel
theorem dxQ_init_279 : decode cxQ_init 279 = .ok (.newarray .int, 2) := by decide +kernel
theorem dxQ_init_281 : decode cxQ_init 281 = .ok (.putfield 71, 3) := by decide +kernel
theorem dxQ_init_284 : decode cxQ_init 284 = .ok (.aload_n 0, 1) := by decide +kernel
theorem dxQ_init_285 : decode cxQ_init 285 = .ok (.iconst 4, 1) := by decide +kernel
theorem dxQ_init_286 : decode cxQ_init 286 = .ok (.newarray .int, 2) := by decide +kernel
theorem dxQ_init_288 : decode cxQ_init 288 = .ok (.putfield 74, 3) := by decide +kernel
theorem dxQ_init_291 : decode cxQ_init 291 = .ok (.aload_n 0, 1) := by decide +kernel
theorem dxQ_init_292 : decode cxQ_init 292 = .ok (.iconst 2, 1) := by decide +kernel
theorem dxQ_init_293 : decode cxQ_init 293 = .ok (.newarray .int, 2) := by decide +kernel
theorem dxQ_init_295 : decode cxQ_init 295 = .ok (.putfield 77, 3) := by decide +kernel
theorem dxQ_init_298 : decode cxQ_init 298 = .ok (.aload_n 0, 1) := by decide +kernel
theorem dxQ_init_299 : decode cxQ_init 299 = .ok (.sipush 302, 3) := by decide +kernel
theorem dxQ_init_302 : decode cxQ_init 302 = .ok (.newarray .int, 2) := by decide +kernel
theorem dxQ_init_304 : decode cxQ_init 304 = .ok (.putfield 80, 3) := by decide +kernel
theorem dxQ_init_307 : decode cxQ_init 307 = .ok (.aload_n 0, 1) := by decide +kernel
theorem dxQ_init_308 : decode cxQ_init 308 = .ok (.iconst (-1), 1) := by decide +kernel
theorem dxQ_init_309 : decode cxQ_init 309 = .ok (.putfield 83, 3) := by decide +kernel
theorem dxQ_init_312 : decode cxQ_init 312 = .ok (.aload_n 0, 1) := by decide +kernel
theorem dxQ_init_313 : decode cxQ_init 313 = .ok (.iconst (-1), 1) := by decide +kernel
theorem dxQ_init_314 : decode cxQ_init 314 = .ok (.putfield 86, 3) := by decide +kernel
theorem dxQ_init_317 : decode cxQ_init 317 = .ok (.aload_n 0, 1) := by decide +kernel
theorem dxQ_init_318 : decode cxQ_init 318 = .ok (.bipush 112, 2) := by decide +kernel
theorem dxQ_init_320 : decode cxQ_init 320 = .ok (.newarray .int, 2) := by decide +kernel
theorem dxQ_init_322 : decode cxQ_init 322 = .ok (.putfield 89, 3) := by decide +kernel
theorem dxQ_init_325 : decode cxQ_init 325 = .ok (.aload_n 0, 1) := by decide +kernel
theorem dxQ_init_326 : decode cxQ_init 326 = .ok (.bipush 112, 2) := by decide +kernel
theorem dxQ_init_328 : decode cxQ_init 328 = .ok (.newarray .int, 2) := by decide +kernel
theorem dxQ_init_330 : decode cxQ_init 330 = .ok (.putfield 92, 3) := by decide +kernel
theorem dxQ_init_333 : decode cxQ_init 333 = .ok (.aload_n 0, 1) := by decide +kernel
theorem dxQ_init_334 : decode cxQ_init 334 = .ok (.bipush 112, 2) := by decide +kernel
theorem dxQ_init_336 : decode cxQ_init 336 = .ok (.newarray .int, 2) := by decide +kernel
theorem dxQ_init_338 : decode cxQ_init 338 = .ok (.putfield 95, 3) := by decide +kernel
theorem dxQ_init_341 : decode cxQ_init 341 = .ok (.aload_n 0, 1) := by decide +kernel
theorem dxQ_init_342 : decode cxQ_init 342 = .ok (.bipush 112, 2) := by decide +kernel
theorem dxQ_init_344 : decode cxQ_init 344 = .ok (.newarray .int, 2) := by decide +kernel
theorem dxQ_init_346 : decode cxQ_init 346 = .ok (.putfield 98, 3) := by decide +kernel
theorem dxQ_init_349 : decode cxQ_init 349 = .ok (.aload_n 0, 1) := by decide +kernel
theorem dxQ_init_350 : decode cxQ_init 350 = .ok (.bipush 112, 2) := by decide +kernel
theorem dxQ_init_352 : decode cxQ_init 352 = .ok (.newarray .int, 2) := by decide +kernel
theorem dxQ_init_354 : decode cxQ_init 354 = .ok (.putfield 101, 3) := by decide +kernel
theorem dxQ_init_357 : decode cxQ_init 357 = .ok (.aload_n 0, 1) := by decide +kernel
theorem dxQ_init_358 : decode cxQ_init 358 = .ok (.bipush 112, 2) := by decide +kernel
theorem dxQ_init_360 : decode cxQ_init 360 = .ok (.newarray .int, 2) := by decide +kernel
theorem dxQ_init_362 : decode cxQ_init 362 = .ok (.putfield 104, 3) := by decide +kernel
theorem dxQ_init_365 : decode cxQ_init 365 = .ok (.aload_n 0, 1) := by decide +kernel
theorem dxQ_init_366 : decode cxQ_init 366 = .ok (.sipush 400, 3) := by decide +kernel
theorem dxQ_init_369 : decode cxQ_init 369 = .ok (.newarray .int, 2) := by decide +kernel
theorem dxQ_init_371 : decode cxQ_init 371 = .ok (.putfield 107, 3) := by decide +kernel
theorem dxQ_init_374 : decode cxQ_init 374 = .ok (.aload_n 0, 1) := by decide +kernel
theorem dxQ_init_375 : decode cxQ_init 375 = .ok (.iload_n 1, 1) := by decide +kernel
theorem dxQ_init_376 : decode cxQ_init 376 = .ok (.iconst 1, 1) := by decide +kernel
theorem dxQ_init_377 : decode cxQ_init 377 = .ok (.if_icmp .ge 7, 3) := by decide +kernel
theorem dxQ_init_380 : decode cxQ_init 380 = .ok (.iconst 1, 1) := by decide +kernel
theorem dxQ_init_381 : decode cxQ_init 381 = .ok (.goto 15, 3) := by decide +kernel
theorem dxQ_init_384 : decode cxQ_init 384 = .ok (.iload_n 1, 1) := by decide +kernel
theorem dxQ_init_385 : decode cxQ_init 385 = .ok (.bipush 12, 2) := by decide +kernel
theorem dxQ_init_387 : decode cxQ_init 387 = .ok (.if_icmp .le 8, 3) := by decide +kernel
theorem dxQ_init_390 : decode cxQ_init 390 = .ok (.bipush 12, 2) := by decide +kernel
theorem dxQ_init_392 : decode cxQ_init 392 = .ok (.goto 4, 3) := by decide +kernel
theorem dxQ_init_395 : decode cxQ_init 395 = .ok (.iload_n 1, 1) := by decide +kernel
theorem dxQ_init_396 : decode cxQ_init 396 = .ok (.putfield 110, 3) := by decide +kernel
theorem dxQ_init_399 : decode cxQ_init 399 = .ok (.return_, 1) := by decide +kernel
theorem dxC_init_0 : decode cxC_init 0 = .ok (.aload_n 0, 1) := by decide +kernel
theorem dxC_init_1 : decode cxC_init 1 = .ok (.invokespecial 1, 3) := by decide +kernel
theorem dxC_init_4 : decode cxC_init 4 = .ok (.aload_n 0, 1) := by decide +kernel
theorem dxC_init_5 : decode cxC_init 5 = .ok (.bipush 16, 2) := by decide +kernel
theorem dxC_init_7 : decode cxC_init 7 = .ok (.newarray .int, 2) := by decide +kernel
theorem dxC_init_9 : decode cxC_init 9 = .ok (.putfield 9, 3) := by decide +kernel
theorem dxC_init_12 : decode cxC_init 12 = .ok (.aload_n 0, 1) := by decide +kernel
theorem dxC_init_13 : decode cxC_init 13 = .ok (.bipush 10, 2) := by decide +kernel
theorem dxC_init_15 : decode cxC_init 15 = .ok (.putfield 13, 3) := by decide +kernel
theorem dxC_init_18 : decode cxC_init 18 = .ok (.getstatic 17, 3) := by decide +kernel
theorem dxC_init_21 : decode cxC_init 21 = .ok (.iconst 0, 1) := by decide +kernel
theorem dxC_init_22 : decode cxC_init 22 = .ok (.aload_n 0, 1) := by decide +kernel
theorem dxC_init_23 : decode cxC_init 23 = .ok (.getfield 9, 3) := by decide +kernel
theorem dxC_init_26 : decode cxC_init 26 = .ok (.iconst 0, 1) := by decide +kernel
theorem dxC_init_27 : decode cxC_init 27 = .ok (.bipush 10, 2) := by decide +kernel
theorem dxC_init_29 : decode cxC_init 29 = .ok (.invokestatic 20, 3) := by decide +kernel
theorem dxC_init_32 : decode cxC_init 32 = .ok (.return_, 1) := by decide +kernel
theorem dxM_init_0 : decode cxM_init 0 = .ok (.aload_n 0, 1) := by decide +kernel
theorem dxM_init_1 : decode cxM_init 1 = .ok (.invokespecial 3, 3) := by decide +kernel
theorem dxM_init_4 : decode cxM_init 4 = .ok (.aload_n 0, 1) := by decide +kernel
theorem dxM_init_5 : decode cxM_init 5 = .ok (.iconst 4, 1) := by decide +kernel
theorem dxM_init_6 : decode cxM_init 6 = .ok (.newarray .int, 2) := by decide +kernel
theorem dxM_init_8 : decode cxM_init 8 = .ok (.putfield 11, 3) := by decide +kernel
theorem dxM_init_11 : decode cxM_init 11 = .ok (.aload_n 0, 1) := by decide +kernel
theorem dxM_init_12 : decode cxM_init 12 = .ok (.iconst 2, 1) := by decide +kernel
theorem dxM_init_13 : decode cxM_init 13 = .ok (.newarray .int, 2) := by decide +kernel
theorem dxM_init_15 : decode cxM_init 15 = .ok (.putfield 17, 3) := by decide +kernel
theorem dxM_init_18 : decode cxM_init 18 = .ok (.aload_n 0, 1) := by decide +kernel
theorem dxM_init_19 : decode cxM_init 19 = .ok (.sipush 300, 3) := by decide +kernel
theorem dxM_init_22 : decode cxM_init 22 = .ok (.newarray .int, 2) := by decide +kernel
theorem dxM_init_24 : decode cxM_init 24 = .ok (.putfield 20, 3) := by decide +kernel
theorem dxM_init_27 : decode cxM_init 27 = .ok (.aload_n 0, 1) := by decide +kernel
theorem dxM_init_28 : decode cxM_init 28 = .ok (.sipush 300, 3) := by decide +kernel
theorem dxM_init_31 : decode cxM_init 31 = .ok (.anewarray 23, 3) := by decide +kernel
theorem dxM_init_34 : decode cxM_init 34 = .ok (.putfield 25, 3) := by decide +kernel
theorem dxM_init_37 : decode cxM_init 37 = .ok (.aload_n 0, 1) := by decide +kernel
theorem dxM_init_38 : decode cxM_init 38 = .ok (.iconst 0, 1) := by decide +kernel
theorem dxM_init_39 : decode cxM_init 39 = .ok (.putfield 29, 3) := by decide +kernel
theorem dxM_init_42 : decode cxM_init 42 = .ok (.aload_n 0, 1) := by decide +kernel
theorem dxM_init_43 : decode cxM_init 43 = .ok (.iconst 0, 1) := by decide +kernel
theorem dxM_init_44 : decode cxM_init 44 = .ok (.putfield 33, 3) := by decide +kernel
theorem dxM_init_47 : decode cxM_init 47 = .ok (.aload_n 0, 1) := by decide +kernel
theorem dxM_init_48 : decode cxM_init 48 = .ok (.iconst 0, 1) := by decide +kernel
theorem dxM_init_49 : decode cxM_init 49 = .ok (.putfield 36, 3) := by decide +kernel
theorem dxM_init_52 : decode cxM_init 52 = .ok (.aload_n 0, 1) := by decide +kernel
theorem dxM_init_53 : decode cxM_init 53 = .ok (.iconst 0, 1) := by decide +kernel
theorem dxM_init_54 : decode cxM_init 54 = .ok (.putfield 39, 3) := by decide +kernel
theorem dxM_init_57 : decode cxM_init 57 = .ok (.aload_n 0, 1) := by decide +kernel
theorem dxM_init_58 : decode cxM_init 58 = .ok (.iconst 0, 1) := by decide +kernel
theorem dxM_init_59 : decode cxM_init 59 = .ok (.putfield 42, 3) := by decide +kernel
theorem dxM_init_62 : decode cxM_init 62 = .ok (.aload_n 0, 1) := by decide +kernel
theorem dxM_init_63 : decode cxM_init 63 = .ok (.iconst 0, 1) := by decide +kernel
theorem dxM_init_64 : decode cxM_init 64 = .ok (.putfield 45, 3) := by decide +kernel
theorem dxM_init_67 : decode cxM_init 67 = .ok (.aload_n 0, 1) := by decide +kernel
theorem dxM_init_68 : decode cxM_init 68 = .ok (.iconst 0, 1) := by decide +kernel
theorem dxM_init_69 : decode cxM_init 69 = .ok (.putfield 48, 3) := by decide +kernel
theorem dxM_init_72 : decode cxM_init 72 = .ok (.aload_n 0, 1) := by decide +kernel
theorem dxM_init_73 : decode cxM_init 73 = .ok (.aload_n 1, 1) := by decide +kernel
theorem dxM_init_74 : decode cxM_init 74 = .ok (.putfield 51, 3) := by decide +kernel
theorem dxM_init_77 : decode cxM_init 77 = .ok (.aload_n 0, 1) := by decide +kernel
theorem dxM_init_78 : decode cxM_init 78 = .ok (.aload_n 2, 1) := by decide +kernel
theorem dxM_init_79 : decode cxM_init 79 = .ok (.putfield 55, 3) := by decide +kernel
theorem dxM_init_82 : decode cxM_init 82 = .ok (.aload_n 0, 1) := by decide +kernel
theorem dxM_init_83 : decode cxM_init 83 = .ok (.iload_n 3, 1) := by decide +kernel
theorem dxM_init_84 : decode cxM_init 84 = .ok (.putfield 59, 3) := by decide +kernel
theorem dxM_init_87 : decode cxM_init 87 = .ok (.iconst 0, 1) := by decide +kernel
theorem dxM_init_88 : decode cxM_init 88 = .ok (.istore 4, 2) := by decide +kernel
theorem dxM_init_90 : decode cxM_init 90 = .ok (.iload 4, 2) := by decide +kernel
theorem dxM_init_92 : decode cxM_init 92 = .ok (.sipush 300, 3) := by decide +kernel
theorem dxM_init_95 : decode cxM_init 95 = .ok (.if_icmp .ge 23, 3) := by decide +kernel
theorem dxM_init_98 : decode cxM_init 98 = .ok (.aload_n 0, 1) := by decide +kernel
theorem dxM_init_99 : decode cxM_init 99 = .ok (.getfield 25, 3) := by decide +kernel
theorem dxM_init_102 : decode cxM_init 102 = .ok (.iload 4, 2) := by decide +kernel
theorem dxM_init_104 : decode cxM_init 104 = .ok (.new 23, 3) := by decide +kernel
theorem dxM_init_107 : decode cxM_init 107 = .ok (.dup, 1) := by decide +kernel
theorem dxM_init_108 : decode cxM_init 108 = .ok (.invokespecial 62, 3) := by decide +kernel
theorem dxM_init_111 : decode cxM_init 111 = .ok (.aastore, 1) := by decide +kernel
theorem dxM_init_112 : decode cxM_init 112 = .ok (.iinc 4 1, 3) := by decide +kernel
theorem dxM_init_115 : decode cxM_init 115 = .ok (.goto (-25), 3) := by decide +kernel
theorem dxM_init_118 : decode cxM_init 118 = .ok (.return_, 1) := by decide +kernel
theorem dxP_init_0 : decode cxP_init 0 = .ok (.aload_n 0, 1) := by decide +kernel
theorem dxP_init_1 : decode cxP_init 1 = .ok (.invokespecial 1, 3) := by decide +kernel
theorem dxP_init_4 : decode cxP_init 4 = .ok (.aload_n 0, 1) := by decide +kernel
theorem dxP_init_5 : decode cxP_init 5 = .ok (.bipush 64, 2) := by decide +kernel
theorem dxP_init_7 : decode cxP_init 7 = .ok (.anewarray 9, 3) := by decide +kernel
theorem dxP_init_10 : decode cxP_init 10 = .ok (.putfield 11, 3) := by decide +kernel
theorem dxP_init_13 : decode cxP_init 13 = .ok (.aload_n 0, 1) := by decide +kernel
theorem dxP_init_14 : decode cxP_init 14 = .ok (.bipush 6, 2) := by decide +kernel
theorem dxP_init_16 : decode cxP_init 16 = .ok (.newarray .int, 2) := by decide +kernel
theorem dxP_init_18 : decode cxP_init 18 = .ok (.putfield 15, 3) := by decide +kernel
theorem dxP_init_21 : decode cxP_init 21 = .ok (.aload_n 0, 1) := by decide +kernel
theorem dxP_init_22 : decode cxP_init 22 = .ok (.iconst 0, 1) := by decide +kernel
theorem dxP_init_23 : decode cxP_init 23 = .ok (.putfield 19, 3) := by decide +kernel
theorem dxP_init_26 : decode cxP_init 26 = .ok (.aload_n 0, 1) := by decide +kernel
theorem dxP_init_27 : decode cxP_init 27 = .ok (.aload_n 1, 1) := by decide +kernel
theorem dxP_init_28 : decode cxP_init 28 = .ok (.putfield 23, 3) := by decide +kernel
theorem dxP_init_31 : decode cxP_init 31 = .ok (.iconst 0, 1) := by decide +kernel
theorem dxP_init_32 : decode cxP_init 32 = .ok (.istore_n 2, 1) := by decide +kernel
theorem dxP_init_33 : decode cxP_init 33 = .ok (.iload_n 2, 1) := by decide +kernel
theorem dxP_init_34 : decode cxP_init 34 = .ok (.bipush 6, 2) := by decide +kernel
theorem dxP_init_36 : decode cxP_init 36 = .ok (.if_icmp .ge 16, 3) := by decide +kernel
theorem dxP_init_39 : decode cxP_init 39 = .ok (.aload_n 0, 1) := by decide +kernel
theorem dxP_init_40 : decode cxP_init 40 = .ok (.getfield 15, 3) := by decide +kernel
theorem dxP_init_43 : decode cxP_init 43 = .ok (.iload_n 2, 1) := by decide +kernel
theorem dxP_init_44 : decode cxP_init 44 = .ok (.iconst (-1), 1) := by decide +kernel
theorem dxP_init_45 : decode cxP_init 45 = .ok (.iastore, 1) := by decide +kernel
theorem dxP_init_46 : decode cxP_init 46 = .ok (.iinc 2 1, 3) := by decide +kernel
theorem dxP_init_49 : decode cxP_init 49 = .ok (.goto (-16), 3) := by decide +kernel
theorem dxP_init_52 : decode cxP_init 52 = .ok (.return_, 1) := by decide +kernel
theorem dxR_init_0 : decode cxR_init 0 = .ok (.aload_n 0, 1) := by decide +kernel
theorem dxR_init_1 : decode cxR_init 1 = .ok (.invokespecial 3, 3) := by decide +kernel
theorem dxR_init_4 : decode cxR_init 4 = .ok (.aload_n 0, 1) := by decide +kernel
theorem dxR_init_5 : decode cxR_init 5 = .ok (.new 9, 3) := by decide +kernel
theorem dxR_init_8 : decode cxR_init 8 = .ok (.dup, 1) := by decide +kernel
theorem dxR_init_9 : decode cxR_init 9 = .ok (.invokespecial 11, 3) := by decide +kernel
theorem dxR_init_12 : decode cxR_init 12 = .ok (.putfield 12, 3) := by decide +kernel
theorem dxR_init_15 : decode cxR_init 15 = .ok (.return_, 1) := by decide +kernel
theorem dxH_init_0 : decode cxH_init 0 = .ok (.aload_n 0, 1) := by decide +kernel
theorem dxH_init_1 : decode cxH_init 1 = .ok (.invokespecial 1, 3) := by decide +kernel
theorem dxH_init_4 : decode cxH_init 4 = .ok (.return_, 1) := by decide +kernel
