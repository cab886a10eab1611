theorem dxL_law_0 : decode cxL_law 0 = .ok (.new 7, 3) := by decide +kernel
theorem dxL_law_3 : decode cxL_law 3 = .ok (.dup, 1) := by decide +kernel
theorem dxL_law_4 : decode cxL_law 4 = .ok (.aload_n 0, 1) := by decide +kernel
theorem dxL_law_5 : decode cxL_law 5 = .ok (.iconst 0, 1) := by decide +kernel
theorem dxL_law_6 : decode cxL_law 6 = .ok (.invokestatic 9, 3) := by decide +kernel
theorem dxL_law_9 : decode cxL_law 9 = .ok (.invokespecial 15, 3) := by decide +kernel
theorem dxL_law_12 : decode cxL_law 12 = .ok (.astore_n 1, 1) := by decide +kernel
theorem dxL_law_13 : decode cxL_law 13 = .ok (.new 18, 3) := by decide +kernel
theorem dxL_law_16 : decode cxL_law 16 = .ok (.dup, 1) := by decide +kernel
theorem dxL_law_17 : decode cxL_law 17 = .ok (.aload_n 0, 1) := by decide +kernel
theorem dxL_law_18 : decode cxL_law 18 = .ok (.iconst 0, 1) := by decide +kernel
theorem dxL_law_19 : decode cxL_law 19 = .ok (.invokestatic 9, 3) := by decide +kernel
theorem dxL_law_22 : decode cxL_law 22 = .ok (.invokespecial 20, 3) := by decide +kernel
theorem dxL_law_25 : decode cxL_law 25 = .ok (.astore_n 2, 1) := by decide +kernel
theorem dxL_law_26 : decode cxL_law 26 = .ok (.iconst 1, 1) := by decide +kernel
theorem dxL_law_27 : decode cxL_law 27 = .ok (.istore_n 3, 1) := by decide +kernel
theorem dxL_law_28 : decode cxL_law 28 = .ok (.iload_n 3, 1) := by decide +kernel
theorem dxL_law_29 : decode cxL_law 29 = .ok (.aload_n 0, 1) := by decide +kernel
theorem dxL_law_30 : decode cxL_law 30 = .ok (.arraylength, 1) := by decide +kernel
theorem dxL_law_31 : decode cxL_law 31 = .ok (.iconst 5, 1) := by decide +kernel
theorem dxL_law_32 : decode cxL_law 32 = .ok (.isub, 1) := by decide +kernel
theorem dxL_law_33 : decode cxL_law 33 = .ok (.if_icmp .gt 428, 3) := by decide +kernel
theorem dxL_law_36 : decode cxL_law 36 = .ok (.aload_n 0, 1) := by decide +kernel
theorem dxL_law_37 : decode cxL_law 37 = .ok (.iload_n 3, 1) := by decide +kernel
theorem dxL_law_38 : decode cxL_law 38 = .ok (.iaload, 1) := by decide +kernel
theorem dxL_law_39 : decode cxL_law 39 = .ok (.bipush 15, 2) := by decide +kernel
theorem dxL_law_41 : decode cxL_law 41 = .ok (.iand, 1) := by decide +kernel
theorem dxL_law_42 : decode cxL_law 42 = .ok (.tableswitch 413 0 11 #[62, 85, 138, 171, 194, 237, 261, 275, 299, 333, 367, 390], 62) := by decide +kernel
theorem dxL_law_104 : decode cxL_law 104 = .ok (.aload_n 1, 1) := by decide +kernel
theorem dxL_law_105 : decode cxL_law 105 = .ok (.aload_n 0, 1) := by decide +kernel
theorem dxL_law_106 : decode cxL_law 106 = .ok (.iload_n 3, 1) := by decide +kernel
theorem dxL_law_107 : decode cxL_law 107 = .ok (.iconst 1, 1) := by decide +kernel
theorem dxL_law_108 : decode cxL_law 108 = .ok (.iadd, 1) := by decide +kernel
theorem dxL_law_109 : decode cxL_law 109 = .ok (.iaload, 1) := by decide +kernel
theorem dxL_law_110 : decode cxL_law 110 = .ok (.invokevirtual 21, 3) := by decide +kernel
theorem dxL_law_113 : decode cxL_law 113 = .ok (.aload_n 2, 1) := by decide +kernel
theorem dxL_law_114 : decode cxL_law 114 = .ok (.aload_n 0, 1) := by decide +kernel
theorem dxL_law_115 : decode cxL_law 115 = .ok (.iload_n 3, 1) := by decide +kernel
theorem dxL_law_116 : decode cxL_law 116 = .ok (.iconst 1, 1) := by decide +kernel
theorem dxL_law_117 : decode cxL_law 117 = .ok (.iadd, 1) := by decide +kernel
theorem dxL_law_118 : decode cxL_law 118 = .ok (.iaload, 1) := by decide +kernel
theorem dxL_law_119 : decode cxL_law 119 = .ok (.invokevirtual 25, 3) := by decide +kernel
theorem dxL_law_122 : decode cxL_law 122 = .ok (.if_icmp .eq 333, 3) := by decide +kernel
theorem dxL_law_125 : decode cxL_law 125 = .ok (.iconst 0, 1) := by decide +kernel
theorem dxL_law_126 : decode cxL_law 126 = .ok (.ireturn, 1) := by decide +kernel
theorem dxL_law_127 : decode cxL_law 127 = .ok (.aload_n 1, 1) := by decide +kernel
theorem dxL_law_128 : decode cxL_law 128 = .ok (.aload_n 0, 1) := by decide +kernel
theorem dxL_law_129 : decode cxL_law 129 = .ok (.iload_n 3, 1) := by decide +kernel
theorem dxL_law_130 : decode cxL_law 130 = .ok (.iconst 1, 1) := by decide +kernel
theorem dxL_law_131 : decode cxL_law 131 = .ok (.iadd, 1) := by decide +kernel
theorem dxL_law_132 : decode cxL_law 132 = .ok (.iaload, 1) := by decide +kernel
theorem dxL_law_133 : decode cxL_law 133 = .ok (.aload_n 0, 1) := by decide +kernel
theorem dxL_law_134 : decode cxL_law 134 = .ok (.iload_n 3, 1) := by decide +kernel
theorem dxL_law_135 : decode cxL_law 135 = .ok (.iconst 2, 1) := by decide +kernel
theorem dxL_law_136 : decode cxL_law 136 = .ok (.iadd, 1) := by decide +kernel
theorem dxL_law_137 : decode cxL_law 137 = .ok (.iaload, 1) := by decide +kernel
theorem dxL_law_138 : decode cxL_law 138 = .ok (.aload_n 0, 1) := by decide +kernel
theorem dxL_law_139 : decode cxL_law 139 = .ok (.iload_n 3, 1) := by decide +kernel
theorem dxL_law_140 : decode cxL_law 140 = .ok (.iconst 3, 1) := by decide +kernel
theorem dxL_law_141 : decode cxL_law 141 = .ok (.iadd, 1) := by decide +kernel
theorem dxL_law_142 : decode cxL_law 142 = .ok (.iaload, 1) := by decide +kernel
theorem dxL_law_143 : decode cxL_law 143 = .ok (.aload_n 0, 1) := by decide +kernel
theorem dxL_law_144 : decode cxL_law 144 = .ok (.iload_n 3, 1) := by decide +kernel
theorem dxL_law_145 : decode cxL_law 145 = .ok (.iconst 4, 1) := by decide +kernel
theorem dxL_law_146 : decode cxL_law 146 = .ok (.iadd, 1) := by decide +kernel
theorem dxL_law_147 : decode cxL_law 147 = .ok (.iaload, 1) := by decide +kernel
theorem dxL_law_148 : decode cxL_law 148 = .ok (.invokevirtual 26, 3) := by decide +kernel
theorem dxL_law_151 : decode cxL_law 151 = .ok (.aload_n 2, 1) := by decide +kernel
theorem dxL_law_152 : decode cxL_law 152 = .ok (.aload_n 0, 1) := by decide +kernel
theorem dxL_law_153 : decode cxL_law 153 = .ok (.iload_n 3, 1) := by decide +kernel
theorem dxL_law_154 : decode cxL_law 154 = .ok (.iconst 1, 1) := by decide +kernel
theorem dxL_law_155 : decode cxL_law 155 = .ok (.iadd, 1) := by decide +kernel
theorem dxL_law_156 : decode cxL_law 156 = .ok (.iaload, 1) := by decide +kernel
theorem dxL_law_157 : decode cxL_law 157 = .ok (.aload_n 0, 1) := by decide +kernel
theorem dxL_law_158 : decode cxL_law 158 = .ok (.iload_n 3, 1) := by decide +kernel
theorem dxL_law_159 : decode cxL_law 159 = .ok (.iconst 2, 1) := by decide +kernel
theorem dxL_law_160 : decode cxL_law 160 = .ok (.iadd, 1) := by decide +kernel
theorem dxL_law_161 : decode cxL_law 161 = .ok (.iaload, 1) := by decide +kernel
theorem dxL_law_162 : decode cxL_law 162 = .ok (.aload_n 0, 1) := by decide +kernel
theorem dxL_law_163 : decode cxL_law 163 = .ok (.iload_n 3, 1) := by decide +kernel
theorem dxL_law_164 : decode cxL_law 164 = .ok (.iconst 3, 1) := by decide +kernel
theorem dxL_law_165 : decode cxL_law 165 = .ok (.iadd, 1) := by decide +kernel
theorem dxL_law_166 : decode cxL_law 166 = .ok (.iaload, 1) := by decide +kernel
theorem dxL_law_167 : decode cxL_law 167 = .ok (.aload_n 0, 1) := by decide +kernel
theorem dxL_law_168 : decode cxL_law 168 = .ok (.iload_n 3, 1) := by decide +kernel
theorem dxL_law_169 : decode cxL_law 169 = .ok (.iconst 4, 1) := by decide +kernel
theorem dxL_law_170 : decode cxL_law 170 = .ok (.iadd, 1) := by decide +kernel
theorem dxL_law_171 : decode cxL_law 171 = .ok (.iaload, 1) := by decide +kernel
theorem dxL_law_172 : decode cxL_law 172 = .ok (.invokevirtual 30, 3) := by decide +kernel
theorem dxL_law_175 : decode cxL_law 175 = .ok (.if_icmp .eq 280, 3) := by decide +kernel
theorem dxL_law_178 : decode cxL_law 178 = .ok (.iconst 0, 1) := by decide +kernel
theorem dxL_law_179 : decode cxL_law 179 = .ok (.ireturn, 1) := by decide +kernel
theorem dxL_law_180 : decode cxL_law 180 = .ok (.aload_n 1, 1) := by decide +kernel
theorem dxL_law_181 : decode cxL_law 181 = .ok (.aload_n 0, 1) := by decide +kernel
theorem dxL_law_182 : decode cxL_law 182 = .ok (.iload_n 3, 1) := by decide +kernel
theorem dxL_law_183 : decode cxL_law 183 = .ok (.iconst 1, 1) := by decide +kernel
theorem dxL_law_184 : decode cxL_law 184 = .ok (.iadd, 1) := by decide +kernel
theorem dxL_law_185 : decode cxL_law 185 = .ok (.iaload, 1) := by decide +kernel
theorem dxL_law_186 : decode cxL_law 186 = .ok (.aload_n 0, 1) := by decide +kernel
theorem dxL_law_187 : decode cxL_law 187 = .ok (.iload_n 3, 1) := by decide +kernel
theorem dxL_law_188 : decode cxL_law 188 = .ok (.iconst 2, 1) := by decide +kernel
theorem dxL_law_189 : decode cxL_law 189 = .ok (.iadd, 1) := by decide +kernel
theorem dxL_law_190 : decode cxL_law 190 = .ok (.iaload, 1) := by decide +kernel
theorem dxL_law_191 : decode cxL_law 191 = .ok (.invokevirtual 31, 3) := by decide +kernel
theorem dxL_law_194 : decode cxL_law 194 = .ok (.aload_n 2, 1) := by decide +kernel
theorem dxL_law_195 : decode cxL_law 195 = .ok (.aload_n 0, 1) := by decide +kernel
theorem dxL_law_196 : decode cxL_law 196 = .ok (.iload_n 3, 1) := by decide +kernel
theorem dxL_law_197 : decode cxL_law 197 = .ok (.iconst 1, 1) := by decide +kernel
theorem dxL_law_198 : decode cxL_law 198 = .ok (.iadd, 1) := by decide +kernel
theorem dxL_law_199 : decode cxL_law 199 = .ok (.iaload, 1) := by decide +kernel
theorem dxL_law_200 : decode cxL_law 200 = .ok (.aload_n 0, 1) := by decide +kernel
theorem dxL_law_201 : decode cxL_law 201 = .ok (.iload_n 3, 1) := by decide +kernel
theorem dxL_law_202 : decode cxL_law 202 = .ok (.iconst 2, 1) := by decide +kernel
theorem dxL_law_203 : decode cxL_law 203 = .ok (.iadd, 1) := by decide +kernel
theorem dxL_law_204 : decode cxL_law 204 = .ok (.iaload, 1) := by decide +kernel
theorem dxL_law_205 : decode cxL_law 205 = .ok (.invokevirtual 35, 3) := by decide +kernel
theorem dxL_law_208 : decode cxL_law 208 = .ok (.if_icmp .eq 247, 3) := by decide +kernel
theorem dxL_law_211 : decode cxL_law 211 = .ok (.iconst 0, 1) := by decide +kernel
theorem dxL_law_212 : decode cxL_law 212 = .ok (.ireturn, 1) := by decide +kernel
theorem dxL_law_213 : decode cxL_law 213 = .ok (.aload_n 1, 1) := by decide +kernel
theorem dxL_law_214 : decode cxL_law 214 = .ok (.aload_n 0, 1) := by decide +kernel
theorem dxL_law_215 : decode cxL_law 215 = .ok (.iload_n 3, 1) := by decide +kernel
theorem dxL_law_216 : decode cxL_law 216 = .ok (.iconst 1, 1) := by decide +kernel
theorem dxL_law_217 : decode cxL_law 217 = .ok (.iadd, 1) := by decide +kernel
theorem dxL_law_218 : decode cxL_law 218 = .ok (.iaload, 1) := by decide +kernel
theorem dxL_law_219 : decode cxL_law 219 = .ok (.invokevirtual 36, 3) := by decide +kernel
theorem dxL_law_222 : decode cxL_law 222 = .ok (.aload_n 2, 1) := by decide +kernel
theorem dxL_law_223 : decode cxL_law 223 = .ok (.aload_n 0, 1) := by decide +kernel
theorem dxL_law_224 : decode cxL_law 224 = .ok (.iload_n 3, 1) := by decide +kernel
theorem dxL_law_225 : decode cxL_law 225 = .ok (.iconst 1, 1) := by decide +kernel
theorem dxL_law_226 : decode cxL_law 226 = .ok (.iadd, 1) := by decide +kernel
theorem dxL_law_227 : decode cxL_law 227 = .ok (.iaload, 1) := by decide +kernel
theorem dxL_law_228 : decode cxL_law 228 = .ok (.invokevirtual 39, 3) := by decide +kernel
theorem dxL_law_231 : decode cxL_law 231 = .ok (.if_icmp .eq 224, 3) := by decide +kernel
theorem dxL_law_234 : decode cxL_law 234 = .ok (.iconst 0, 1) := by decide +kernel
theorem dxL_law_235 : decode cxL_law 235 = .ok (.ireturn, 1) := by decide +kernel
theorem dxL_law_236 : decode cxL_law 236 = .ok (.aload_n 1, 1) := by decide +kernel
theorem dxL_law_237 : decode cxL_law 237 = .ok (.aload_n 0, 1) := by decide +kernel
theorem dxL_law_238 : decode cxL_law 238 = .ok (.iload_n 3, 1) := by decide +kernel
theorem dxL_law_239 : decode cxL_law 239 = .ok (.iconst 1, 1) := by decide +kernel
theorem dxL_law_240 : decode cxL_law 240 = .ok (.iadd, 1) := by decide +kernel
theorem dxL_law_241 : decode cxL_law 241 = .ok (.iaload, 1) := by decide +kernel
theorem dxL_law_242 : decode cxL_law 242 = .ok (.aload_n 0, 1) := by decide +kernel
theorem dxL_law_243 : decode cxL_law 243 = .ok (.iload_n 3, 1) := by decide +kernel
theorem dxL_law_244 : decode cxL_law 244 = .ok (.iconst 2, 1) := by decide +kernel
theorem dxL_law_245 : decode cxL_law 245 = .ok (.iadd, 1) := by decide +kernel
theorem dxL_law_246 : decode cxL_law 246 = .ok (.iaload, 1) := by decide +kernel
theorem dxL_law_247 : decode cxL_law 247 = .ok (.aload_n 0, 1) := by decide +kernel
theorem dxL_law_248 : decode cxL_law 248 = .ok (.iload_n 3, 1) := by decide +kernel
theorem dxL_law_249 : decode cxL_law 249 = .ok (.iconst 3, 1) := by decide +kernel
theorem dxL_law_250 : decode cxL_law 250 = .ok (.iadd, 1) := by decide +kernel
theorem dxL_law_251 : decode cxL_law 251 = .ok (.iaload, 1) := by decide +kernel
theorem dxL_law_252 : decode cxL_law 252 = .ok (.invokevirtual 40, 3) := by decide +kernel
theorem dxL_law_255 : decode cxL_law 255 = .ok (.aload_n 2, 1) := by decide +kernel
theorem dxL_law_256 : decode cxL_law 256 = .ok (.aload_n 0, 1) := by decide +kernel
theorem dxL_law_257 : decode cxL_law 257 = .ok (.iload_n 3, 1) := by decide +kernel
theorem dxL_law_258 : decode cxL_law 258 = .ok (.iconst 1, 1) := by decide +kernel
theorem dxL_law_259 : decode cxL_law 259 = .ok (.iadd, 1) := by decide +kernel
theorem dxL_law_260 : decode cxL_law 260 = .ok (.iaload, 1) := by decide +kernel
theorem dxL_law_261 : decode cxL_law 261 = .ok (.aload_n 0, 1) := by decide +kernel
theorem dxL_law_262 : decode cxL_law 262 = .ok (.iload_n 3, 1) := by decide +kernel
theorem dxL_law_263 : decode cxL_law 263 = .ok (.iconst 2, 1) := by decide +kernel
theorem dxL_law_264 : decode cxL_law 264 = .ok (.iadd, 1) := by decide +kernel
theorem dxL_law_265 : decode cxL_law 265 = .ok (.iaload, 1) := by decide +kernel
theorem dxL_law_266 : decode cxL_law 266 = .ok (.aload_n 0, 1) := by decide +kernel
theorem dxL_law_267 : decode cxL_law 267 = .ok (.iload_n 3, 1) := by decide +kernel
theorem dxL_law_268 : decode cxL_law 268 = .ok (.iconst 3, 1) := by decide +kernel
theorem dxL_law_269 : decode cxL_law 269 = .ok (.iadd, 1) := by decide +kernel
theorem dxL_law_270 : decode cxL_law 270 = .ok (.iaload, 1) := by decide +kernel
theorem dxL_law_271 : decode cxL_law 271 = .ok (.invokevirtual 44, 3) := by decide +kernel
theorem dxL_law_274 : decode cxL_law 274 = .ok (.if_icmp .eq 181, 3) := by decide +kernel
theorem dxL_law_277 : decode cxL_law 277 = .ok (.iconst 0, 1) := by decide +kernel
theorem dxL_law_278 : decode cxL_law 278 = .ok (.ireturn, 1) := by decide +kernel
theorem dxL_law_279 : decode cxL_law 279 = .ok (.aload_n 1, 1) := by decide +kernel
theorem dxL_law_280 : decode cxL_law 280 = .ok (.aload_n 0, 1) := by decide +kernel
theorem dxL_law_281 : decode cxL_law 281 = .ok (.iload_n 3, 1) := by decide +kernel
theorem dxL_law_282 : decode cxL_law 282 = .ok (.iconst 1, 1) := by decide +kernel
theorem dxL_law_283 : decode cxL_law 283 = .ok (.iadd, 1) := by decide +kernel
theorem dxL_law_284 : decode cxL_law 284 = .ok (.iaload, 1) := by decide +kernel
theorem dxL_law_285 : decode cxL_law 285 = .ok (.invokevirtual 45, 3) := by decide +kernel
theorem dxL_law_288 : decode cxL_law 288 = .ok (.aload_n 2, 1) := by decide +kernel
theorem dxL_law_289 : decode cxL_law 289 = .ok (.aload_n 0, 1) := by decide +kernel
theorem dxL_law_290 : decode cxL_law 290 = .ok (.iload_n 3, 1) := by decide +kernel
theorem dxL_law_291 : decode cxL_law 291 = .ok (.iconst 1, 1) := by decide +kernel
theorem dxL_law_292 : decode cxL_law 292 = .ok (.iadd, 1) := by decide +kernel
theorem dxL_law_293 : decode cxL_law 293 = .ok (.iaload, 1) := by decide +kernel
theorem dxL_law_294 : decode cxL_law 294 = .ok (.invokevirtual 49, 3) := by decide +kernel
theorem dxL_law_297 : decode cxL_law 297 = .ok (.lcmp, 1) := by decide +kernel
theorem dxL_law_298 : decode cxL_law 298 = .ok (.ifCond .eq 157, 3) := by decide +kernel
theorem dxL_law_301 : decode cxL_law 301 = .ok (.iconst 0, 1) := by decide +kernel
theorem dxL_law_302 : decode cxL_law 302 = .ok (.ireturn, 1) := by decide +kernel
theorem dxL_law_303 : decode cxL_law 303 = .ok (.aload_n 1, 1) := by decide +kernel
theorem dxL_law_304 : decode cxL_law 304 = .ok (.invokevirtual 50, 3) := by decide +kernel
theorem dxL_law_307 : decode cxL_law 307 = .ok (.aload_n 2, 1) := by decide +kernel
theorem dxL_law_308 : decode cxL_law 308 = .ok (.invokevirtual 54, 3) := by decide +kernel
theorem dxL_law_311 : decode cxL_law 311 = .ok (.lcmp, 1) := by decide +kernel
theorem dxL_law_312 : decode cxL_law 312 = .ok (.ifCond .eq 143, 3) := by decide +kernel
theorem dxL_law_315 : decode cxL_law 315 = .ok (.iconst 0, 1) := by decide +kernel
theorem dxL_law_316 : decode cxL_law 316 = .ok (.ireturn, 1) := by decide +kernel
theorem dxL_law_317 : decode cxL_law 317 = .ok (.aload_n 1, 1) := by decide +kernel
theorem dxL_law_318 : decode cxL_law 318 = .ok (.aload_n 0, 1) := by decide +kernel
theorem dxL_law_319 : decode cxL_law 319 = .ok (.iload_n 3, 1) := by decide +kernel
theorem dxL_law_320 : decode cxL_law 320 = .ok (.iconst 1, 1) := by decide +kernel
theorem dxL_law_321 : decode cxL_law 321 = .ok (.iadd, 1) := by decide +kernel
theorem dxL_law_322 : decode cxL_law 322 = .ok (.iaload, 1) := by decide +kernel
theorem dxL_law_323 : decode cxL_law 323 = .ok (.invokevirtual 55, 3) := by decide +kernel
theorem dxL_law_326 : decode cxL_law 326 = .ok (.aload_n 2, 1) := by decide +kernel
theorem dxL_law_327 : decode cxL_law 327 = .ok (.aload_n 0, 1) := by decide +kernel
theorem dxL_law_328 : decode cxL_law 328 = .ok (.iload_n 3, 1) := by decide +kernel
theorem dxL_law_329 : decode cxL_law 329 = .ok (.iconst 1, 1) := by decide +kernel
theorem dxL_law_330 : decode cxL_law 330 = .ok (.iadd, 1) := by decide +kernel
theorem dxL_law_331 : decode cxL_law 331 = .ok (.iaload, 1) := by decide +kernel
theorem dxL_law_332 : decode cxL_law 332 = .ok (.invokevirtual 58, 3) := by decide +kernel
theorem dxL_law_335 : decode cxL_law 335 = .ok (.lcmp, 1) := by decide +kernel
theorem dxL_law_336 : decode cxL_law 336 = .ok (.ifCond .eq 119, 3) := by decide +kernel
theorem dxL_law_339 : decode cxL_law 339 = .ok (.iconst 0, 1) := by decide +kernel
theorem dxL_law_340 : decode cxL_law 340 = .ok (.ireturn, 1) := by decide +kernel
theorem dxL_law_341 : decode cxL_law 341 = .ok (.aload_n 1, 1) := by decide +kernel
theorem dxL_law_342 : decode cxL_law 342 = .ok (.aload_n 0, 1) := by decide +kernel
theorem dxL_law_343 : decode cxL_law 343 = .ok (.iload_n 3, 1) := by decide +kernel
theorem dxL_law_344 : decode cxL_law 344 = .ok (.iconst 1, 1) := by decide +kernel
theorem dxL_law_345 : decode cxL_law 345 = .ok (.iadd, 1) := by decide +kernel
theorem dxL_law_346 : decode cxL_law 346 = .ok (.iaload, 1) := by decide +kernel
theorem dxL_law_347 : decode cxL_law 347 = .ok (.aload_n 0, 1) := by decide +kernel
theorem dxL_law_348 : decode cxL_law 348 = .ok (.iload_n 3, 1) := by decide +kernel
theorem dxL_law_349 : decode cxL_law 349 = .ok (.iconst 2, 1) := by decide +kernel
theorem dxL_law_350 : decode cxL_law 350 = .ok (.iadd, 1) := by decide +kernel
theorem dxL_law_351 : decode cxL_law 351 = .ok (.iaload, 1) := by decide +kernel
theorem dxL_law_352 : decode cxL_law 352 = .ok (.invokevirtual 59, 3) := by decide +kernel
theorem dxL_law_355 : decode cxL_law 355 = .ok (.aload_n 2, 1) := by decide +kernel
theorem dxL_law_356 : decode cxL_law 356 = .ok (.aload_n 0, 1) := by decide +kernel
theorem dxL_law_357 : decode cxL_law 357 = .ok (.iload_n 3, 1) := by decide +kernel
theorem dxL_law_358 : decode cxL_law 358 = .ok (.iconst 1, 1) := by decide +kernel
theorem dxL_law_359 : decode cxL_law 359 = .ok (.iadd, 1) := by decide +kernel
theorem dxL_law_360 : decode cxL_law 360 = .ok (.iaload, 1) := by decide +kernel
theorem dxL_law_361 : decode cxL_law 361 = .ok (.aload_n 0, 1) := by decide +kernel
theorem dxL_law_362 : decode cxL_law 362 = .ok (.iload_n 3, 1) := by decide +kernel
theorem dxL_law_363 : decode cxL_law 363 = .ok (.iconst 2, 1) := by decide +kernel
theorem dxL_law_364 : decode cxL_law 364 = .ok (.iadd, 1) := by decide +kernel
theorem dxL_law_365 : decode cxL_law 365 = .ok (.iaload, 1) := by decide +kernel
theorem dxL_law_366 : decode cxL_law 366 = .ok (.invokevirtual 63, 3) := by decide +kernel
theorem dxL_law_369 : decode cxL_law 369 = .ok (.lcmp, 1) := by decide +kernel
theorem dxL_law_370 : decode cxL_law 370 = .ok (.ifCond .eq 85, 3) := by decide +kernel
theorem dxL_law_373 : decode cxL_law 373 = .ok (.iconst 0, 1) := by decide +kernel
theorem dxL_law_374 : decode cxL_law 374 = .ok (.ireturn, 1) := by decide +kernel
theorem dxL_law_375 : decode cxL_law 375 = .ok (.aload_n 1, 1) := by decide +kernel
theorem dxL_law_376 : decode cxL_law 376 = .ok (.aload_n 0, 1) := by decide +kernel
theorem dxL_law_377 : decode cxL_law 377 = .ok (.iload_n 3, 1) := by decide +kernel
theorem dxL_law_378 : decode cxL_law 378 = .ok (.iconst 1, 1) := by decide +kernel
theorem dxL_law_379 : decode cxL_law 379 = .ok (.iadd, 1) := by decide +kernel
theorem dxL_law_380 : decode cxL_law 380 = .ok (.iaload, 1) := by decide +kernel
theorem dxL_law_381 : decode cxL_law 381 = .ok (.aload_n 0, 1) := by decide +kernel
theorem dxL_law_382 : decode cxL_law 382 = .ok (.iload_n 3, 1) := by decide +kernel
theorem dxL_law_383 : decode cxL_law 383 = .ok (.iconst 2, 1) := by decide +kernel
theorem dxL_law_384 : decode cxL_law 384 = .ok (.iadd, 1) := by decide +kernel
theorem dxL_law_385 : decode cxL_law 385 = .ok (.iaload, 1) := by decide +kernel
theorem dxL_law_386 : decode cxL_law 386 = .ok (.invokevirtual 64, 3) := by decide +kernel
theorem dxL_law_389 : decode cxL_law 389 = .ok (.aload_n 2, 1) := by decide +kernel
theorem dxL_law_390 : decode cxL_law 390 = .ok (.aload_n 0, 1) := by decide +kernel
theorem dxL_law_391 : decode cxL_law 391 = .ok (.iload_n 3, 1) := by decide +kernel
theorem dxL_law_392 : decode cxL_law 392 = .ok (.iconst 1, 1) := by decide +kernel
theorem dxL_law_393 : decode cxL_law 393 = .ok (.iadd, 1) := by decide +kernel
theorem dxL_law_394 : decode cxL_law 394 = .ok (.iaload, 1) := by decide +kernel
theorem dxL_law_395 : decode cxL_law 395 = .ok (.aload_n 0, 1) := by decide +kernel
theorem dxL_law_396 : decode cxL_law 396 = .ok (.iload_n 3, 1) := by decide +kernel
theorem dxL_law_397 : decode cxL_law 397 = .ok (.iconst 2, 1) := by decide +kernel
theorem dxL_law_398 : decode cxL_law 398 = .ok (.iadd, 1) := by decide +kernel
theorem dxL_law_399 : decode cxL_law 399 = .ok (.iaload, 1) := by decide +kernel
theorem dxL_law_400 : decode cxL_law 400 = .ok (.invokevirtual 67, 3) := by decide +kernel
theorem dxL_law_403 : decode cxL_law 403 = .ok (.lcmp, 1) := by decide +kernel
theorem dxL_law_404 : decode cxL_law 404 = .ok (.ifCond .eq 51, 3) := by decide +kernel
theorem dxL_law_407 : decode cxL_law 407 = .ok (.iconst 0, 1) := by decide +kernel
theorem dxL_law_408 : decode cxL_law 408 = .ok (.ireturn, 1) := by decide +kernel
theorem dxL_law_409 : decode cxL_law 409 = .ok (.aload_n 1, 1) := by decide +kernel
theorem dxL_law_410 : decode cxL_law 410 = .ok (.aload_n 0, 1) := by decide +kernel
theorem dxL_law_411 : decode cxL_law 411 = .ok (.iload_n 3, 1) := by decide +kernel
theorem dxL_law_412 : decode cxL_law 412 = .ok (.iconst 1, 1) := by decide +kernel
theorem dxL_law_413 : decode cxL_law 413 = .ok (.iadd, 1) := by decide +kernel
theorem dxL_law_414 : decode cxL_law 414 = .ok (.iaload, 1) := by decide +kernel
theorem dxL_law_415 : decode cxL_law 415 = .ok (.invokevirtual 68, 3) := by decide +kernel
theorem dxL_law_418 : decode cxL_law 418 = .ok (.aload_n 2, 1) := by decide +kernel
theorem dxL_law_419 : decode cxL_law 419 = .ok (.aload_n 0, 1) := by decide +kernel
theorem dxL_law_420 : decode cxL_law 420 = .ok (.iload_n 3, 1) := by decide +kernel
theorem dxL_law_421 : decode cxL_law 421 = .ok (.iconst 1, 1) := by decide +kernel
theorem dxL_law_422 : decode cxL_law 422 = .ok (.iadd, 1) := by decide +kernel
theorem dxL_law_423 : decode cxL_law 423 = .ok (.iaload, 1) := by decide +kernel
theorem dxL_law_424 : decode cxL_law 424 = .ok (.invokevirtual 71, 3) := by decide +kernel
theorem dxL_law_427 : decode cxL_law 427 = .ok (.if_icmp .eq 28, 3) := by decide +kernel
theorem dxL_law_430 : decode cxL_law 430 = .ok (.iconst 0, 1) := by decide +kernel
theorem dxL_law_431 : decode cxL_law 431 = .ok (.ireturn, 1) := by decide +kernel
theorem dxL_law_432 : decode cxL_law 432 = .ok (.aload_n 1, 1) := by decide +kernel
theorem dxL_law_433 : decode cxL_law 433 = .ok (.aload_n 0, 1) := by decide +kernel
theorem dxL_law_434 : decode cxL_law 434 = .ok (.iload_n 3, 1) := by decide +kernel
theorem dxL_law_435 : decode cxL_law 435 = .ok (.iconst 1, 1) := by decide +kernel
theorem dxL_law_436 : decode cxL_law 436 = .ok (.iadd, 1) := by decide +kernel
theorem dxL_law_437 : decode cxL_law 437 = .ok (.iaload, 1) := by decide +kernel
theorem dxL_law_438 : decode cxL_law 438 = .ok (.invokevirtual 72, 3) := by decide +kernel
theorem dxL_law_441 : decode cxL_law 441 = .ok (.aload_n 2, 1) := by decide +kernel
theorem dxL_law_442 : decode cxL_law 442 = .ok (.aload_n 0, 1) := by decide +kernel
theorem dxL_law_443 : decode cxL_law 443 = .ok (.iload_n 3, 1) := by decide +kernel
theorem dxL_law_444 : decode cxL_law 444 = .ok (.iconst 1, 1) := by decide +kernel
theorem dxL_law_445 : decode cxL_law 445 = .ok (.iadd, 1) := by decide +kernel
theorem dxL_law_446 : decode cxL_law 446 = .ok (.iaload, 1) := by decide +kernel
theorem dxL_law_447 : decode cxL_law 447 = .ok (.invokevirtual 75, 3) := by decide +kernel
theorem dxL_law_450 : decode cxL_law 450 = .ok (.if_icmp .eq 5, 3) := by decide +kernel
theorem dxL_law_453 : decode cxL_law 453 = .ok (.iconst 0, 1) := by decide +kernel
theorem dxL_law_454 : decode cxL_law 454 = .ok (.ireturn, 1) := by decide +kernel
theorem dxL_law_455 : decode cxL_law 455 = .ok (.iinc 3 5, 3) := by decide +kernel
theorem dxL_law_458 : decode cxL_law 458 = .ok (.goto (-430), 3) := by decide +kernel
theorem dxL_law_461 : decode cxL_law 461 = .ok (.iconst 1, 1) := by decide +kernel
theorem dxL_law_462 : decode cxL_law 462 = .ok (.ireturn, 1) := by decide +kernel
theorem dxL_cell_0 : decode cxL_cell 0 = .ok (.iload_n 1, 1) := by decide +kernel
theorem dxL_cell_1 : decode cxL_cell 1 = .ok (.aload_n 0, 1) := by decide +kernel
theorem dxL_cell_2 : decode cxL_cell 2 = .ok (.arraylength, 1) := by decide +kernel
theorem dxL_cell_3 : decode cxL_cell 3 = .ok (.if_icmp .ge 9, 3) := by decide +kernel
theorem dxL_cell_6 : decode cxL_cell 6 = .ok (.aload_n 0, 1) := by decide +kernel
theorem dxL_cell_7 : decode cxL_cell 7 = .ok (.iload_n 1, 1) := by decide +kernel
theorem dxL_cell_8 : decode cxL_cell 8 = .ok (.iaload, 1) := by decide +kernel
theorem dxL_cell_9 : decode cxL_cell 9 = .ok (.goto 4, 3) := by decide +kernel
theorem dxL_cell_12 : decode cxL_cell 12 = .ok (.iconst 0, 1) := by decide +kernel
theorem dxL_cell_13 : decode cxL_cell 13 = .ok (.ireturn, 1) := by decide +kernel
