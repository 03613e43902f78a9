theorem dL_tear_13 : decode bL_tear 13 = .ok (.ireturn, 1) := by decide +kernel
theorem dL_tear_14 : decode bL_tear 14 = .ok (.iconst 0, 1) := by decide +kernel
theorem dL_tear_15 : decode bL_tear 15 = .ok (.ireturn, 1) := by decide +kernel
theorem dL_poke_0 : decode bL_poke 0 = .ok (.aload_n 3, 1) := by decide +kernel
theorem dL_poke_1 : decode bL_poke 1 = .ok (.iconst 0, 1) := by decide +kernel
theorem dL_poke_2 : decode bL_poke 2 = .ok (.aload_n 0, 1) := by decide +kernel
theorem dL_poke_3 : decode bL_poke 3 = .ok (.iload_n 1, 1) := by decide +kernel
theorem dL_poke_4 : decode bL_poke 4 = .ok (.iload_n 2, 1) := by decide +kernel
theorem dL_poke_5 : decode bL_poke 5 = .ok (.invokevirtual 49, 3) := by decide +kernel
theorem dL_poke_8 : decode bL_poke 8 = .ok (.i2l, 1) := by decide +kernel
theorem dL_poke_9 : decode bL_poke 9 = .ok (.lastore, 1) := by decide +kernel
theorem dL_poke_10 : decode bL_poke 10 = .ok (.goto 15, 3) := by decide +kernel
theorem dL_poke_13 : decode bL_poke 13 = .ok (.astore 4, 2) := by decide +kernel
theorem dL_poke_15 : decode bL_poke 15 = .ok (.iconst 1, 1) := by decide +kernel
theorem dL_poke_16 : decode bL_poke 16 = .ok (.ireturn, 1) := by decide +kernel
theorem dL_poke_17 : decode bL_poke 17 = .ok (.astore 4, 2) := by decide +kernel
theorem dL_poke_19 : decode bL_poke 19 = .ok (.iconst 2, 1) := by decide +kernel
theorem dL_poke_20 : decode bL_poke 20 = .ok (.ireturn, 1) := by decide +kernel
theorem dL_poke_21 : decode bL_poke 21 = .ok (.astore 4, 2) := by decide +kernel
theorem dL_poke_23 : decode bL_poke 23 = .ok (.iconst 3, 1) := by decide +kernel
theorem dL_poke_24 : decode bL_poke 24 = .ok (.ireturn, 1) := by decide +kernel
theorem dL_poke_25 : decode bL_poke 25 = .ok (.iconst 0, 1) := by decide +kernel
theorem dL_poke_26 : decode bL_poke 26 = .ok (.ireturn, 1) := by decide +kernel
theorem dL_reopen_0 : decode bL_reopen 0 = .ok (.aload_n 1, 1) := by decide +kernel
theorem dL_reopen_1 : decode bL_reopen 1 = .ok (.iconst 0, 1) := by decide +kernel
theorem dL_reopen_2 : decode bL_reopen 2 = .ok (.aload_n 0, 1) := by decide +kernel
theorem dL_reopen_3 : decode bL_reopen 3 = .ok (.invokevirtual 52, 3) := by decide +kernel
theorem dL_reopen_6 : decode bL_reopen 6 = .ok (.i2l, 1) := by decide +kernel
theorem dL_reopen_7 : decode bL_reopen 7 = .ok (.lastore, 1) := by decide +kernel
theorem dL_reopen_8 : decode bL_reopen 8 = .ok (.goto 6, 3) := by decide +kernel
theorem dL_reopen_11 : decode bL_reopen 11 = .ok (.astore_n 2, 1) := by decide +kernel
theorem dL_reopen_12 : decode bL_reopen 12 = .ok (.iconst 1, 1) := by decide +kernel
theorem dL_reopen_13 : decode bL_reopen 13 = .ok (.ireturn, 1) := by decide +kernel
theorem dL_reopen_14 : decode bL_reopen 14 = .ok (.iconst 0, 1) := by decide +kernel
theorem dL_reopen_15 : decode bL_reopen 15 = .ok (.ireturn, 1) := by decide +kernel
theorem dL_stored_0 : decode bL_stored 0 = .ok (.aload_n 2, 1) := by decide +kernel
theorem dL_stored_1 : decode bL_stored 1 = .ok (.iconst 0, 1) := by decide +kernel
theorem dL_stored_2 : decode bL_stored 2 = .ok (.aload_n 0, 1) := by decide +kernel
theorem dL_stored_3 : decode bL_stored 3 = .ok (.iload_n 1, 1) := by decide +kernel
theorem dL_stored_4 : decode bL_stored 4 = .ok (.invokevirtual 55, 3) := by decide +kernel
theorem dL_stored_7 : decode bL_stored 7 = .ok (.i2l, 1) := by decide +kernel
theorem dL_stored_8 : decode bL_stored 8 = .ok (.lastore, 1) := by decide +kernel
theorem dL_stored_9 : decode bL_stored 9 = .ok (.goto 6, 3) := by decide +kernel
theorem dL_stored_12 : decode bL_stored 12 = .ok (.astore_n 3, 1) := by decide +kernel
theorem dL_stored_13 : decode bL_stored 13 = .ok (.iconst 1, 1) := by decide +kernel
theorem dL_stored_14 : decode bL_stored 14 = .ok (.ireturn, 1) := by decide +kernel
theorem dL_stored_15 : decode bL_stored 15 = .ok (.iconst 0, 1) := by decide +kernel
theorem dL_stored_16 : decode bL_stored 16 = .ok (.ireturn, 1) := by decide +kernel
theorem dL_head_0 : decode bL_head 0 = .ok (.aload_n 2, 1) := by decide +kernel
theorem dL_head_1 : decode bL_head 1 = .ok (.iconst 0, 1) := by decide +kernel
theorem dL_head_2 : decode bL_head 2 = .ok (.aload_n 0, 1) := by decide +kernel
theorem dL_head_3 : decode bL_head 3 = .ok (.iload_n 1, 1) := by decide +kernel
theorem dL_head_4 : decode bL_head 4 = .ok (.invokevirtual 58, 3) := by decide +kernel
theorem dL_head_7 : decode bL_head 7 = .ok (.i2l, 1) := by decide +kernel
theorem dL_head_8 : decode bL_head 8 = .ok (.lastore, 1) := by decide +kernel
theorem dL_head_9 : decode bL_head 9 = .ok (.goto 6, 3) := by decide +kernel
theorem dL_head_12 : decode bL_head 12 = .ok (.astore_n 3, 1) := by decide +kernel
theorem dL_head_13 : decode bL_head 13 = .ok (.iconst 1, 1) := by decide +kernel
theorem dL_head_14 : decode bL_head 14 = .ok (.ireturn, 1) := by decide +kernel
theorem dL_head_15 : decode bL_head 15 = .ok (.iconst 0, 1) := by decide +kernel
theorem dL_head_16 : decode bL_head 16 = .ok (.ireturn, 1) := by decide +kernel
theorem dL_law_0 : decode bL_law 0 = .ok (.new 8, 3) := by decide +kernel
theorem dL_law_3 : decode bL_law 3 = .ok (.dup, 1) := by decide +kernel
theorem dL_law_4 : decode bL_law 4 = .ok (.invokespecial 61, 3) := by decide +kernel
theorem dL_law_7 : decode bL_law 7 = .ok (.astore_n 1, 1) := by decide +kernel
theorem dL_law_8 : decode bL_law 8 = .ok (.new 62, 3) := by decide +kernel
theorem dL_law_11 : decode bL_law 11 = .ok (.dup, 1) := by decide +kernel
theorem dL_law_12 : decode bL_law 12 = .ok (.invokespecial 64, 3) := by decide +kernel
theorem dL_law_15 : decode bL_law 15 = .ok (.astore_n 2, 1) := by decide +kernel
theorem dL_law_16 : decode bL_law 16 = .ok (.iconst 1, 1) := by decide +kernel
theorem dL_law_17 : decode bL_law 17 = .ok (.newarray .long, 2) := by decide +kernel
theorem dL_law_19 : decode bL_law 19 = .ok (.astore_n 3, 1) := by decide +kernel
theorem dL_law_20 : decode bL_law 20 = .ok (.iconst 0, 1) := by decide +kernel
theorem dL_law_21 : decode bL_law 21 = .ok (.istore 4, 2) := by decide +kernel
theorem dL_law_23 : decode bL_law 23 = .ok (.iload 4, 2) := by decide +kernel
theorem dL_law_25 : decode bL_law 25 = .ok (.aload_n 0, 1) := by decide +kernel
theorem dL_law_26 : decode bL_law 26 = .ok (.arraylength, 1) := by decide +kernel
theorem dL_law_27 : decode bL_law 27 = .ok (.iconst 3, 1) := by decide +kernel
theorem dL_law_28 : decode bL_law 28 = .ok (.isub, 1) := by decide +kernel
theorem dL_law_29 : decode bL_law 29 = .ok (.if_icmp .gt 849, 3) := by decide +kernel
theorem dL_law_32 : decode bL_law 32 = .ok (.aload_n 0, 1) := by decide +kernel
theorem dL_law_33 : decode bL_law 33 = .ok (.iload 4, 2) := by decide +kernel
theorem dL_law_35 : decode bL_law 35 = .ok (.iaload, 1) := by decide +kernel
theorem dL_law_36 : decode bL_law 36 = .ok (.bipush 15, 2) := by decide +kernel
theorem dL_law_38 : decode bL_law 38 = .ok (.iand, 1) := by decide +kernel
theorem dL_law_39 : decode bL_law 39 = .ok (.tableswitch 833 0 14 #[73, 129, 197, 241, 285, 329, 397, 453, 496, 552, 596, 664, 708, 721, 777], 73) := by decide +kernel
theorem dL_law_112 : decode bL_law 112 = .ok (.aload_n 1, 1) := by decide +kernel
theorem dL_law_113 : decode bL_law 113 = .ok (.aload_n 0, 1) := by decide +kernel
theorem dL_law_114 : decode bL_law 114 = .ok (.iload 4, 2) := by decide +kernel
theorem dL_law_116 : decode bL_law 116 = .ok (.iconst 1, 1) := by decide +kernel
theorem dL_law_117 : decode bL_law 117 = .ok (.iadd, 1) := by decide +kernel
theorem dL_law_118 : decode bL_law 118 = .ok (.iaload, 1) := by decide +kernel
theorem dL_law_119 : decode bL_law 119 = .ok (.aload_n 3, 1) := by decide +kernel
theorem dL_law_120 : decode bL_law 120 = .ok (.invokestatic 65, 3) := by decide +kernel
theorem dL_law_123 : decode bL_law 123 = .ok (.istore 5, 2) := by decide +kernel
theorem dL_law_125 : decode bL_law 125 = .ok (.aload_n 2, 1) := by decide +kernel
theorem dL_law_126 : decode bL_law 126 = .ok (.aload_n 0, 1) := by decide +kernel
theorem dL_law_127 : decode bL_law 127 = .ok (.iload 4, 2) := by decide +kernel
theorem dL_law_129 : decode bL_law 129 = .ok (.iconst 1, 1) := by decide +kernel
theorem dL_law_130 : decode bL_law 130 = .ok (.iadd, 1) := by decide +kernel
theorem dL_law_131 : decode bL_law 131 = .ok (.iaload, 1) := by decide +kernel
theorem dL_law_132 : decode bL_law 132 = .ok (.invokevirtual 70, 3) := by decide +kernel
theorem dL_law_135 : decode bL_law 135 = .ok (.istore 6, 2) := by decide +kernel
theorem dL_law_137 : decode bL_law 137 = .ok (.aload_n 2, 1) := by decide +kernel
theorem dL_law_138 : decode bL_law 138 = .ok (.invokevirtual 71, 3) := by decide +kernel
theorem dL_law_141 : decode bL_law 141 = .ok (.iload 5, 2) := by decide +kernel
theorem dL_law_143 : decode bL_law 143 = .ok (.if_icmp .eq 5, 3) := by decide +kernel
theorem dL_law_146 : decode bL_law 146 = .ok (.iconst 0, 1) := by decide +kernel
theorem dL_law_147 : decode bL_law 147 = .ok (.ireturn, 1) := by decide +kernel
theorem dL_law_148 : decode bL_law 148 = .ok (.iload 5, 2) := by decide +kernel
theorem dL_law_150 : decode bL_law 150 = .ok (.ifCond .ne 15, 3) := by decide +kernel
theorem dL_law_153 : decode bL_law 153 = .ok (.aload_n 3, 1) := by decide +kernel
theorem dL_law_154 : decode bL_law 154 = .ok (.iconst 0, 1) := by decide +kernel
theorem dL_law_155 : decode bL_law 155 = .ok (.laload, 1) := by decide +kernel
theorem dL_law_156 : decode bL_law 156 = .ok (.iload 6, 2) := by decide +kernel
theorem dL_law_158 : decode bL_law 158 = .ok (.i2l, 1) := by decide +kernel
theorem dL_law_159 : decode bL_law 159 = .ok (.lcmp, 1) := by decide +kernel
theorem dL_law_160 : decode bL_law 160 = .ok (.ifCond .eq 5, 3) := by decide +kernel
theorem dL_law_163 : decode bL_law 163 = .ok (.iconst 0, 1) := by decide +kernel
theorem dL_law_164 : decode bL_law 164 = .ok (.ireturn, 1) := by decide +kernel
theorem dL_law_165 : decode bL_law 165 = .ok (.goto 707, 3) := by decide +kernel
theorem dL_law_168 : decode bL_law 168 = .ok (.aload_n 1, 1) := by decide +kernel
theorem dL_law_169 : decode bL_law 169 = .ok (.aload_n 0, 1) := by decide +kernel
theorem dL_law_170 : decode bL_law 170 = .ok (.iload 4, 2) := by decide +kernel
theorem dL_law_172 : decode bL_law 172 = .ok (.iconst 1, 1) := by decide +kernel
theorem dL_law_173 : decode bL_law 173 = .ok (.iadd, 1) := by decide +kernel
theorem dL_law_174 : decode bL_law 174 = .ok (.iaload, 1) := by decide +kernel
theorem dL_law_175 : decode bL_law 175 = .ok (.aload_n 0, 1) := by decide +kernel
theorem dL_law_176 : decode bL_law 176 = .ok (.iload 4, 2) := by decide +kernel
theorem dL_law_178 : decode bL_law 178 = .ok (.iconst 2, 1) := by decide +kernel
theorem dL_law_179 : decode bL_law 179 = .ok (.iadd, 1) := by decide +kernel
theorem dL_law_180 : decode bL_law 180 = .ok (.iaload, 1) := by decide +kernel
theorem dL_law_181 : decode bL_law 181 = .ok (.aload_n 3, 1) := by decide +kernel
theorem dL_law_182 : decode bL_law 182 = .ok (.invokestatic 74, 3) := by decide +kernel
theorem dL_law_185 : decode bL_law 185 = .ok (.istore 5, 2) := by decide +kernel
theorem dL_law_187 : decode bL_law 187 = .ok (.aload_n 2, 1) := by decide +kernel
theorem dL_law_188 : decode bL_law 188 = .ok (.aload_n 0, 1) := by decide +kernel
theorem dL_law_189 : decode bL_law 189 = .ok (.iload 4, 2) := by decide +kernel
theorem dL_law_191 : decode bL_law 191 = .ok (.iconst 1, 1) := by decide +kernel
theorem dL_law_192 : decode bL_law 192 = .ok (.iadd, 1) := by decide +kernel
theorem dL_law_193 : decode bL_law 193 = .ok (.iaload, 1) := by decide +kernel
theorem dL_law_194 : decode bL_law 194 = .ok (.aload_n 0, 1) := by decide +kernel
theorem dL_law_195 : decode bL_law 195 = .ok (.iload 4, 2) := by decide +kernel
theorem dL_law_197 : decode bL_law 197 = .ok (.iconst 2, 1) := by decide +kernel
theorem dL_law_198 : decode bL_law 198 = .ok (.iadd, 1) := by decide +kernel
theorem dL_law_199 : decode bL_law 199 = .ok (.iaload, 1) := by decide +kernel
theorem dL_law_200 : decode bL_law 200 = .ok (.invokevirtual 77, 3) := by decide +kernel
theorem dL_law_203 : decode bL_law 203 = .ok (.istore 6, 2) := by decide +kernel
theorem dL_law_205 : decode bL_law 205 = .ok (.aload_n 2, 1) := by decide +kernel
theorem dL_law_206 : decode bL_law 206 = .ok (.invokevirtual 71, 3) := by decide +kernel
theorem dL_law_209 : decode bL_law 209 = .ok (.iload 5, 2) := by decide +kernel
theorem dL_law_211 : decode bL_law 211 = .ok (.if_icmp .eq 5, 3) := by decide +kernel
theorem dL_law_214 : decode bL_law 214 = .ok (.iconst 0, 1) := by decide +kernel
theorem dL_law_215 : decode bL_law 215 = .ok (.ireturn, 1) := by decide +kernel
theorem dL_law_216 : decode bL_law 216 = .ok (.iload 5, 2) := by decide +kernel
theorem dL_law_218 : decode bL_law 218 = .ok (.ifCond .ne 15, 3) := by decide +kernel
theorem dL_law_221 : decode bL_law 221 = .ok (.aload_n 3, 1) := by decide +kernel
theorem dL_law_222 : decode bL_law 222 = .ok (.iconst 0, 1) := by decide +kernel
theorem dL_law_223 : decode bL_law 223 = .ok (.laload, 1) := by decide +kernel
theorem dL_law_224 : decode bL_law 224 = .ok (.iload 6, 2) := by decide +kernel
theorem dL_law_226 : decode bL_law 226 = .ok (.i2l, 1) := by decide +kernel
theorem dL_law_227 : decode bL_law 227 = .ok (.lcmp, 1) := by decide +kernel
theorem dL_law_228 : decode bL_law 228 = .ok (.ifCond .eq 5, 3) := by decide +kernel
theorem dL_law_231 : decode bL_law 231 = .ok (.iconst 0, 1) := by decide +kernel
theorem dL_law_232 : decode bL_law 232 = .ok (.ireturn, 1) := by decide +kernel
theorem dL_law_233 : decode bL_law 233 = .ok (.goto 639, 3) := by decide +kernel
theorem dL_law_236 : decode bL_law 236 = .ok (.aload_n 1, 1) := by decide +kernel
theorem dL_law_237 : decode bL_law 237 = .ok (.aload_n 3, 1) := by decide +kernel
theorem dL_law_238 : decode bL_law 238 = .ok (.invokestatic 78, 3) := by decide +kernel
theorem dL_law_241 : decode bL_law 241 = .ok (.istore 5, 2) := by decide +kernel
theorem dL_law_243 : decode bL_law 243 = .ok (.aload_n 2, 1) := by decide +kernel
theorem dL_law_244 : decode bL_law 244 = .ok (.invokevirtual 81, 3) := by decide +kernel
theorem dL_law_247 : decode bL_law 247 = .ok (.istore 6, 2) := by decide +kernel
theorem dL_law_249 : decode bL_law 249 = .ok (.aload_n 2, 1) := by decide +kernel
theorem dL_law_250 : decode bL_law 250 = .ok (.invokevirtual 71, 3) := by decide +kernel
theorem dL_law_253 : decode bL_law 253 = .ok (.iload 5, 2) := by decide +kernel
theorem dL_law_255 : decode bL_law 255 = .ok (.if_icmp .eq 5, 3) := by decide +kernel
theorem dL_law_258 : decode bL_law 258 = .ok (.iconst 0, 1) := by decide +kernel
theorem dL_law_259 : decode bL_law 259 = .ok (.ireturn, 1) := by decide +kernel
theorem dL_law_260 : decode bL_law 260 = .ok (.iload 5, 2) := by decide +kernel
theorem dL_law_262 : decode bL_law 262 = .ok (.ifCond .ne 15, 3) := by decide +kernel
theorem dL_law_265 : decode bL_law 265 = .ok (.aload_n 3, 1) := by decide +kernel
theorem dL_law_266 : decode bL_law 266 = .ok (.iconst 0, 1) := by decide +kernel
theorem dL_law_267 : decode bL_law 267 = .ok (.laload, 1) := by decide +kernel
theorem dL_law_268 : decode bL_law 268 = .ok (.iload 6, 2) := by decide +kernel
theorem dL_law_270 : decode bL_law 270 = .ok (.i2l, 1) := by decide +kernel
theorem dL_law_271 : decode bL_law 271 = .ok (.lcmp, 1) := by decide +kernel
theorem dL_law_272 : decode bL_law 272 = .ok (.ifCond .eq 5, 3) := by decide +kernel
theorem dL_law_275 : decode bL_law 275 = .ok (.iconst 0, 1) := by decide +kernel
theorem dL_law_276 : decode bL_law 276 = .ok (.ireturn, 1) := by decide +kernel
theorem dL_law_277 : decode bL_law 277 = .ok (.goto 595, 3) := by decide +kernel
theorem dL_law_280 : decode bL_law 280 = .ok (.aload_n 1, 1) := by decide +kernel
theorem dL_law_281 : decode bL_law 281 = .ok (.aload_n 3, 1) := by decide +kernel
theorem dL_law_282 : decode bL_law 282 = .ok (.invokestatic 82, 3) := by decide +kernel
theorem dL_law_285 : decode bL_law 285 = .ok (.istore 5, 2) := by decide +kernel
theorem dL_law_287 : decode bL_law 287 = .ok (.aload_n 2, 1) := by decide +kernel
theorem dL_law_288 : decode bL_law 288 = .ok (.invokevirtual 84, 3) := by decide +kernel
theorem dL_law_291 : decode bL_law 291 = .ok (.istore 6, 2) := by decide +kernel
theorem dL_law_293 : decode bL_law 293 = .ok (.aload_n 2, 1) := by decide +kernel
theorem dL_law_294 : decode bL_law 294 = .ok (.invokevirtual 71, 3) := by decide +kernel
theorem dL_law_297 : decode bL_law 297 = .ok (.iload 5, 2) := by decide +kernel
theorem dL_law_299 : decode bL_law 299 = .ok (.if_icmp .eq 5, 3) := by decide +kernel
theorem dL_law_302 : decode bL_law 302 = .ok (.iconst 0, 1) := by decide +kernel
theorem dL_law_303 : decode bL_law 303 = .ok (.ireturn, 1) := by decide +kernel
theorem dL_law_304 : decode bL_law 304 = .ok (.iload 5, 2) := by decide +kernel
theorem dL_law_306 : decode bL_law 306 = .ok (.ifCond .ne 15, 3) := by decide +kernel
theorem dL_law_309 : decode bL_law 309 = .ok (.aload_n 3, 1) := by decide +kernel
theorem dL_law_310 : decode bL_law 310 = .ok (.iconst 0, 1) := by decide +kernel
theorem dL_law_311 : decode bL_law 311 = .ok (.laload, 1) := by decide +kernel
theorem dL_law_312 : decode bL_law 312 = .ok (.iload 6, 2) := by decide +kernel
theorem dL_law_314 : decode bL_law 314 = .ok (.i2l, 1) := by decide +kernel
theorem dL_law_315 : decode bL_law 315 = .ok (.lcmp, 1) := by decide +kernel
theorem dL_law_316 : decode bL_law 316 = .ok (.ifCond .eq 5, 3) := by decide +kernel
theorem dL_law_319 : decode bL_law 319 = .ok (.iconst 0, 1) := by decide +kernel
theorem dL_law_320 : decode bL_law 320 = .ok (.ireturn, 1) := by decide +kernel
theorem dL_law_321 : decode bL_law 321 = .ok (.goto 551, 3) := by decide +kernel
theorem dL_law_324 : decode bL_law 324 = .ok (.aload_n 1, 1) := by decide +kernel
theorem dL_law_325 : decode bL_law 325 = .ok (.aload_n 3, 1) := by decide +kernel
theorem dL_law_326 : decode bL_law 326 = .ok (.invokestatic 85, 3) := by decide +kernel
theorem dL_law_329 : decode bL_law 329 = .ok (.istore 5, 2) := by decide +kernel
theorem dL_law_331 : decode bL_law 331 = .ok (.aload_n 2, 1) := by decide +kernel
theorem dL_law_332 : decode bL_law 332 = .ok (.invokevirtual 87, 3) := by decide +kernel
theorem dL_law_335 : decode bL_law 335 = .ok (.istore 6, 2) := by decide +kernel
theorem dL_law_337 : decode bL_law 337 = .ok (.aload_n 2, 1) := by decide +kernel
theorem dL_law_338 : decode bL_law 338 = .ok (.invokevirtual 71, 3) := by decide +kernel
theorem dL_law_341 : decode bL_law 341 = .ok (.iload 5, 2) := by decide +kernel
theorem dL_law_343 : decode bL_law 343 = .ok (.if_icmp .eq 5, 3) := by decide +kernel
theorem dL_law_346 : decode bL_law 346 = .ok (.iconst 0, 1) := by decide +kernel
theorem dL_law_347 : decode bL_law 347 = .ok (.ireturn, 1) := by decide +kernel
theorem dL_law_348 : decode bL_law 348 = .ok (.iload 5, 2) := by decide +kernel
theorem dL_law_350 : decode bL_law 350 = .ok (.ifCond .ne 15, 3) := by decide +kernel
theorem dL_law_353 : decode bL_law 353 = .ok (.aload_n 3, 1) := by decide +kernel
theorem dL_law_354 : decode bL_law 354 = .ok (.iconst 0, 1) := by decide +kernel
theorem dL_law_355 : decode bL_law 355 = .ok (.laload, 1) := by decide +kernel
theorem dL_law_356 : decode bL_law 356 = .ok (.iload 6, 2) := by decide +kernel
theorem dL_law_358 : decode bL_law 358 = .ok (.i2l, 1) := by decide +kernel
theorem dL_law_359 : decode bL_law 359 = .ok (.lcmp, 1) := by decide +kernel
theorem dL_law_360 : decode bL_law 360 = .ok (.ifCond .eq 5, 3) := by decide +kernel
theorem dL_law_363 : decode bL_law 363 = .ok (.iconst 0, 1) := by decide +kernel
theorem dL_law_364 : decode bL_law 364 = .ok (.ireturn, 1) := by decide +kernel
theorem dL_law_365 : decode bL_law 365 = .ok (.goto 507, 3) := by decide +kernel
theorem dL_law_368 : decode bL_law 368 = .ok (.aload_n 1, 1) := by decide +kernel
theorem dL_law_369 : decode bL_law 369 = .ok (.aload_n 0, 1) := by decide +kernel
theorem dL_law_370 : decode bL_law 370 = .ok (.iload 4, 2) := by decide +kernel
theorem dL_law_372 : decode bL_law 372 = .ok (.iconst 1, 1) := by decide +kernel
theorem dL_law_373 : decode bL_law 373 = .ok (.iadd, 1) := by decide +kernel
theorem dL_law_374 : decode bL_law 374 = .ok (.iaload, 1) := by decide +kernel
theorem dL_law_375 : decode bL_law 375 = .ok (.aload_n 0, 1) := by decide +kernel
theorem dL_law_376 : decode bL_law 376 = .ok (.iload 4, 2) := by decide +kernel
theorem dL_law_378 : decode bL_law 378 = .ok (.iconst 2, 1) := by decide +kernel
theorem dL_law_379 : decode bL_law 379 = .ok (.iadd, 1) := by decide +kernel
theorem dL_law_380 : decode bL_law 380 = .ok (.iaload, 1) := by decide +kernel
theorem dL_law_381 : decode bL_law 381 = .ok (.aload_n 3, 1) := by decide +kernel
theorem dL_law_382 : decode bL_law 382 = .ok (.invokestatic 88, 3) := by decide +kernel
theorem dL_law_385 : decode bL_law 385 = .ok (.istore 5, 2) := by decide +kernel
theorem dL_law_387 : decode bL_law 387 = .ok (.aload_n 2, 1) := by decide +kernel
theorem dL_law_388 : decode bL_law 388 = .ok (.aload_n 0, 1) := by decide +kernel
theorem dL_law_389 : decode bL_law 389 = .ok (.iload 4, 2) := by decide +kernel
theorem dL_law_391 : decode bL_law 391 = .ok (.iconst 1, 1) := by decide +kernel
theorem dL_law_392 : decode bL_law 392 = .ok (.iadd, 1) := by decide +kernel
theorem dL_law_393 : decode bL_law 393 = .ok (.iaload, 1) := by decide +kernel
theorem dL_law_394 : decode bL_law 394 = .ok (.aload_n 0, 1) := by decide +kernel
theorem dL_law_395 : decode bL_law 395 = .ok (.iload 4, 2) := by decide +kernel
theorem dL_law_397 : decode bL_law 397 = .ok (.iconst 2, 1) := by decide +kernel
theorem dL_law_398 : decode bL_law 398 = .ok (.iadd, 1) := by decide +kernel
theorem dL_law_399 : decode bL_law 399 = .ok (.iaload, 1) := by decide +kernel
theorem dL_law_400 : decode bL_law 400 = .ok (.invokevirtual 90, 3) := by decide +kernel
theorem dL_law_403 : decode bL_law 403 = .ok (.istore 6, 2) := by decide +kernel
theorem dL_law_405 : decode bL_law 405 = .ok (.aload_n 2, 1) := by decide +kernel
theorem dL_law_406 : decode bL_law 406 = .ok (.invokevirtual 71, 3) := by decide +kernel
theorem dL_law_409 : decode bL_law 409 = .ok (.iload 5, 2) := by decide +kernel
theorem dL_law_411 : decode bL_law 411 = .ok (.if_icmp .eq 5, 3) := by decide +kernel
theorem dL_law_414 : decode bL_law 414 = .ok (.iconst 0, 1) := by decide +kernel
theorem dL_law_415 : decode bL_law 415 = .ok (.ireturn, 1) := by decide +kernel
theorem dL_law_416 : decode bL_law 416 = .ok (.iload 5, 2) := by decide +kernel
theorem dL_law_418 : decode bL_law 418 = .ok (.ifCond .ne 15, 3) := by decide +kernel
theorem dL_law_421 : decode bL_law 421 = .ok (.aload_n 3, 1) := by decide +kernel
theorem dL_law_422 : decode bL_law 422 = .ok (.iconst 0, 1) := by decide +kernel
theorem dL_law_423 : decode bL_law 423 = .ok (.laload, 1) := by decide +kernel
theorem dL_law_424 : decode bL_law 424 = .ok (.iload 6, 2) := by decide +kernel
theorem dL_law_426 : decode bL_law 426 = .ok (.i2l, 1) := by decide +kernel
theorem dL_law_427 : decode bL_law 427 = .ok (.lcmp, 1) := by decide +kernel
theorem dL_law_428 : decode bL_law 428 = .ok (.ifCond .eq 5, 3) := by decide +kernel
theorem dL_law_431 : decode bL_law 431 = .ok (.iconst 0, 1) := by decide +kernel
theorem dL_law_432 : decode bL_law 432 = .ok (.ireturn, 1) := by decide +kernel
theorem dL_law_433 : decode bL_law 433 = .ok (.goto 439, 3) := by decide +kernel
theorem dL_law_436 : decode bL_law 436 = .ok (.aload_n 1, 1) := by decide +kernel
theorem dL_law_437 : decode bL_law 437 = .ok (.aload_n 0, 1) := by decide +kernel
theorem dL_law_438 : decode bL_law 438 = .ok (.iload 4, 2) := by decide +kernel
theorem dL_law_440 : decode bL_law 440 = .ok (.iconst 1, 1) := by decide +kernel
theorem dL_law_441 : decode bL_law 441 = .ok (.iadd, 1) := by decide +kernel
theorem dL_law_442 : decode bL_law 442 = .ok (.iaload, 1) := by decide +kernel
theorem dL_law_443 : decode bL_law 443 = .ok (.aload_n 3, 1) := by decide +kernel
theorem dL_law_444 : decode bL_law 444 = .ok (.invokestatic 91, 3) := by decide +kernel
theorem dL_law_447 : decode bL_law 447 = .ok (.istore 5, 2) := by decide +kernel
theorem dL_law_449 : decode bL_law 449 = .ok (.aload_n 2, 1) := by decide +kernel
theorem dL_law_450 : decode bL_law 450 = .ok (.aload_n 0, 1) := by decide +kernel
theorem dL_law_451 : decode bL_law 451 = .ok (.iload 4, 2) := by decide +kernel
theorem dL_law_453 : decode bL_law 453 = .ok (.iconst 1, 1) := by decide +kernel
theorem dL_law_454 : decode bL_law 454 = .ok (.iadd, 1) := by decide +kernel
theorem dL_law_455 : decode bL_law 455 = .ok (.iaload, 1) := by decide +kernel
theorem dL_law_456 : decode bL_law 456 = .ok (.invokevirtual 93, 3) := by decide +kernel
theorem dL_law_459 : decode bL_law 459 = .ok (.istore 6, 2) := by decide +kernel
theorem dL_law_461 : decode bL_law 461 = .ok (.aload_n 2, 1) := by decide +kernel
theorem dL_law_462 : decode bL_law 462 = .ok (.invokevirtual 71, 3) := by decide +kernel
theorem dL_law_465 : decode bL_law 465 = .ok (.iload 5, 2) := by decide +kernel
theorem dL_law_467 : decode bL_law 467 = .ok (.if_icmp .eq 5, 3) := by decide +kernel
theorem dL_law_470 : decode bL_law 470 = .ok (.iconst 0, 1) := by decide +kernel
theorem dL_law_471 : decode bL_law 471 = .ok (.ireturn, 1) := by decide +kernel
theorem dL_law_472 : decode bL_law 472 = .ok (.iload 5, 2) := by decide +kernel
theorem dL_law_474 : decode bL_law 474 = .ok (.ifCond .ne 15, 3) := by decide +kernel
theorem dL_law_477 : decode bL_law 477 = .ok (.aload_n 3, 1) := by decide +kernel
theorem dL_law_478 : decode bL_law 478 = .ok (.iconst 0, 1) := by decide +kernel
theorem dL_law_479 : decode bL_law 479 = .ok (.laload, 1) := by decide +kernel
theorem dL_law_480 : decode bL_law 480 = .ok (.iload 6, 2) := by decide +kernel
theorem dL_law_482 : decode bL_law 482 = .ok (.i2l, 1) := by decide +kernel
theorem dL_law_483 : decode bL_law 483 = .ok (.lcmp, 1) := by decide +kernel
theorem dL_law_484 : decode bL_law 484 = .ok (.ifCond .eq 5, 3) := by decide +kernel
theorem dL_law_487 : decode bL_law 487 = .ok (.iconst 0, 1) := by decide +kernel
theorem dL_law_488 : decode bL_law 488 = .ok (.ireturn, 1) := by decide +kernel
theorem dL_law_489 : decode bL_law 489 = .ok (.goto 383, 3) := by decide +kernel
theorem dL_law_492 : decode bL_law 492 = .ok (.aload_n 1, 1) := by decide +kernel
theorem dL_law_493 : decode bL_law 493 = .ok (.aload_n 3, 1) := by decide +kernel
theorem dL_law_494 : decode bL_law 494 = .ok (.invokestatic 94, 3) := by decide +kernel
theorem dL_law_497 : decode bL_law 497 = .ok (.istore 5, 2) := by decide +kernel
theorem dL_law_499 : decode bL_law 499 = .ok (.aload_n 2, 1) := by decide +kernel
theorem dL_law_500 : decode bL_law 500 = .ok (.invokevirtual 96, 3) := by decide +kernel
theorem dL_law_503 : decode bL_law 503 = .ok (.lstore 6, 2) := by decide +kernel
theorem dL_law_505 : decode bL_law 505 = .ok (.aload_n 2, 1) := by decide +kernel
theorem dL_law_506 : decode bL_law 506 = .ok (.invokevirtual 71, 3) := by decide +kernel
theorem dL_law_509 : decode bL_law 509 = .ok (.iload 5, 2) := by decide +kernel
theorem dL_law_511 : decode bL_law 511 = .ok (.if_icmp .eq 5, 3) := by decide +kernel
theorem dL_law_514 : decode bL_law 514 = .ok (.iconst 0, 1) := by decide +kernel
theorem dL_law_515 : decode bL_law 515 = .ok (.ireturn, 1) := by decide +kernel
theorem dL_law_516 : decode bL_law 516 = .ok (.iload 5, 2) := by decide +kernel
theorem dL_law_518 : decode bL_law 518 = .ok (.ifCond .ne 14, 3) := by decide +kernel
theorem dL_law_521 : decode bL_law 521 = .ok (.aload_n 3, 1) := by decide +kernel
theorem dL_law_522 : decode bL_law 522 = .ok (.iconst 0, 1) := by decide +kernel
theorem dL_law_523 : decode bL_law 523 = .ok (.laload, 1) := by decide +kernel
theorem dL_law_524 : decode bL_law 524 = .ok (.lload 6, 2) := by decide +kernel
theorem dL_law_526 : decode bL_law 526 = .ok (.lcmp, 1) := by decide +kernel
theorem dL_law_527 : decode bL_law 527 = .ok (.ifCond .eq 5, 3) := by decide +kernel
theorem dL_law_530 : decode bL_law 530 = .ok (.iconst 0, 1) := by decide +kernel
theorem dL_law_531 : decode bL_law 531 = .ok (.ireturn, 1) := by decide +kernel
theorem dL_law_532 : decode bL_law 532 = .ok (.goto 340, 3) := by decide +kernel
theorem dL_law_535 : decode bL_law 535 = .ok (.aload_n 1, 1) := by decide +kernel
theorem dL_law_536 : decode bL_law 536 = .ok (.aload_n 0, 1) := by decide +kernel
theorem dL_law_537 : decode bL_law 537 = .ok (.iload 4, 2) := by decide +kernel
theorem dL_law_539 : decode bL_law 539 = .ok (.iconst 1, 1) := by decide +kernel
theorem dL_law_540 : decode bL_law 540 = .ok (.iadd, 1) := by decide +kernel
theorem dL_law_541 : decode bL_law 541 = .ok (.iaload, 1) := by decide +kernel
theorem dL_law_542 : decode bL_law 542 = .ok (.aload_n 3, 1) := by decide +kernel
theorem dL_law_543 : decode bL_law 543 = .ok (.invokestatic 97, 3) := by decide +kernel
theorem dL_law_546 : decode bL_law 546 = .ok (.istore 5, 2) := by decide +kernel
theorem dL_law_548 : decode bL_law 548 = .ok (.aload_n 2, 1) := by decide +kernel
theorem dL_law_549 : decode bL_law 549 = .ok (.aload_n 0, 1) := by decide +kernel
theorem dL_law_550 : decode bL_law 550 = .ok (.iload 4, 2) := by decide +kernel
theorem dL_law_552 : decode bL_law 552 = .ok (.iconst 1, 1) := by decide +kernel
theorem dL_law_553 : decode bL_law 553 = .ok (.iadd, 1) := by decide +kernel
theorem dL_law_554 : decode bL_law 554 = .ok (.iaload, 1) := by decide +kernel
theorem dL_law_555 : decode bL_law 555 = .ok (.invokevirtual 99, 3) := by decide +kernel
theorem dL_law_558 : decode bL_law 558 = .ok (.istore 6, 2) := by decide +kernel
theorem dL_law_560 : decode bL_law 560 = .ok (.aload_n 2, 1) := by decide +kernel
theorem dL_law_561 : decode bL_law 561 = .ok (.invokevirtual 71, 3) := by decide +kernel
theorem dL_law_564 : decode bL_law 564 = .ok (.iload 5, 2) := by decide +kernel
theorem dL_law_566 : decode bL_law 566 = .ok (.if_icmp .eq 5, 3) := by decide +kernel
theorem dL_law_569 : decode bL_law 569 = .ok (.iconst 0, 1) := by decide +kernel
theorem dL_law_570 : decode bL_law 570 = .ok (.ireturn, 1) := by decide +kernel
theorem dL_law_571 : decode bL_law 571 = .ok (.iload 5, 2) := by decide +kernel
theorem dL_law_573 : decode bL_law 573 = .ok (.ifCond .ne 15, 3) := by decide +kernel
theorem dL_law_576 : decode bL_law 576 = .ok (.aload_n 3, 1) := by decide +kernel
theorem dL_law_577 : decode bL_law 577 = .ok (.iconst 0, 1) := by decide +kernel
theorem dL_law_578 : decode bL_law 578 = .ok (.laload, 1) := by decide +kernel
theorem dL_law_579 : decode bL_law 579 = .ok (.iload 6, 2) := by decide +kernel
theorem dL_law_581 : decode bL_law 581 = .ok (.i2l, 1) := by decide +kernel
theorem dL_law_582 : decode bL_law 582 = .ok (.lcmp, 1) := by decide +kernel
theorem dL_law_583 : decode bL_law 583 = .ok (.ifCond .eq 5, 3) := by decide +kernel
theorem dL_law_586 : decode bL_law 586 = .ok (.iconst 0, 1) := by decide +kernel
theorem dL_law_587 : decode bL_law 587 = .ok (.ireturn, 1) := by decide +kernel
theorem dL_law_588 : decode bL_law 588 = .ok (.goto 284, 3) := by decide +kernel
theorem dL_law_591 : decode bL_law 591 = .ok (.aload_n 1, 1) := by decide +kernel
theorem dL_law_592 : decode bL_law 592 = .ok (.aload_n 3, 1) := by decide +kernel
theorem dL_law_593 : decode bL_law 593 = .ok (.invokestatic 100, 3) := by decide +kernel
theorem dL_law_596 : decode bL_law 596 = .ok (.istore 5, 2) := by decide +kernel
theorem dL_law_598 : decode bL_law 598 = .ok (.aload_n 2, 1) := by decide +kernel
theorem dL_law_599 : decode bL_law 599 = .ok (.invokevirtual 102, 3) := by decide +kernel
theorem dL_law_602 : decode bL_law 602 = .ok (.istore 6, 2) := by decide +kernel
theorem dL_law_604 : decode bL_law 604 = .ok (.aload_n 2, 1) := by decide +kernel
theorem dL_law_605 : decode bL_law 605 = .ok (.invokevirtual 71, 3) := by decide +kernel
theorem dL_law_608 : decode bL_law 608 = .ok (.iload 5, 2) := by decide +kernel
theorem dL_law_610 : decode bL_law 610 = .ok (.if_icmp .eq 5, 3) := by decide +kernel
theorem dL_law_613 : decode bL_law 613 = .ok (.iconst 0, 1) := by decide +kernel
theorem dL_law_614 : decode bL_law 614 = .ok (.ireturn, 1) := by decide +kernel
theorem dL_law_615 : decode bL_law 615 = .ok (.iload 5, 2) := by decide +kernel
theorem dL_law_617 : decode bL_law 617 = .ok (.ifCond .ne 15, 3) := by decide +kernel
theorem dL_law_620 : decode bL_law 620 = .ok (.aload_n 3, 1) := by decide +kernel
theorem dL_law_621 : decode bL_law 621 = .ok (.iconst 0, 1) := by decide +kernel
theorem dL_law_622 : decode bL_law 622 = .ok (.laload, 1) := by decide +kernel
theorem dL_law_623 : decode bL_law 623 = .ok (.iload 6, 2) := by decide +kernel
theorem dL_law_625 : decode bL_law 625 = .ok (.i2l, 1) := by decide +kernel
theorem dL_law_626 : decode bL_law 626 = .ok (.lcmp, 1) := by decide +kernel
theorem dL_law_627 : decode bL_law 627 = .ok (.ifCond .eq 5, 3) := by decide +kernel
theorem dL_law_630 : decode bL_law 630 = .ok (.iconst 0, 1) := by decide +kernel
theorem dL_law_631 : decode bL_law 631 = .ok (.ireturn, 1) := by decide +kernel
theorem dL_law_632 : decode bL_law 632 = .ok (.goto 240, 3) := by decide +kernel
theorem dL_law_635 : decode bL_law 635 = .ok (.aload_n 1, 1) := by decide +kernel
theorem dL_law_636 : decode bL_law 636 = .ok (.aload_n 0, 1) := by decide +kernel
theorem dL_law_637 : decode bL_law 637 = .ok (.iload 4, 2) := by decide +kernel
theorem dL_law_639 : decode bL_law 639 = .ok (.iconst 1, 1) := by decide +kernel
theorem dL_law_640 : decode bL_law 640 = .ok (.iadd, 1) := by decide +kernel
theorem dL_law_641 : decode bL_law 641 = .ok (.iaload, 1) := by decide +kernel
theorem dL_law_642 : decode bL_law 642 = .ok (.aload_n 0, 1) := by decide +kernel
theorem dL_law_643 : decode bL_law 643 = .ok (.iload 4, 2) := by decide +kernel
theorem dL_law_645 : decode bL_law 645 = .ok (.iconst 2, 1) := by decide +kernel
theorem dL_law_646 : decode bL_law 646 = .ok (.iadd, 1) := by decide +kernel
theorem dL_law_647 : decode bL_law 647 = .ok (.iaload, 1) := by decide +kernel
theorem dL_law_648 : decode bL_law 648 = .ok (.aload_n 3, 1) := by decide +kernel
theorem dL_law_649 : decode bL_law 649 = .ok (.invokestatic 103, 3) := by decide +kernel
theorem dL_law_652 : decode bL_law 652 = .ok (.istore 5, 2) := by decide +kernel
theorem dL_law_654 : decode bL_law 654 = .ok (.aload_n 2, 1) := by decide +kernel
theorem dL_law_655 : decode bL_law 655 = .ok (.aload_n 0, 1) := by decide +kernel
theorem dL_law_656 : decode bL_law 656 = .ok (.iload 4, 2) := by decide +kernel
theorem dL_law_658 : decode bL_law 658 = .ok (.iconst 1, 1) := by decide +kernel
theorem dL_law_659 : decode bL_law 659 = .ok (.iadd, 1) := by decide +kernel
theorem dL_law_660 : decode bL_law 660 = .ok (.iaload, 1) := by decide +kernel
theorem dL_law_661 : decode bL_law 661 = .ok (.aload_n 0, 1) := by decide +kernel
theorem dL_law_662 : decode bL_law 662 = .ok (.iload 4, 2) := by decide +kernel
theorem dL_law_664 : decode bL_law 664 = .ok (.iconst 2, 1) := by decide +kernel
theorem dL_law_665 : decode bL_law 665 = .ok (.iadd, 1) := by decide +kernel
theorem dL_law_666 : decode bL_law 666 = .ok (.iaload, 1) := by decide +kernel
theorem dL_law_667 : decode bL_law 667 = .ok (.invokevirtual 105, 3) := by decide +kernel
theorem dL_law_670 : decode bL_law 670 = .ok (.istore 6, 2) := by decide +kernel
theorem dL_law_672 : decode bL_law 672 = .ok (.aload_n 2, 1) := by decide +kernel
theorem dL_law_673 : decode bL_law 673 = .ok (.invokevirtual 71, 3) := by decide +kernel
theorem dL_law_676 : decode bL_law 676 = .ok (.iload 5, 2) := by decide +kernel
theorem dL_law_678 : decode bL_law 678 = .ok (.if_icmp .eq 5, 3) := by decide +kernel
theorem dL_law_681 : decode bL_law 681 = .ok (.iconst 0, 1) := by decide +kernel
theorem dL_law_682 : decode bL_law 682 = .ok (.ireturn, 1) := by decide +kernel
theorem dL_law_683 : decode bL_law 683 = .ok (.iload 5, 2) := by decide +kernel
theorem dL_law_685 : decode bL_law 685 = .ok (.ifCond .ne 15, 3) := by decide +kernel
theorem dL_law_688 : decode bL_law 688 = .ok (.aload_n 3, 1) := by decide +kernel
theorem dL_law_689 : decode bL_law 689 = .ok (.iconst 0, 1) := by decide +kernel
theorem dL_law_690 : decode bL_law 690 = .ok (.laload, 1) := by decide +kernel
theorem dL_law_691 : decode bL_law 691 = .ok (.iload 6, 2) := by decide +kernel
theorem dL_law_693 : decode bL_law 693 = .ok (.i2l, 1) := by decide +kernel
theorem dL_law_694 : decode bL_law 694 = .ok (.lcmp, 1) := by decide +kernel
theorem dL_law_695 : decode bL_law 695 = .ok (.ifCond .eq 5, 3) := by decide +kernel
theorem dL_law_698 : decode bL_law 698 = .ok (.iconst 0, 1) := by decide +kernel
theorem dL_law_699 : decode bL_law 699 = .ok (.ireturn, 1) := by decide +kernel
theorem dL_law_700 : decode bL_law 700 = .ok (.goto 172, 3) := by decide +kernel
theorem dL_law_703 : decode bL_law 703 = .ok (.aload_n 1, 1) := by decide +kernel
theorem dL_law_704 : decode bL_law 704 = .ok (.aload_n 3, 1) := by decide +kernel
theorem dL_law_705 : decode bL_law 705 = .ok (.invokestatic 106, 3) := by decide +kernel
theorem dL_law_708 : decode bL_law 708 = .ok (.istore 5, 2) := by decide +kernel
theorem dL_law_710 : decode bL_law 710 = .ok (.aload_n 2, 1) := by decide +kernel
theorem dL_law_711 : decode bL_law 711 = .ok (.invokevirtual 108, 3) := by decide +kernel
theorem dL_law_714 : decode bL_law 714 = .ok (.istore 6, 2) := by decide +kernel
theorem dL_law_716 : decode bL_law 716 = .ok (.aload_n 2, 1) := by decide +kernel
theorem dL_law_717 : decode bL_law 717 = .ok (.invokevirtual 71, 3) := by decide +kernel
theorem dL_law_720 : decode bL_law 720 = .ok (.iload 5, 2) := by decide +kernel
theorem dL_law_722 : decode bL_law 722 = .ok (.if_icmp .eq 5, 3) := by decide +kernel
theorem dL_law_725 : decode bL_law 725 = .ok (.iconst 0, 1) := by decide +kernel
theorem dL_law_726 : decode bL_law 726 = .ok (.ireturn, 1) := by decide +kernel
theorem dL_law_727 : decode bL_law 727 = .ok (.iload 5, 2) := by decide +kernel
theorem dL_law_729 : decode bL_law 729 = .ok (.ifCond .ne 15, 3) := by decide +kernel
theorem dL_law_732 : decode bL_law 732 = .ok (.aload_n 3, 1) := by decide +kernel
theorem dL_law_733 : decode bL_law 733 = .ok (.iconst 0, 1) := by decide +kernel
theorem dL_law_734 : decode bL_law 734 = .ok (.laload, 1) := by decide +kernel
theorem dL_law_735 : decode bL_law 735 = .ok (.iload 6, 2) := by decide +kernel
theorem dL_law_737 : decode bL_law 737 = .ok (.i2l, 1) := by decide +kernel
theorem dL_law_738 : decode bL_law 738 = .ok (.lcmp, 1) := by decide +kernel
theorem dL_law_739 : decode bL_law 739 = .ok (.ifCond .eq 5, 3) := by decide +kernel
theorem dL_law_742 : decode bL_law 742 = .ok (.iconst 0, 1) := by decide +kernel
theorem dL_law_743 : decode bL_law 743 = .ok (.ireturn, 1) := by decide +kernel
theorem dL_law_744 : decode bL_law 744 = .ok (.goto 128, 3) := by decide +kernel
theorem dL_law_747 : decode bL_law 747 = .ok (.aload_n 1, 1) := by decide +kernel
theorem dL_law_748 : decode bL_law 748 = .ok (.invokevirtual 109, 3) := by decide +kernel
theorem dL_law_751 : decode bL_law 751 = .ok (.aload_n 2, 1) := by decide +kernel
theorem dL_law_752 : decode bL_law 752 = .ok (.invokevirtual 112, 3) := by decide +kernel
theorem dL_law_755 : decode bL_law 755 = .ok (.if_icmp .eq 117, 3) := by decide +kernel
theorem dL_law_758 : decode bL_law 758 = .ok (.iconst 0, 1) := by decide +kernel
theorem dL_law_759 : decode bL_law 759 = .ok (.ireturn, 1) := by decide +kernel
theorem dL_law_760 : decode bL_law 760 = .ok (.aload_n 1, 1) := by decide +kernel
theorem dL_law_761 : decode bL_law 761 = .ok (.aload_n 0, 1) := by decide +kernel
theorem dL_law_762 : decode bL_law 762 = .ok (.iload 4, 2) := by decide +kernel
theorem dL_law_764 : decode bL_law 764 = .ok (.iconst 1, 1) := by decide +kernel
theorem dL_law_765 : decode bL_law 765 = .ok (.iadd, 1) := by decide +kernel
theorem dL_law_766 : decode bL_law 766 = .ok (.iaload, 1) := by decide +kernel
theorem dL_law_767 : decode bL_law 767 = .ok (.aload_n 3, 1) := by decide +kernel
theorem dL_law_768 : decode bL_law 768 = .ok (.invokestatic 113, 3) := by decide +kernel
theorem dL_law_771 : decode bL_law 771 = .ok (.istore 5, 2) := by decide +kernel
theorem dL_law_773 : decode bL_law 773 = .ok (.aload_n 2, 1) := by decide +kernel
theorem dL_law_774 : decode bL_law 774 = .ok (.aload_n 0, 1) := by decide +kernel
theorem dL_law_775 : decode bL_law 775 = .ok (.iload 4, 2) := by decide +kernel
theorem dL_law_777 : decode bL_law 777 = .ok (.iconst 1, 1) := by decide +kernel
theorem dL_law_778 : decode bL_law 778 = .ok (.iadd, 1) := by decide +kernel
theorem dL_law_779 : decode bL_law 779 = .ok (.iaload, 1) := by decide +kernel
theorem dL_law_780 : decode bL_law 780 = .ok (.invokevirtual 115, 3) := by decide +kernel
theorem dL_law_783 : decode bL_law 783 = .ok (.istore 6, 2) := by decide +kernel
theorem dL_law_785 : decode bL_law 785 = .ok (.aload_n 2, 1) := by decide +kernel
theorem dL_law_786 : decode bL_law 786 = .ok (.invokevirtual 71, 3) := by decide +kernel
theorem dL_law_789 : decode bL_law 789 = .ok (.iload 5, 2) := by decide +kernel
theorem dL_law_791 : decode bL_law 791 = .ok (.if_icmp .eq 5, 3) := by decide +kernel
theorem dL_law_794 : decode bL_law 794 = .ok (.iconst 0, 1) := by decide +kernel
theorem dL_law_795 : decode bL_law 795 = .ok (.ireturn, 1) := by decide +kernel
theorem dL_law_796 : decode bL_law 796 = .ok (.iload 5, 2) := by decide +kernel
theorem dL_law_798 : decode bL_law 798 = .ok (.ifCond .ne 15, 3) := by decide +kernel
theorem dL_law_801 : decode bL_law 801 = .ok (.aload_n 3, 1) := by decide +kernel
theorem dL_law_802 : decode bL_law 802 = .ok (.iconst 0, 1) := by decide +kernel
theorem dL_law_803 : decode bL_law 803 = .ok (.laload, 1) := by decide +kernel
theorem dL_law_804 : decode bL_law 804 = .ok (.iload 6, 2) := by decide +kernel
theorem dL_law_806 : decode bL_law 806 = .ok (.i2l, 1) := by decide +kernel
theorem dL_law_807 : decode bL_law 807 = .ok (.lcmp, 1) := by decide +kernel
theorem dL_law_808 : decode bL_law 808 = .ok (.ifCond .eq 5, 3) := by decide +kernel
theorem dL_law_811 : decode bL_law 811 = .ok (.iconst 0, 1) := by decide +kernel
theorem dL_law_812 : decode bL_law 812 = .ok (.ireturn, 1) := by decide +kernel
theorem dL_law_813 : decode bL_law 813 = .ok (.goto 59, 3) := by decide +kernel
theorem dL_law_816 : decode bL_law 816 = .ok (.aload_n 1, 1) := by decide +kernel
theorem dL_law_817 : decode bL_law 817 = .ok (.aload_n 0, 1) := by decide +kernel
theorem dL_law_818 : decode bL_law 818 = .ok (.iload 4, 2) := by decide +kernel
theorem dL_law_820 : decode bL_law 820 = .ok (.iconst 1, 1) := by decide +kernel
theorem dL_law_821 : decode bL_law 821 = .ok (.iadd, 1) := by decide +kernel
theorem dL_law_822 : decode bL_law 822 = .ok (.iaload, 1) := by decide +kernel
theorem dL_law_823 : decode bL_law 823 = .ok (.aload_n 3, 1) := by decide +kernel
theorem dL_law_824 : decode bL_law 824 = .ok (.invokestatic 116, 3) := by decide +kernel
theorem dL_law_827 : decode bL_law 827 = .ok (.istore 5, 2) := by decide +kernel
theorem dL_law_829 : decode bL_law 829 = .ok (.aload_n 2, 1) := by decide +kernel
theorem dL_law_830 : decode bL_law 830 = .ok (.aload_n 0, 1) := by decide +kernel
theorem dL_law_831 : decode bL_law 831 = .ok (.iload 4, 2) := by decide +kernel
theorem dL_law_833 : decode bL_law 833 = .ok (.iconst 1, 1) := by decide +kernel
theorem dL_law_834 : decode bL_law 834 = .ok (.iadd, 1) := by decide +kernel
theorem dL_law_835 : decode bL_law 835 = .ok (.iaload, 1) := by decide +kernel
theorem dL_law_836 : decode bL_law 836 = .ok (.invokevirtual 118, 3) := by decide +kernel
theorem dL_law_839 : decode bL_law 839 = .ok (.istore 6, 2) := by decide +kernel
theorem dL_law_841 : decode bL_law 841 = .ok (.aload_n 2, 1) := by decide +kernel
theorem dL_law_842 : decode bL_law 842 = .ok (.invokevirtual 71, 3) := by decide +kernel
theorem dL_law_845 : decode bL_law 845 = .ok (.iload 5, 2) := by decide +kernel
theorem dL_law_847 : decode bL_law 847 = .ok (.if_icmp .eq 5, 3) := by decide +kernel
theorem dL_law_850 : decode bL_law 850 = .ok (.iconst 0, 1) := by decide +kernel
theorem dL_law_851 : decode bL_law 851 = .ok (.ireturn, 1) := by decide +kernel
theorem dL_law_852 : decode bL_law 852 = .ok (.iload 5, 2) := by decide +kernel
theorem dL_law_854 : decode bL_law 854 = .ok (.ifCond .ne 15, 3) := by decide +kernel
theorem dL_law_857 : decode bL_law 857 = .ok (.aload_n 3, 1) := by decide +kernel
theorem dL_law_858 : decode bL_law 858 = .ok (.iconst 0, 1) := by decide +kernel
theorem dL_law_859 : decode bL_law 859 = .ok (.laload, 1) := by decide +kernel
theorem dL_law_860 : decode bL_law 860 = .ok (.iload 6, 2) := by decide +kernel
theorem dL_law_862 : decode bL_law 862 = .ok (.i2l, 1) := by decide +kernel
theorem dL_law_863 : decode bL_law 863 = .ok (.lcmp, 1) := by decide +kernel
theorem dL_law_864 : decode bL_law 864 = .ok (.ifCond .eq 5, 3) := by decide +kernel
theorem dL_law_867 : decode bL_law 867 = .ok (.iconst 0, 1) := by decide +kernel
theorem dL_law_868 : decode bL_law 868 = .ok (.ireturn, 1) := by decide +kernel
theorem dL_law_869 : decode bL_law 869 = .ok (.goto 3, 3) := by decide +kernel
theorem dL_law_872 : decode bL_law 872 = .ok (.iinc 4 3, 3) := by decide +kernel
theorem dL_law_875 : decode bL_law 875 = .ok (.goto (-852), 3) := by decide +kernel
theorem dL_law_878 : decode bL_law 878 = .ok (.iconst 1, 1) := by decide +kernel
theorem dL_law_879 : decode bL_law 879 = .ok (.ireturn, 1) := by decide +kernel
