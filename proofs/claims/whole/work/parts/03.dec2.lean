theorem dX11_init_0 : decode cX11_init 0 = .ok (.aload_n 0, 1) := by decide +kernel
theorem dX11_init_1 : decode cX11_init 1 = .ok (.invokespecial 1, 3) := by decide +kernel
theorem dX11_init_4 : decode cX11_init 4 = .ok (.aload_n 0, 1) := by decide +kernel
theorem dX11_init_5 : decode cX11_init 5 = .ok (.sipush 1600, 3) := by decide +kernel
theorem dX11_init_8 : decode cX11_init 8 = .ok (.newarray .int, 2) := by decide +kernel
theorem dX11_init_10 : decode cX11_init 10 = .ok (.putfield 7, 3) := by decide +kernel
theorem dX11_init_13 : decode cX11_init 13 = .ok (.aload_n 0, 1) := by decide +kernel
theorem dX11_init_14 : decode cX11_init 14 = .ok (.iconst (-1), 1) := by decide +kernel
theorem dX11_init_15 : decode cX11_init 15 = .ok (.putfield 13, 3) := by decide +kernel
theorem dX11_init_18 : decode cX11_init 18 = .ok (.aload_n 0, 1) := by decide +kernel
theorem dX11_init_19 : decode cX11_init 19 = .ok (.bipush 12, 2) := by decide +kernel
theorem dX11_init_21 : decode cX11_init 21 = .ok (.newarray .long, 2) := by decide +kernel
theorem dX11_init_23 : decode cX11_init 23 = .ok (.putfield 17, 3) := by decide +kernel
theorem dX11_init_26 : decode cX11_init 26 = .ok (.aload_n 0, 1) := by decide +kernel
theorem dX11_init_27 : decode cX11_init 27 = .ok (.sipush 320, 3) := by decide +kernel
theorem dX11_init_30 : decode cX11_init 30 = .ok (.newarray .int, 2) := by decide +kernel
theorem dX11_init_32 : decode cX11_init 32 = .ok (.putfield 21, 3) := by decide +kernel
theorem dX11_init_35 : decode cX11_init 35 = .ok (.aload_n 0, 1) := by decide +kernel
theorem dX11_init_36 : decode cX11_init 36 = .ok (.sipush 320, 3) := by decide +kernel
theorem dX11_init_39 : decode cX11_init 39 = .ok (.newarray .int, 2) := by decide +kernel
theorem dX11_init_41 : decode cX11_init 41 = .ok (.putfield 24, 3) := by decide +kernel
theorem dX11_init_44 : decode cX11_init 44 = .ok (.aload_n 0, 1) := by decide +kernel
theorem dX11_init_45 : decode cX11_init 45 = .ok (.sipush 320, 3) := by decide +kernel
theorem dX11_init_48 : decode cX11_init 48 = .ok (.newarray .int, 2) := by decide +kernel
theorem dX11_init_50 : decode cX11_init 50 = .ok (.putfield 27, 3) := by decide +kernel
theorem dX11_init_53 : decode cX11_init 53 = .ok (.aload_n 0, 1) := by decide +kernel
theorem dX11_init_54 : decode cX11_init 54 = .ok (.sipush 320, 3) := by decide +kernel
theorem dX11_init_57 : decode cX11_init 57 = .ok (.newarray .int, 2) := by decide +kernel
theorem dX11_init_59 : decode cX11_init 59 = .ok (.putfield 30, 3) := by decide +kernel
theorem dX11_init_62 : decode cX11_init 62 = .ok (.aload_n 0, 1) := by decide +kernel
theorem dX11_init_63 : decode cX11_init 63 = .ok (.sipush 160, 3) := by decide +kernel
theorem dX11_init_66 : decode cX11_init 66 = .ok (.newarray .int, 2) := by decide +kernel
theorem dX11_init_68 : decode cX11_init 68 = .ok (.putfield 33, 3) := by decide +kernel
theorem dX11_init_71 : decode cX11_init 71 = .ok (.aload_n 0, 1) := by decide +kernel
theorem dX11_init_72 : decode cX11_init 72 = .ok (.bipush 64, 2) := by decide +kernel
theorem dX11_init_74 : decode cX11_init 74 = .ok (.newarray .int, 2) := by decide +kernel
theorem dX11_init_76 : decode cX11_init 76 = .ok (.putfield 36, 3) := by decide +kernel
theorem dX11_init_79 : decode cX11_init 79 = .ok (.aload_n 0, 1) := by decide +kernel
theorem dX11_init_80 : decode cX11_init 80 = .ok (.iconst 4, 1) := by decide +kernel
theorem dX11_init_81 : decode cX11_init 81 = .ok (.newarray .int, 2) := by decide +kernel
theorem dX11_init_83 : decode cX11_init 83 = .ok (.putfield 39, 3) := by decide +kernel
theorem dX11_init_86 : decode cX11_init 86 = .ok (.aload_n 0, 1) := by decide +kernel
theorem dX11_init_87 : decode cX11_init 87 = .ok (.bipush 8, 2) := by decide +kernel
theorem dX11_init_89 : decode cX11_init 89 = .ok (.newarray .int, 2) := by decide +kernel
theorem dX11_init_91 : decode cX11_init 91 = .ok (.putfield 42, 3) := by decide +kernel
theorem dX11_init_94 : decode cX11_init 94 = .ok (.aload_n 0, 1) := by decide +kernel
theorem dX11_init_95 : decode cX11_init 95 = .ok (.bipush 16, 2) := by decide +kernel
theorem dX11_init_97 : decode cX11_init 97 = .ok (.newarray .int, 2) := by decide +kernel
theorem dX11_init_99 : decode cX11_init 99 = .ok (.putfield 45, 3) := by decide +kernel
theorem dX11_init_102 : decode cX11_init 102 = .ok (.aload_n 0, 1) := by decide +kernel
theorem dX11_init_103 : decode cX11_init 103 = .ok (.bipush 8, 2) := by decide +kernel
theorem dX11_init_105 : decode cX11_init 105 = .ok (.newarray .int, 2) := by decide +kernel
theorem dX11_init_107 : decode cX11_init 107 = .ok (.putfield 48, 3) := by decide +kernel
theorem dX11_init_110 : decode cX11_init 110 = .ok (.aload_n 0, 1) := by decide +kernel
theorem dX11_init_111 : decode cX11_init 111 = .ok (.bipush 8, 2) := by decide +kernel
theorem dX11_init_113 : decode cX11_init 113 = .ok (.newarray .int, 2) := by decide +kernel
theorem dX11_init_115 : decode cX11_init 115 = .ok (.putfield 51, 3) := by decide +kernel
theorem dX11_init_118 : decode cX11_init 118 = .ok (.aload_n 0, 1) := by decide +kernel
theorem dX11_init_119 : decode cX11_init 119 = .ok (.bipush 8, 2) := by decide +kernel
theorem dX11_init_121 : decode cX11_init 121 = .ok (.newarray .int, 2) := by decide +kernel
theorem dX11_init_123 : decode cX11_init 123 = .ok (.putfield 54, 3) := by decide +kernel
theorem dX11_init_126 : decode cX11_init 126 = .ok (.aload_n 0, 1) := by decide +kernel
theorem dX11_init_127 : decode cX11_init 127 = .ok (.iconst 5, 1) := by decide +kernel
theorem dX11_init_128 : decode cX11_init 128 = .ok (.newarray .int, 2) := by decide +kernel
theorem dX11_init_130 : decode cX11_init 130 = .ok (.putfield 57, 3) := by decide +kernel
theorem dX11_init_133 : decode cX11_init 133 = .ok (.aload_n 0, 1) := by decide +kernel
theorem dX11_init_134 : decode cX11_init 134 = .ok (.iconst 5, 1) := by decide +kernel
theorem dX11_init_135 : decode cX11_init 135 = .ok (.newarray .int, 2) := by decide +kernel
theorem dX11_init_137 : decode cX11_init 137 = .ok (.putfield 60, 3) := by decide +kernel
theorem dX11_init_140 : decode cX11_init 140 = .ok (.aload_n 0, 1) := by decide +kernel
theorem dX11_init_141 : decode cX11_init 141 = .ok (.bipush 10, 2) := by decide +kernel
theorem dX11_init_143 : decode cX11_init 143 = .ok (.newarray .int, 2) := by decide +kernel
theorem dX11_init_145 : decode cX11_init 145 = .ok (.putfield 63, 3) := by decide +kernel
theorem dX11_init_148 : decode cX11_init 148 = .ok (.aload_n 0, 1) := by decide +kernel
theorem dX11_init_149 : decode cX11_init 149 = .ok (.bipush 8, 2) := by decide +kernel
theorem dX11_init_151 : decode cX11_init 151 = .ok (.newarray .int, 2) := by decide +kernel
theorem dX11_init_153 : decode cX11_init 153 = .ok (.putfield 66, 3) := by decide +kernel
theorem dX11_init_156 : decode cX11_init 156 = .ok (.aload_n 0, 1) := by decide +kernel
theorem dX11_init_157 : decode cX11_init 157 = .ok (.bipush 16, 2) := by decide +kernel
theorem dX11_init_159 : decode cX11_init 159 = .ok (.newarray .int, 2) := by decide +kernel
theorem dX11_init_161 : decode cX11_init 161 = .ok (.putfield 69, 3) := by decide +kernel
theorem dX11_init_164 : decode cX11_init 164 = .ok (.aload_n 0, 1) := by decide +kernel
theorem dX11_init_165 : decode cX11_init 165 = .ok (.bipush 8, 2) := by decide +kernel
theorem dX11_init_167 : decode cX11_init 167 = .ok (.newarray .int, 2) := by decide +kernel
theorem dX11_init_169 : decode cX11_init 169 = .ok (.putfield 72, 3) := by decide +kernel
theorem dX11_init_172 : decode cX11_init 172 = .ok (.aload_n 0, 1) := by decide +kernel
theorem dX11_init_173 : decode cX11_init 173 = .ok (.bipush 8, 2) := by decide +kernel
theorem dX11_init_175 : decode cX11_init 175 = .ok (.newarray .int, 2) := by decide +kernel
theorem dX11_init_177 : decode cX11_init 177 = .ok (.putfield 75, 3) := by decide +kernel
theorem dX11_init_180 : decode cX11_init 180 = .ok (.aload_n 0, 1) := by decide +kernel
theorem dX11_init_181 : decode cX11_init 181 = .ok (.bipush 8, 2) := by decide +kernel
theorem dX11_init_183 : decode cX11_init 183 = .ok (.newarray .int, 2) := by decide +kernel
theorem dX11_init_185 : decode cX11_init 185 = .ok (.putfield 78, 3) := by decide +kernel
theorem dX11_init_188 : decode cX11_init 188 = .ok (.aload_n 0, 1) := by decide +kernel
theorem dX11_init_189 : decode cX11_init 189 = .ok (.iconst 5, 1) := by decide +kernel
theorem dX11_init_190 : decode cX11_init 190 = .ok (.newarray .int, 2) := by decide +kernel
theorem dX11_init_192 : decode cX11_init 192 = .ok (.putfield 81, 3) := by decide +kernel
theorem dX11_init_195 : decode cX11_init 195 = .ok (.aload_n 0, 1) := by decide +kernel
theorem dX11_init_196 : decode cX11_init 196 = .ok (.iconst 5, 1) := by decide +kernel
theorem dX11_init_197 : decode cX11_init 197 = .ok (.newarray .int, 2) := by decide +kernel
theorem dX11_init_199 : decode cX11_init 199 = .ok (.putfield 84, 3) := by decide +kernel
theorem dX11_init_202 : decode cX11_init 202 = .ok (.aload_n 0, 1) := by decide +kernel
theorem dX11_init_203 : decode cX11_init 203 = .ok (.bipush 8, 2) := by decide +kernel
theorem dX11_init_205 : decode cX11_init 205 = .ok (.newarray .boolean, 2) := by decide +kernel
theorem dX11_init_207 : decode cX11_init 207 = .ok (.putfield 87, 3) := by decide +kernel
theorem dX11_init_210 : decode cX11_init 210 = .ok (.aload_n 0, 1) := by decide +kernel
theorem dX11_init_211 : decode cX11_init 211 = .ok (.bipush 8, 2) := by decide +kernel
theorem dX11_init_213 : decode cX11_init 213 = .ok (.newarray .boolean, 2) := by decide +kernel
theorem dX11_init_215 : decode cX11_init 215 = .ok (.putfield 91, 3) := by decide +kernel
theorem dX11_init_218 : decode cX11_init 218 = .ok (.aload_n 0, 1) := by decide +kernel
theorem dX11_init_219 : decode cX11_init 219 = .ok (.iconst 4, 1) := by decide +kernel
theorem dX11_init_220 : decode cX11_init 220 = .ok (.putfield 94, 3) := by decide +kernel
theorem dX11_init_223 : decode cX11_init 223 = .ok (.aload_n 0, 1) := by decide +kernel
theorem dX11_init_224 : decode cX11_init 224 = .ok (.iconst 2, 1) := by decide +kernel
theorem dX11_init_225 : decode cX11_init 225 = .ok (.putfield 97, 3) := by decide +kernel
theorem dX11_init_228 : decode cX11_init 228 = .ok (.aload_n 0, 1) := by decide +kernel
theorem dX11_init_229 : decode cX11_init 229 = .ok (.bipush 64, 2) := by decide +kernel
theorem dX11_init_231 : decode cX11_init 231 = .ok (.newarray .int, 2) := by decide +kernel
theorem dX11_init_233 : decode cX11_init 233 = .ok (.putfield 100, 3) := by decide +kernel
theorem dX11_init_236 : decode cX11_init 236 = .ok (.aload_n 0, 1) := by decide +kernel
theorem dX11_init_237 : decode cX11_init 237 = .ok (.bipush 30, 2) := by decide +kernel
theorem dX11_init_239 : decode cX11_init 239 = .ok (.newarray .int, 2) := by decide +kernel
theorem dX11_init_241 : decode cX11_init 241 = .ok (.putfield 103, 3) := by decide +kernel
theorem dX11_init_244 : decode cX11_init 244 = .ok (.aload_n 0, 1) := by decide +kernel
theorem dX11_init_245 : decode cX11_init 245 = .ok (.bipush 30, 2) := by decide +kernel
theorem dX11_init_247 : decode cX11_init 247 = .ok (.newarray .int, 2) := by decide +kernel
theorem dX11_init_249 : decode cX11_init 249 = .ok (.putfield 106, 3) := by decide +kernel
theorem dX11_init_252 : decode cX11_init 252 = .ok (.aload_n 0, 1) := by decide +kernel
theorem dX11_init_253 : decode cX11_init 253 = .ok (.iconst 4, 1) := by decide +kernel
theorem dX11_init_254 : decode cX11_init 254 = .ok (.newarray .int, 2) := by decide +kernel
theorem dX11_init_256 : decode cX11_init 256 = .ok (.putfield 109, 3) := by decide +kernel
theorem dX11_init_259 : decode cX11_init 259 = .ok (.aload_n 0, 1) := by decide +kernel
theorem dX11_init_260 : decode cX11_init 260 = .ok (.sipush 1200, 3) := by decide +kernel
theorem dX11_init_263 : decode cX11_init 263 = .ok (.newarray .int, 2) := by decide +kernel
theorem dX11_init_265 : decode cX11_init 265 = .ok (.putfield 112, 3) := by decide +kernel
theorem dX11_init_268 : decode cX11_init 268 = .ok (.aload_n 0, 1) := by decide +kernel
theorem dX11_init_269 : decode cX11_init 269 = .ok (.sipush 1024, 3) := by decide +kernel
theorem dX11_init_272 : decode cX11_init 272 = .ok (.newarray .boolean, 2) := by decide +kernel
theorem dX11_init_274 : decode cX11_init 274 = .ok (.putfield 115, 3) := by decide +kernel
theorem dX11_init_277 : decode cX11_init 277 = .ok (.aload_n 0, 1) := by decide +kernel
theorem dX11_init_278 : decode cX11_init 278 = .ok (.sipush 1024, 3) := by decide +kernel
theorem dX11_init_281 : decode cX11_init 281 = .ok (.newarray .boolean, 2) := by decide +kernel
theorem dX11_init_283 : decode cX11_init 283 = .ok (.putfield 118, 3) := by decide +kernel
theorem dX11_init_286 : decode cX11_init 286 = .ok (.aload_n 0, 1) := by decide +kernel
theorem dX11_init_287 : decode cX11_init 287 = .ok (.bipush 30, 2) := by decide +kernel
theorem dX11_init_289 : decode cX11_init 289 = .ok (.newarray .int, 2) := by decide +kernel
theorem dX11_init_291 : decode cX11_init 291 = .ok (.putfield 121, 3) := by decide +kernel
theorem dX11_init_294 : decode cX11_init 294 = .ok (.aload_n 0, 1) := by decide +kernel
theorem dX11_init_295 : decode cX11_init 295 = .ok (.bipush 30, 2) := by decide +kernel
theorem dX11_init_297 : decode cX11_init 297 = .ok (.newarray .int, 2) := by decide +kernel
theorem dX11_init_299 : decode cX11_init 299 = .ok (.putfield 124, 3) := by decide +kernel
theorem dX11_init_302 : decode cX11_init 302 = .ok (.aload_n 0, 1) := by decide +kernel
theorem dX11_init_303 : decode cX11_init 303 = .ok (.bipush 30, 2) := by decide +kernel
theorem dX11_init_305 : decode cX11_init 305 = .ok (.newarray .int, 2) := by decide +kernel
theorem dX11_init_307 : decode cX11_init 307 = .ok (.putfield 127, 3) := by decide +kernel
theorem dX11_init_310 : decode cX11_init 310 = .ok (.aload_n 0, 1) := by decide +kernel
theorem dX11_init_311 : decode cX11_init 311 = .ok (.bipush 30, 2) := by decide +kernel
theorem dX11_init_313 : decode cX11_init 313 = .ok (.newarray .int, 2) := by decide +kernel
theorem dX11_init_315 : decode cX11_init 315 = .ok (.putfield 130, 3) := by decide +kernel
theorem dX11_init_318 : decode cX11_init 318 = .ok (.aload_n 0, 1) := by decide +kernel
theorem dX11_init_319 : decode cX11_init 319 = .ok (.bipush 30, 2) := by decide +kernel
theorem dX11_init_321 : decode cX11_init 321 = .ok (.newarray .int, 2) := by decide +kernel
theorem dX11_init_323 : decode cX11_init 323 = .ok (.putfield 133, 3) := by decide +kernel
theorem dX11_init_326 : decode cX11_init 326 = .ok (.aload_n 0, 1) := by decide +kernel
theorem dX11_init_327 : decode cX11_init 327 = .ok (.bipush 30, 2) := by decide +kernel
theorem dX11_init_329 : decode cX11_init 329 = .ok (.newarray .boolean, 2) := by decide +kernel
theorem dX11_init_331 : decode cX11_init 331 = .ok (.putfield 136, 3) := by decide +kernel
theorem dX11_init_334 : decode cX11_init 334 = .ok (.aload_n 0, 1) := by decide +kernel
theorem dX11_init_335 : decode cX11_init 335 = .ok (.iconst 3, 1) := by decide +kernel
theorem dX11_init_336 : decode cX11_init 336 = .ok (.newarray .boolean, 2) := by decide +kernel
theorem dX11_init_338 : decode cX11_init 338 = .ok (.putfield 139, 3) := by decide +kernel
theorem dX11_init_341 : decode cX11_init 341 = .ok (.aload_n 0, 1) := by decide +kernel
theorem dX11_init_342 : decode cX11_init 342 = .ok (.bipush 90, 2) := by decide +kernel
theorem dX11_init_344 : decode cX11_init 344 = .ok (.newarray .int, 2) := by decide +kernel
theorem dX11_init_346 : decode cX11_init 346 = .ok (.putfield 142, 3) := by decide +kernel
theorem dX11_init_349 : decode cX11_init 349 = .ok (.return_, 1) := by decide +kernel
theorem dX11_feed_0 : decode cX11_feed 0 = .ok (.aload_n 0, 1) := by decide +kernel
theorem dX11_feed_1 : decode cX11_feed 1 = .ok (.getfield 145, 3) := by decide +kernel
theorem dX11_feed_4 : decode cX11_feed 4 = .ok (.bipush 20, 2) := by decide +kernel
theorem dX11_feed_6 : decode cX11_feed 6 = .ok (.iadd, 1) := by decide +kernel
theorem dX11_feed_7 : decode cX11_feed 7 = .ok (.sipush 1600, 3) := by decide +kernel
theorem dX11_feed_10 : decode cX11_feed 10 = .ok (.if_icmp .le 5, 3) := by decide +kernel
theorem dX11_feed_13 : decode cX11_feed 13 = .ok (.iconst (-1), 1) := by decide +kernel
theorem dX11_feed_14 : decode cX11_feed 14 = .ok (.ireturn, 1) := by decide +kernel
theorem dX11_feed_15 : decode cX11_feed 15 = .ok (.aload_n 0, 1) := by decide +kernel
theorem dX11_feed_16 : decode cX11_feed 16 = .ok (.iload_n 1, 1) := by decide +kernel
theorem dX11_feed_17 : decode cX11_feed 17 = .ok (.invokevirtual 148, 3) := by decide +kernel
theorem dX11_feed_20 : decode cX11_feed 20 = .ok (.aload_n 0, 1) := by decide +kernel
theorem dX11_feed_21 : decode cX11_feed 21 = .ok (.iload_n 2, 1) := by decide +kernel
theorem dX11_feed_22 : decode cX11_feed 22 = .ok (.invokevirtual 148, 3) := by decide +kernel
theorem dX11_feed_25 : decode cX11_feed 25 = .ok (.aload_n 0, 1) := by decide +kernel
theorem dX11_feed_26 : decode cX11_feed 26 = .ok (.iload_n 3, 1) := by decide +kernel
theorem dX11_feed_27 : decode cX11_feed 27 = .ok (.invokevirtual 148, 3) := by decide +kernel
theorem dX11_feed_30 : decode cX11_feed 30 = .ok (.aload_n 0, 1) := by decide +kernel
theorem dX11_feed_31 : decode cX11_feed 31 = .ok (.iload 4, 2) := by decide +kernel
theorem dX11_feed_33 : decode cX11_feed 33 = .ok (.invokevirtual 148, 3) := by decide +kernel
theorem dX11_feed_36 : decode cX11_feed 36 = .ok (.aload_n 0, 1) := by decide +kernel
theorem dX11_feed_37 : decode cX11_feed 37 = .ok (.iload 5, 2) := by decide +kernel
theorem dX11_feed_39 : decode cX11_feed 39 = .ok (.invokevirtual 148, 3) := by decide +kernel
theorem dX11_feed_42 : decode cX11_feed 42 = .ok (.aload_n 0, 1) := by decide +kernel
theorem dX11_feed_43 : decode cX11_feed 43 = .ok (.getfield 145, 3) := by decide +kernel
theorem dX11_feed_46 : decode cX11_feed 46 = .ok (.ireturn, 1) := by decide +kernel
theorem dX11_four_0 : decode cX11_four 0 = .ok (.bipush 24, 2) := by decide +kernel
theorem dX11_four_2 : decode cX11_four 2 = .ok (.istore_n 2, 1) := by decide +kernel
theorem dX11_four_3 : decode cX11_four 3 = .ok (.iload_n 2, 1) := by decide +kernel
theorem dX11_four_4 : decode cX11_four 4 = .ok (.ifCond .lt 35, 3) := by decide +kernel
theorem dX11_four_7 : decode cX11_four 7 = .ok (.aload_n 0, 1) := by decide +kernel
theorem dX11_four_8 : decode cX11_four 8 = .ok (.getfield 7, 3) := by decide +kernel
theorem dX11_four_11 : decode cX11_four 11 = .ok (.aload_n 0, 1) := by decide +kernel
theorem dX11_four_12 : decode cX11_four 12 = .ok (.getfield 145, 3) := by decide +kernel
theorem dX11_four_15 : decode cX11_four 15 = .ok (.iload_n 1, 1) := by decide +kernel
theorem dX11_four_16 : decode cX11_four 16 = .ok (.iload_n 2, 1) := by decide +kernel
theorem dX11_four_17 : decode cX11_four 17 = .ok (.ishr, 1) := by decide +kernel
theorem dX11_four_18 : decode cX11_four 18 = .ok (.sipush 255, 3) := by decide +kernel
theorem dX11_four_21 : decode cX11_four 21 = .ok (.iand, 1) := by decide +kernel
theorem dX11_four_22 : decode cX11_four 22 = .ok (.iastore, 1) := by decide +kernel
theorem dX11_four_23 : decode cX11_four 23 = .ok (.aload_n 0, 1) := by decide +kernel
theorem dX11_four_24 : decode cX11_four 24 = .ok (.dup, 1) := by decide +kernel
theorem dX11_four_25 : decode cX11_four 25 = .ok (.getfield 145, 3) := by decide +kernel
theorem dX11_four_28 : decode cX11_four 28 = .ok (.iconst 1, 1) := by decide +kernel
theorem dX11_four_29 : decode cX11_four 29 = .ok (.iadd, 1) := by decide +kernel
theorem dX11_four_30 : decode cX11_four 30 = .ok (.putfield 145, 3) := by decide +kernel
theorem dX11_four_33 : decode cX11_four 33 = .ok (.iinc 2 (-8), 3) := by decide +kernel
theorem dX11_four_36 : decode cX11_four 36 = .ok (.goto (-33), 3) := by decide +kernel
theorem dX11_four_39 : decode cX11_four 39 = .ok (.return_, 1) := by decide +kernel
theorem dX11_end_0 : decode cX11_end 0 = .ok (.iload_n 1, 1) := by decide +kernel
theorem dX11_end_1 : decode cX11_end 1 = .ok (.ifCond .lt 11, 3) := by decide +kernel
theorem dX11_end_4 : decode cX11_end 4 = .ok (.iload_n 1, 1) := by decide +kernel
theorem dX11_end_5 : decode cX11_end 5 = .ok (.aload_n 0, 1) := by decide +kernel
theorem dX11_end_6 : decode cX11_end 6 = .ok (.getfield 145, 3) := by decide +kernel
theorem dX11_end_9 : decode cX11_end 9 = .ok (.if_icmp .le 5, 3) := by decide +kernel
theorem dX11_end_12 : decode cX11_end 12 = .ok (.iconst (-1), 1) := by decide +kernel
theorem dX11_end_13 : decode cX11_end 13 = .ok (.ireturn, 1) := by decide +kernel
theorem dX11_end_14 : decode cX11_end 14 = .ok (.aload_n 0, 1) := by decide +kernel
theorem dX11_end_15 : decode cX11_end 15 = .ok (.iload_n 1, 1) := by decide +kernel
theorem dX11_end_16 : decode cX11_end 16 = .ok (.putfield 145, 3) := by decide +kernel
theorem dX11_end_19 : decode cX11_end 19 = .ok (.iload_n 1, 1) := by decide +kernel
theorem dX11_end_20 : decode cX11_end 20 = .ok (.ireturn, 1) := by decide +kernel
theorem dX11_here_0 : decode cX11_here 0 = .ok (.aload_n 0, 1) := by decide +kernel
theorem dX11_here_1 : decode cX11_here 1 = .ok (.getfield 152, 3) := by decide +kernel
theorem dX11_here_4 : decode cX11_here 4 = .ok (.iload_n 1, 1) := by decide +kernel
theorem dX11_here_5 : decode cX11_here 5 = .ok (.iadd, 1) := by decide +kernel
theorem dX11_here_6 : decode cX11_here 6 = .ok (.aload_n 0, 1) := by decide +kernel
theorem dX11_here_7 : decode cX11_here 7 = .ok (.getfield 155, 3) := by decide +kernel
theorem dX11_here_10 : decode cX11_here 10 = .ok (.if_icmp .ge 17, 3) := by decide +kernel
theorem dX11_here_13 : decode cX11_here 13 = .ok (.aload_n 0, 1) := by decide +kernel
theorem dX11_here_14 : decode cX11_here 14 = .ok (.getfield 7, 3) := by decide +kernel
theorem dX11_here_17 : decode cX11_here 17 = .ok (.aload_n 0, 1) := by decide +kernel
theorem dX11_here_18 : decode cX11_here 18 = .ok (.getfield 152, 3) := by decide +kernel
theorem dX11_here_21 : decode cX11_here 21 = .ok (.iload_n 1, 1) := by decide +kernel
theorem dX11_here_22 : decode cX11_here 22 = .ok (.iadd, 1) := by decide +kernel
theorem dX11_here_23 : decode cX11_here 23 = .ok (.iaload, 1) := by decide +kernel
theorem dX11_here_24 : decode cX11_here 24 = .ok (.goto 4, 3) := by decide +kernel
theorem dX11_here_27 : decode cX11_here 27 = .ok (.iconst (-1), 1) := by decide +kernel
theorem dX11_here_28 : decode cX11_here 28 = .ok (.ireturn, 1) := by decide +kernel
theorem dX11_isLetter_0 : decode cX11_isLetter 0 = .ok (.iload_n 0, 1) := by decide +kernel
theorem dX11_isLetter_1 : decode cX11_isLetter 1 = .ok (.bipush 97, 2) := by decide +kernel
theorem dX11_isLetter_3 : decode cX11_isLetter 3 = .ok (.if_icmp .lt 13, 3) := by decide +kernel
theorem dX11_isLetter_6 : decode cX11_isLetter 6 = .ok (.iload_n 0, 1) := by decide +kernel
theorem dX11_isLetter_7 : decode cX11_isLetter 7 = .ok (.bipush 122, 2) := by decide +kernel
theorem dX11_isLetter_9 : decode cX11_isLetter 9 = .ok (.if_icmp .gt 7, 3) := by decide +kernel
theorem dX11_isLetter_12 : decode cX11_isLetter 12 = .ok (.iconst 1, 1) := by decide +kernel
theorem dX11_isLetter_13 : decode cX11_isLetter 13 = .ok (.goto 4, 3) := by decide +kernel
theorem dX11_isLetter_16 : decode cX11_isLetter 16 = .ok (.iconst 0, 1) := by decide +kernel
theorem dX11_isLetter_17 : decode cX11_isLetter 17 = .ok (.ireturn, 1) := by decide +kernel
theorem dX11_isDigit_0 : decode cX11_isDigit 0 = .ok (.iload_n 0, 1) := by decide +kernel
theorem dX11_isDigit_1 : decode cX11_isDigit 1 = .ok (.bipush 48, 2) := by decide +kernel
theorem dX11_isDigit_3 : decode cX11_isDigit 3 = .ok (.if_icmp .lt 13, 3) := by decide +kernel
theorem dX11_isDigit_6 : decode cX11_isDigit 6 = .ok (.iload_n 0, 1) := by decide +kernel
theorem dX11_isDigit_7 : decode cX11_isDigit 7 = .ok (.bipush 57, 2) := by decide +kernel
theorem dX11_isDigit_9 : decode cX11_isDigit 9 = .ok (.if_icmp .gt 7, 3) := by decide +kernel
theorem dX11_isDigit_12 : decode cX11_isDigit 12 = .ok (.iconst 1, 1) := by decide +kernel
theorem dX11_isDigit_13 : decode cX11_isDigit 13 = .ok (.goto 4, 3) := by decide +kernel
theorem dX11_isDigit_16 : decode cX11_isDigit 16 = .ok (.iconst 0, 1) := by decide +kernel
theorem dX11_isDigit_17 : decode cX11_isDigit 17 = .ok (.ireturn, 1) := by decide +kernel
theorem dX11_isSign_0 : decode cX11_isSign 0 = .ok (.iload_n 0, 1) := by decide +kernel
theorem dX11_isSign_1 : decode cX11_isSign 1 = .ok (.bipush 59, 2) := by decide +kernel
theorem dX11_isSign_3 : decode cX11_isSign 3 = .ok (.if_icmp .eq 63, 3) := by decide +kernel
theorem dX11_isSign_6 : decode cX11_isSign 6 = .ok (.iload_n 0, 1) := by decide +kernel
theorem dX11_isSign_7 : decode cX11_isSign 7 = .ok (.bipush 40, 2) := by decide +kernel
theorem dX11_isSign_9 : decode cX11_isSign 9 = .ok (.if_icmp .eq 57, 3) := by decide +kernel
theorem dX11_isSign_12 : decode cX11_isSign 12 = .ok (.iload_n 0, 1) := by decide +kernel
theorem dX11_isSign_13 : decode cX11_isSign 13 = .ok (.bipush 41, 2) := by decide +kernel
theorem dX11_isSign_15 : decode cX11_isSign 15 = .ok (.if_icmp .eq 51, 3) := by decide +kernel
theorem dX11_isSign_18 : decode cX11_isSign 18 = .ok (.iload_n 0, 1) := by decide +kernel
theorem dX11_isSign_19 : decode cX11_isSign 19 = .ok (.bipush 60, 2) := by decide +kernel
theorem dX11_isSign_21 : decode cX11_isSign 21 = .ok (.if_icmp .eq 45, 3) := by decide +kernel
theorem dX11_isSign_24 : decode cX11_isSign 24 = .ok (.iload_n 0, 1) := by decide +kernel
theorem dX11_isSign_25 : decode cX11_isSign 25 = .ok (.bipush 62, 2) := by decide +kernel
theorem dX11_isSign_27 : decode cX11_isSign 27 = .ok (.if_icmp .eq 39, 3) := by decide +kernel
theorem dX11_isSign_30 : decode cX11_isSign 30 = .ok (.iload_n 0, 1) := by decide +kernel
theorem dX11_isSign_31 : decode cX11_isSign 31 = .ok (.bipush 61, 2) := by decide +kernel
theorem dX11_isSign_33 : decode cX11_isSign 33 = .ok (.if_icmp .eq 33, 3) := by decide +kernel
theorem dX11_isSign_36 : decode cX11_isSign 36 = .ok (.iload_n 0, 1) := by decide +kernel
theorem dX11_isSign_37 : decode cX11_isSign 37 = .ok (.bipush 43, 2) := by decide +kernel
theorem dX11_isSign_39 : decode cX11_isSign 39 = .ok (.if_icmp .eq 27, 3) := by decide +kernel
theorem dX11_isSign_42 : decode cX11_isSign 42 = .ok (.iload_n 0, 1) := by decide +kernel
theorem dX11_isSign_43 : decode cX11_isSign 43 = .ok (.bipush 45, 2) := by decide +kernel
theorem dX11_isSign_45 : decode cX11_isSign 45 = .ok (.if_icmp .eq 21, 3) := by decide +kernel
theorem dX11_isSign_48 : decode cX11_isSign 48 = .ok (.iload_n 0, 1) := by decide +kernel
theorem dX11_isSign_49 : decode cX11_isSign 49 = .ok (.bipush 42, 2) := by decide +kernel
theorem dX11_isSign_51 : decode cX11_isSign 51 = .ok (.if_icmp .eq 15, 3) := by decide +kernel
theorem dX11_isSign_54 : decode cX11_isSign 54 = .ok (.iload_n 0, 1) := by decide +kernel
theorem dX11_isSign_55 : decode cX11_isSign 55 = .ok (.bipush 47, 2) := by decide +kernel
theorem dX11_isSign_57 : decode cX11_isSign 57 = .ok (.if_icmp .eq 9, 3) := by decide +kernel
theorem dX11_isSign_60 : decode cX11_isSign 60 = .ok (.iload_n 0, 1) := by decide +kernel
theorem dX11_isSign_61 : decode cX11_isSign 61 = .ok (.bipush 37, 2) := by decide +kernel
theorem dX11_isSign_63 : decode cX11_isSign 63 = .ok (.if_icmp .ne 7, 3) := by decide +kernel
theorem dX11_isSign_66 : decode cX11_isSign 66 = .ok (.iconst 1, 1) := by decide +kernel
theorem dX11_isSign_67 : decode cX11_isSign 67 = .ok (.goto 4, 3) := by decide +kernel
theorem dX11_isSign_70 : decode cX11_isSign 70 = .ok (.iconst 0, 1) := by decide +kernel
theorem dX11_isSign_71 : decode cX11_isSign 71 = .ok (.ireturn, 1) := by decide +kernel
theorem dX11_token_0 : decode cX11_token 0 = .ok (.aload_n 0, 1) := by decide +kernel
theorem dX11_token_1 : decode cX11_token 1 = .ok (.iconst 0, 1) := by decide +kernel
theorem dX11_token_2 : decode cX11_token 2 = .ok (.invokevirtual 158, 3) := by decide +kernel
theorem dX11_token_5 : decode cX11_token 5 = .ok (.bipush 32, 2) := by decide +kernel
theorem dX11_token_7 : decode cX11_token 7 = .ok (.if_icmp .eq 13, 3) := by decide +kernel
theorem dX11_token_10 : decode cX11_token 10 = .ok (.aload_n 0, 1) := by decide +kernel
theorem dX11_token_11 : decode cX11_token 11 = .ok (.iconst 0, 1) := by decide +kernel
theorem dX11_token_12 : decode cX11_token 12 = .ok (.invokevirtual 158, 3) := by decide +kernel
theorem dX11_token_15 : decode cX11_token 15 = .ok (.bipush 10, 2) := by decide +kernel
theorem dX11_token_17 : decode cX11_token 17 = .ok (.if_icmp .ne 16, 3) := by decide +kernel
theorem dX11_token_20 : decode cX11_token 20 = .ok (.aload_n 0, 1) := by decide +kernel
theorem dX11_token_21 : decode cX11_token 21 = .ok (.dup, 1) := by decide +kernel
theorem dX11_token_22 : decode cX11_token 22 = .ok (.getfield 152, 3) := by decide +kernel
theorem dX11_token_25 : decode cX11_token 25 = .ok (.iconst 1, 1) := by decide +kernel
theorem dX11_token_26 : decode cX11_token 26 = .ok (.iadd, 1) := by decide +kernel
theorem dX11_token_27 : decode cX11_token 27 = .ok (.putfield 152, 3) := by decide +kernel
theorem dX11_token_30 : decode cX11_token 30 = .ok (.goto (-30), 3) := by decide +kernel
theorem dX11_token_33 : decode cX11_token 33 = .ok (.aload_n 0, 1) := by decide +kernel
theorem dX11_token_34 : decode cX11_token 34 = .ok (.aload_n 0, 1) := by decide +kernel
theorem dX11_token_35 : decode cX11_token 35 = .ok (.getfield 152, 3) := by decide +kernel
theorem dX11_token_38 : decode cX11_token 38 = .ok (.putfield 162, 3) := by decide +kernel
theorem dX11_token_41 : decode cX11_token 41 = .ok (.aload_n 0, 1) := by decide +kernel
theorem dX11_token_42 : decode cX11_token 42 = .ok (.iconst 0, 1) := by decide +kernel
theorem dX11_token_43 : decode cX11_token 43 = .ok (.invokevirtual 158, 3) := by decide +kernel
theorem dX11_token_46 : decode cX11_token 46 = .ok (.istore_n 1, 1) := by decide +kernel
theorem dX11_token_47 : decode cX11_token 47 = .ok (.iconst 0, 1) := by decide +kernel
theorem dX11_token_48 : decode cX11_token 48 = .ok (.istore_n 2, 1) := by decide +kernel
theorem dX11_token_49 : decode cX11_token 49 = .ok (.aload_n 0, 1) := by decide +kernel
theorem dX11_token_50 : decode cX11_token 50 = .ok (.lconst 0, 1) := by decide +kernel
theorem dX11_token_51 : decode cX11_token 51 = .ok (.putfield 165, 3) := by decide +kernel
theorem dX11_token_54 : decode cX11_token 54 = .ok (.aload_n 0, 1) := by decide +kernel
theorem dX11_token_55 : decode cX11_token 55 = .ok (.iconst 0, 1) := by decide +kernel
theorem dX11_token_56 : decode cX11_token 56 = .ok (.putfield 169, 3) := by decide +kernel
theorem dX11_token_59 : decode cX11_token 59 = .ok (.iload_n 1, 1) := by decide +kernel
theorem dX11_token_60 : decode cX11_token 60 = .ok (.ifCond .ge 11, 3) := by decide +kernel
theorem dX11_token_63 : decode cX11_token 63 = .ok (.aload_n 0, 1) := by decide +kernel
theorem dX11_token_64 : decode cX11_token 64 = .ok (.iconst 0, 1) := by decide +kernel
theorem dX11_token_65 : decode cX11_token 65 = .ok (.putfield 172, 3) := by decide +kernel
theorem dX11_token_68 : decode cX11_token 68 = .ok (.goto 164, 3) := by decide +kernel
theorem dX11_token_71 : decode cX11_token 71 = .ok (.iload_n 1, 1) := by decide +kernel
theorem dX11_token_72 : decode cX11_token 72 = .ok (.invokestatic 175, 3) := by decide +kernel
theorem dX11_token_75 : decode cX11_token 75 = .ok (.ifCond .eq 62, 3) := by decide +kernel
theorem dX11_token_78 : decode cX11_token 78 = .ok (.aload_n 0, 1) := by decide +kernel
theorem dX11_token_79 : decode cX11_token 79 = .ok (.iload_n 2, 1) := by decide +kernel
theorem dX11_token_80 : decode cX11_token 80 = .ok (.invokevirtual 158, 3) := by decide +kernel
theorem dX11_token_83 : decode cX11_token 83 = .ok (.invokestatic 175, 3) := by decide +kernel
theorem dX11_token_86 : decode cX11_token 86 = .ok (.ifCond .eq 33, 3) := by decide +kernel
theorem dX11_token_89 : decode cX11_token 89 = .ok (.iload_n 2, 1) := by decide +kernel
theorem dX11_token_90 : decode cX11_token 90 = .ok (.bipush 8, 2) := by decide +kernel
theorem dX11_token_92 : decode cX11_token 92 = .ok (.if_icmp .ge 21, 3) := by decide +kernel
theorem dX11_token_95 : decode cX11_token 95 = .ok (.aload_n 0, 1) := by decide +kernel
theorem dX11_token_96 : decode cX11_token 96 = .ok (.aload_n 0, 1) := by decide +kernel
theorem dX11_token_97 : decode cX11_token 97 = .ok (.getfield 165, 3) := by decide +kernel
theorem dX11_token_100 : decode cX11_token 100 = .ok (.bipush 8, 2) := by decide +kernel
theorem dX11_token_102 : decode cX11_token 102 = .ok (.lshl, 1) := by decide +kernel
theorem dX11_token_103 : decode cX11_token 103 = .ok (.aload_n 0, 1) := by decide +kernel
theorem dX11_token_104 : decode cX11_token 104 = .ok (.iload_n 2, 1) := by decide +kernel
theorem dX11_token_105 : decode cX11_token 105 = .ok (.invokevirtual 158, 3) := by decide +kernel
theorem dX11_token_108 : decode cX11_token 108 = .ok (.i2l, 1) := by decide +kernel
theorem dX11_token_109 : decode cX11_token 109 = .ok (.lor, 1) := by decide +kernel
theorem dX11_token_110 : decode cX11_token 110 = .ok (.putfield 165, 3) := by decide +kernel
theorem dX11_token_113 : decode cX11_token 113 = .ok (.iinc 2 1, 3) := by decide +kernel
theorem dX11_token_116 : decode cX11_token 116 = .ok (.goto (-38), 3) := by decide +kernel
theorem dX11_token_119 : decode cX11_token 119 = .ok (.aload_n 0, 1) := by decide +kernel
theorem dX11_token_120 : decode cX11_token 120 = .ok (.iload_n 2, 1) := by decide +kernel
theorem dX11_token_121 : decode cX11_token 121 = .ok (.bipush 8, 2) := by decide +kernel
theorem dX11_token_123 : decode cX11_token 123 = .ok (.if_icmp .le 7, 3) := by decide +kernel
theorem dX11_token_126 : decode cX11_token 126 = .ok (.iconst 3, 1) := by decide +kernel
theorem dX11_token_127 : decode cX11_token 127 = .ok (.goto 4, 3) := by decide +kernel
theorem dX11_token_130 : decode cX11_token 130 = .ok (.iconst 1, 1) := by decide +kernel
theorem dX11_token_131 : decode cX11_token 131 = .ok (.putfield 172, 3) := by decide +kernel
theorem dX11_token_134 : decode cX11_token 134 = .ok (.goto 98, 3) := by decide +kernel
theorem dX11_token_137 : decode cX11_token 137 = .ok (.iload_n 1, 1) := by decide +kernel
theorem dX11_token_138 : decode cX11_token 138 = .ok (.invokestatic 179, 3) := by decide +kernel
theorem dX11_token_141 : decode cX11_token 141 = .ok (.ifCond .eq 73, 3) := by decide +kernel
theorem dX11_token_144 : decode cX11_token 144 = .ok (.aload_n 0, 1) := by decide +kernel
theorem dX11_token_145 : decode cX11_token 145 = .ok (.iload_n 2, 1) := by decide +kernel
theorem dX11_token_146 : decode cX11_token 146 = .ok (.invokevirtual 158, 3) := by decide +kernel
theorem dX11_token_149 : decode cX11_token 149 = .ok (.invokestatic 179, 3) := by decide +kernel
theorem dX11_token_152 : decode cX11_token 152 = .ok (.ifCond .eq 34, 3) := by decide +kernel
theorem dX11_token_155 : decode cX11_token 155 = .ok (.iload_n 2, 1) := by decide +kernel
theorem dX11_token_156 : decode cX11_token 156 = .ok (.iconst 4, 1) := by decide +kernel
theorem dX11_token_157 : decode cX11_token 157 = .ok (.if_icmp .ge 23, 3) := by decide +kernel
theorem dX11_token_160 : decode cX11_token 160 = .ok (.aload_n 0, 1) := by decide +kernel
theorem dX11_token_161 : decode cX11_token 161 = .ok (.bipush 10, 2) := by decide +kernel
theorem dX11_token_163 : decode cX11_token 163 = .ok (.aload_n 0, 1) := by decide +kernel
theorem dX11_token_164 : decode cX11_token 164 = .ok (.getfield 169, 3) := by decide +kernel
theorem dX11_token_167 : decode cX11_token 167 = .ok (.imul, 1) := by decide +kernel
theorem dX11_token_168 : decode cX11_token 168 = .ok (.aload_n 0, 1) := by decide +kernel
theorem dX11_token_169 : decode cX11_token 169 = .ok (.iload_n 2, 1) := by decide +kernel
theorem dX11_token_170 : decode cX11_token 170 = .ok (.invokevirtual 158, 3) := by decide +kernel
theorem dX11_token_173 : decode cX11_token 173 = .ok (.iadd, 1) := by decide +kernel
theorem dX11_token_174 : decode cX11_token 174 = .ok (.bipush 48, 2) := by decide +kernel
theorem dX11_token_176 : decode cX11_token 176 = .ok (.isub, 1) := by decide +kernel
theorem dX11_token_177 : decode cX11_token 177 = .ok (.putfield 169, 3) := by decide +kernel
theorem dX11_token_180 : decode cX11_token 180 = .ok (.iinc 2 1, 3) := by decide +kernel
theorem dX11_token_183 : decode cX11_token 183 = .ok (.goto (-39), 3) := by decide +kernel
theorem dX11_token_186 : decode cX11_token 186 = .ok (.aload_n 0, 1) := by decide +kernel
theorem dX11_token_187 : decode cX11_token 187 = .ok (.iload_n 2, 1) := by decide +kernel
theorem dX11_token_188 : decode cX11_token 188 = .ok (.iconst 4, 1) := by decide +kernel
theorem dX11_token_189 : decode cX11_token 189 = .ok (.if_icmp .gt 14, 3) := by decide +kernel
theorem dX11_token_192 : decode cX11_token 192 = .ok (.aload_n 0, 1) := by decide +kernel
theorem dX11_token_193 : decode cX11_token 193 = .ok (.iload_n 2, 1) := by decide +kernel
theorem dX11_token_194 : decode cX11_token 194 = .ok (.invokevirtual 158, 3) := by decide +kernel
theorem dX11_token_197 : decode cX11_token 197 = .ok (.invokestatic 175, 3) := by decide +kernel
theorem dX11_token_200 : decode cX11_token 200 = .ok (.ifCond .eq 7, 3) := by decide +kernel
theorem dX11_token_203 : decode cX11_token 203 = .ok (.iconst 3, 1) := by decide +kernel
theorem dX11_token_204 : decode cX11_token 204 = .ok (.goto 4, 3) := by decide +kernel
theorem dX11_token_207 : decode cX11_token 207 = .ok (.iconst 2, 1) := by decide +kernel
theorem dX11_token_208 : decode cX11_token 208 = .ok (.putfield 172, 3) := by decide +kernel
theorem dX11_token_211 : decode cX11_token 211 = .ok (.goto 21, 3) := by decide +kernel
theorem dX11_token_214 : decode cX11_token 214 = .ok (.iconst 1, 1) := by decide +kernel
theorem dX11_token_215 : decode cX11_token 215 = .ok (.istore_n 2, 1) := by decide +kernel
theorem dX11_token_216 : decode cX11_token 216 = .ok (.aload_n 0, 1) := by decide +kernel
theorem dX11_token_217 : decode cX11_token 217 = .ok (.iload_n 1, 1) := by decide +kernel
theorem dX11_token_218 : decode cX11_token 218 = .ok (.invokestatic 182, 3) := by decide +kernel
theorem dX11_token_221 : decode cX11_token 221 = .ok (.ifCond .eq 7, 3) := by decide +kernel
theorem dX11_token_224 : decode cX11_token 224 = .ok (.iload_n 1, 1) := by decide +kernel
theorem dX11_token_225 : decode cX11_token 225 = .ok (.goto 4, 3) := by decide +kernel
theorem dX11_token_228 : decode cX11_token 228 = .ok (.iconst 3, 1) := by decide +kernel
theorem dX11_token_229 : decode cX11_token 229 = .ok (.putfield 172, 3) := by decide +kernel
theorem dX11_token_232 : decode cX11_token 232 = .ok (.aload_n 0, 1) := by decide +kernel
theorem dX11_token_233 : decode cX11_token 233 = .ok (.getfield 172, 3) := by decide +kernel
theorem dX11_token_236 : decode cX11_token 236 = .ok (.iconst 3, 1) := by decide +kernel
theorem dX11_token_237 : decode cX11_token 237 = .ok (.if_icmp .eq 13, 3) := by decide +kernel
theorem dX11_token_240 : decode cX11_token 240 = .ok (.aload_n 0, 1) := by decide +kernel
theorem dX11_token_241 : decode cX11_token 241 = .ok (.dup, 1) := by decide +kernel
theorem dX11_token_242 : decode cX11_token 242 = .ok (.getfield 152, 3) := by decide +kernel
theorem dX11_token_245 : decode cX11_token 245 = .ok (.iload_n 2, 1) := by decide +kernel
theorem dX11_token_246 : decode cX11_token 246 = .ok (.iadd, 1) := by decide +kernel
theorem dX11_token_247 : decode cX11_token 247 = .ok (.putfield 152, 3) := by decide +kernel
theorem dX11_token_250 : decode cX11_token 250 = .ok (.return_, 1) := by decide +kernel
theorem dX11_wrong_0 : decode cX11_wrong 0 = .ok (.aload_n 0, 1) := by decide +kernel
theorem dX11_wrong_1 : decode cX11_wrong 1 = .ok (.getfield 185, 3) := by decide +kernel
theorem dX11_wrong_4 : decode cX11_wrong 4 = .ok (.ifCond .le 4, 3) := by decide +kernel
theorem dX11_wrong_7 : decode cX11_wrong 7 = .ok (.return_, 1) := by decide +kernel
theorem dX11_wrong_8 : decode cX11_wrong 8 = .ok (.aload_n 0, 1) := by decide +kernel
theorem dX11_wrong_9 : decode cX11_wrong 9 = .ok (.aload_n 0, 1) := by decide +kernel
theorem dX11_wrong_10 : decode cX11_wrong 10 = .ok (.getfield 172, 3) := by decide +kernel
theorem dX11_wrong_13 : decode cX11_wrong 13 = .ok (.iconst 3, 1) := by decide +kernel
theorem dX11_wrong_14 : decode cX11_wrong 14 = .ok (.if_icmp .ne 7, 3) := by decide +kernel
theorem dX11_wrong_17 : decode cX11_wrong 17 = .ok (.iconst 1, 1) := by decide +kernel
theorem dX11_wrong_18 : decode cX11_wrong 18 = .ok (.goto 4, 3) := by decide +kernel
theorem dX11_wrong_21 : decode cX11_wrong 21 = .ok (.iload_n 1, 1) := by decide +kernel
theorem dX11_wrong_22 : decode cX11_wrong 22 = .ok (.putfield 185, 3) := by decide +kernel
theorem dX11_wrong_25 : decode cX11_wrong 25 = .ok (.aload_n 0, 1) := by decide +kernel
theorem dX11_wrong_26 : decode cX11_wrong 26 = .ok (.aload_n 0, 1) := by decide +kernel
theorem dX11_wrong_27 : decode cX11_wrong 27 = .ok (.getfield 162, 3) := by decide +kernel
theorem dX11_wrong_30 : decode cX11_wrong 30 = .ok (.putfield 13, 3) := by decide +kernel
theorem dX11_wrong_33 : decode cX11_wrong 33 = .ok (.return_, 1) := by decide +kernel
theorem dX11_isWord_0 : decode cX11_isWord 0 = .ok (.aload_n 0, 1) := by decide +kernel
theorem dX11_isWord_1 : decode cX11_isWord 1 = .ok (.getfield 172, 3) := by decide +kernel
theorem dX11_isWord_4 : decode cX11_isWord 4 = .ok (.iconst 1, 1) := by decide +kernel
theorem dX11_isWord_5 : decode cX11_isWord 5 = .ok (.if_icmp .ne 16, 3) := by decide +kernel
theorem dX11_isWord_8 : decode cX11_isWord 8 = .ok (.aload_n 0, 1) := by decide +kernel
theorem dX11_isWord_9 : decode cX11_isWord 9 = .ok (.getfield 165, 3) := by decide +kernel
theorem dX11_isWord_12 : decode cX11_isWord 12 = .ok (.lload_n 1, 1) := by decide +kernel
theorem dX11_isWord_13 : decode cX11_isWord 13 = .ok (.lcmp, 1) := by decide +kernel
theorem dX11_isWord_14 : decode cX11_isWord 14 = .ok (.ifCond .ne 7, 3) := by decide +kernel
theorem dX11_isWord_17 : decode cX11_isWord 17 = .ok (.iconst 1, 1) := by decide +kernel
theorem dX11_isWord_18 : decode cX11_isWord 18 = .ok (.goto 4, 3) := by decide +kernel
theorem dX11_isWord_21 : decode cX11_isWord 21 = .ok (.iconst 0, 1) := by decide +kernel
theorem dX11_isWord_22 : decode cX11_isWord 22 = .ok (.ireturn, 1) := by decide +kernel
theorem dX11_isOwn_0 : decode cX11_isOwn 0 = .ok (.aload_n 0, 1) := by decide +kernel
theorem dX11_isOwn_1 : decode cX11_isOwn 1 = .ok (.getfield 165, 3) := by decide +kernel
theorem dX11_isOwn_4 : decode cX11_isOwn 4 = .ok (.ldc2_w 188, 3) := by decide +kernel
theorem dX11_isOwn_7 : decode cX11_isOwn 7 = .ok (.lcmp, 1) := by decide +kernel
theorem dX11_isOwn_8 : decode cX11_isOwn 8 = .ok (.ifCond .eq 223, 3) := by decide +kernel
theorem dX11_isOwn_11 : decode cX11_isOwn 11 = .ok (.aload_n 0, 1) := by decide +kernel
theorem dX11_isOwn_12 : decode cX11_isOwn 12 = .ok (.getfield 165, 3) := by decide +kernel
theorem dX11_isOwn_15 : decode cX11_isOwn 15 = .ok (.ldc2_w 190, 3) := by decide +kernel
theorem dX11_isOwn_18 : decode cX11_isOwn 18 = .ok (.lcmp, 1) := by decide +kernel
theorem dX11_isOwn_19 : decode cX11_isOwn 19 = .ok (.ifCond .eq 212, 3) := by decide +kernel
theorem dX11_isOwn_22 : decode cX11_isOwn 22 = .ok (.aload_n 0, 1) := by decide +kernel
theorem dX11_isOwn_23 : decode cX11_isOwn 23 = .ok (.getfield 165, 3) := by decide +kernel
theorem dX11_isOwn_26 : decode cX11_isOwn 26 = .ok (.ldc2_w 192, 3) := by decide +kernel
theorem dX11_isOwn_29 : decode cX11_isOwn 29 = .ok (.lcmp, 1) := by decide +kernel
theorem dX11_isOwn_30 : decode cX11_isOwn 30 = .ok (.ifCond .eq 201, 3) := by decide +kernel
theorem dX11_isOwn_33 : decode cX11_isOwn 33 = .ok (.aload_n 0, 1) := by decide +kernel
theorem dX11_isOwn_34 : decode cX11_isOwn 34 = .ok (.getfield 165, 3) := by decide +kernel
theorem dX11_isOwn_37 : decode cX11_isOwn 37 = .ok (.ldc2_w 194, 3) := by decide +kernel
theorem dX11_isOwn_40 : decode cX11_isOwn 40 = .ok (.lcmp, 1) := by decide +kernel
theorem dX11_isOwn_41 : decode cX11_isOwn 41 = .ok (.ifCond .eq 190, 3) := by decide +kernel
theorem dX11_isOwn_44 : decode cX11_isOwn 44 = .ok (.aload_n 0, 1) := by decide +kernel
theorem dX11_isOwn_45 : decode cX11_isOwn 45 = .ok (.getfield 165, 3) := by decide +kernel
theorem dX11_isOwn_48 : decode cX11_isOwn 48 = .ok (.ldc2_w 196, 3) := by decide +kernel
theorem dX11_isOwn_51 : decode cX11_isOwn 51 = .ok (.lcmp, 1) := by decide +kernel
theorem dX11_isOwn_52 : decode cX11_isOwn 52 = .ok (.ifCond .eq 179, 3) := by decide +kernel
theorem dX11_isOwn_55 : decode cX11_isOwn 55 = .ok (.aload_n 0, 1) := by decide +kernel
theorem dX11_isOwn_56 : decode cX11_isOwn 56 = .ok (.getfield 165, 3) := by decide +kernel
theorem dX11_isOwn_59 : decode cX11_isOwn 59 = .ok (.ldc2_w 198, 3) := by decide +kernel
theorem dX11_isOwn_62 : decode cX11_isOwn 62 = .ok (.lcmp, 1) := by decide +kernel
theorem dX11_isOwn_63 : decode cX11_isOwn 63 = .ok (.ifCond .eq 168, 3) := by decide +kernel
theorem dX11_isOwn_66 : decode cX11_isOwn 66 = .ok (.aload_n 0, 1) := by decide +kernel
theorem dX11_isOwn_67 : decode cX11_isOwn 67 = .ok (.getfield 165, 3) := by decide +kernel
theorem dX11_isOwn_70 : decode cX11_isOwn 70 = .ok (.ldc2_w 200, 3) := by decide +kernel
theorem dX11_isOwn_73 : decode cX11_isOwn 73 = .ok (.lcmp, 1) := by decide +kernel
theorem dX11_isOwn_74 : decode cX11_isOwn 74 = .ok (.ifCond .eq 157, 3) := by decide +kernel
theorem dX11_isOwn_77 : decode cX11_isOwn 77 = .ok (.aload_n 0, 1) := by decide +kernel
theorem dX11_isOwn_78 : decode cX11_isOwn 78 = .ok (.getfield 165, 3) := by decide +kernel
theorem dX11_isOwn_81 : decode cX11_isOwn 81 = .ok (.ldc2_w 202, 3) := by decide +kernel
theorem dX11_isOwn_84 : decode cX11_isOwn 84 = .ok (.lcmp, 1) := by decide +kernel
theorem dX11_isOwn_85 : decode cX11_isOwn 85 = .ok (.ifCond .eq 146, 3) := by decide +kernel
theorem dX11_isOwn_88 : decode cX11_isOwn 88 = .ok (.aload_n 0, 1) := by decide +kernel
theorem dX11_isOwn_89 : decode cX11_isOwn 89 = .ok (.getfield 165, 3) := by decide +kernel
theorem dX11_isOwn_92 : decode cX11_isOwn 92 = .ok (.ldc2_w 204, 3) := by decide +kernel
theorem dX11_isOwn_95 : decode cX11_isOwn 95 = .ok (.lcmp, 1) := by decide +kernel
theorem dX11_isOwn_96 : decode cX11_isOwn 96 = .ok (.ifCond .eq 135, 3) := by decide +kernel
theorem dX11_isOwn_99 : decode cX11_isOwn 99 = .ok (.aload_n 0, 1) := by decide +kernel
theorem dX11_isOwn_100 : decode cX11_isOwn 100 = .ok (.getfield 165, 3) := by decide +kernel
theorem dX11_isOwn_103 : decode cX11_isOwn 103 = .ok (.ldc2_w 206, 3) := by decide +kernel
theorem dX11_isOwn_106 : decode cX11_isOwn 106 = .ok (.lcmp, 1) := by decide +kernel
theorem dX11_isOwn_107 : decode cX11_isOwn 107 = .ok (.ifCond .eq 124, 3) := by decide +kernel
theorem dX11_isOwn_110 : decode cX11_isOwn 110 = .ok (.aload_n 0, 1) := by decide +kernel
theorem dX11_isOwn_111 : decode cX11_isOwn 111 = .ok (.getfield 165, 3) := by decide +kernel
theorem dX11_isOwn_114 : decode cX11_isOwn 114 = .ok (.ldc2_w 208, 3) := by decide +kernel
theorem dX11_isOwn_117 : decode cX11_isOwn 117 = .ok (.lcmp, 1) := by decide +kernel
theorem dX11_isOwn_118 : decode cX11_isOwn 118 = .ok (.ifCond .eq 113, 3) := by decide +kernel
theorem dX11_isOwn_121 : decode cX11_isOwn 121 = .ok (.aload_n 0, 1) := by decide +kernel
theorem dX11_isOwn_122 : decode cX11_isOwn 122 = .ok (.getfield 165, 3) := by decide +kernel
theorem dX11_isOwn_125 : decode cX11_isOwn 125 = .ok (.ldc2_w 210, 3) := by decide +kernel
theorem dX11_isOwn_128 : decode cX11_isOwn 128 = .ok (.lcmp, 1) := by decide +kernel
theorem dX11_isOwn_129 : decode cX11_isOwn 129 = .ok (.ifCond .eq 102, 3) := by decide +kernel
theorem dX11_isOwn_132 : decode cX11_isOwn 132 = .ok (.aload_n 0, 1) := by decide +kernel
theorem dX11_isOwn_133 : decode cX11_isOwn 133 = .ok (.getfield 165, 3) := by decide +kernel
theorem dX11_isOwn_136 : decode cX11_isOwn 136 = .ok (.ldc2_w 212, 3) := by decide +kernel
theorem dX11_isOwn_139 : decode cX11_isOwn 139 = .ok (.lcmp, 1) := by decide +kernel
theorem dX11_isOwn_140 : decode cX11_isOwn 140 = .ok (.ifCond .eq 91, 3) := by decide +kernel
theorem dX11_isOwn_143 : decode cX11_isOwn 143 = .ok (.aload_n 0, 1) := by decide +kernel
theorem dX11_isOwn_144 : decode cX11_isOwn 144 = .ok (.getfield 165, 3) := by decide +kernel
theorem dX11_isOwn_147 : decode cX11_isOwn 147 = .ok (.ldc2_w 214, 3) := by decide +kernel
theorem dX11_isOwn_150 : decode cX11_isOwn 150 = .ok (.lcmp, 1) := by decide +kernel
theorem dX11_isOwn_151 : decode cX11_isOwn 151 = .ok (.ifCond .eq 80, 3) := by decide +kernel
theorem dX11_isOwn_154 : decode cX11_isOwn 154 = .ok (.aload_n 0, 1) := by decide +kernel
theorem dX11_isOwn_155 : decode cX11_isOwn 155 = .ok (.getfield 165, 3) := by decide +kernel
theorem dX11_isOwn_158 : decode cX11_isOwn 158 = .ok (.ldc2_w 216, 3) := by decide +kernel
theorem dX11_isOwn_161 : decode cX11_isOwn 161 = .ok (.lcmp, 1) := by decide +kernel
theorem dX11_isOwn_162 : decode cX11_isOwn 162 = .ok (.ifCond .eq 69, 3) := by decide +kernel
theorem dX11_isOwn_165 : decode cX11_isOwn 165 = .ok (.aload_n 0, 1) := by decide +kernel
theorem dX11_isOwn_166 : decode cX11_isOwn 166 = .ok (.getfield 165, 3) := by decide +kernel
theorem dX11_isOwn_169 : decode cX11_isOwn 169 = .ok (.ldc2_w 218, 3) := by decide +kernel
theorem dX11_isOwn_172 : decode cX11_isOwn 172 = .ok (.lcmp, 1) := by decide +kernel
theorem dX11_isOwn_173 : decode cX11_isOwn 173 = .ok (.ifCond .eq 58, 3) := by decide +kernel
theorem dX11_isOwn_176 : decode cX11_isOwn 176 = .ok (.aload_n 0, 1) := by decide +kernel
theorem dX11_isOwn_177 : decode cX11_isOwn 177 = .ok (.getfield 165, 3) := by decide +kernel
theorem dX11_isOwn_180 : decode cX11_isOwn 180 = .ok (.ldc2_w 220, 3) := by decide +kernel
theorem dX11_isOwn_183 : decode cX11_isOwn 183 = .ok (.lcmp, 1) := by decide +kernel
theorem dX11_isOwn_184 : decode cX11_isOwn 184 = .ok (.ifCond .eq 47, 3) := by decide +kernel
theorem dX11_isOwn_187 : decode cX11_isOwn 187 = .ok (.aload_n 0, 1) := by decide +kernel
theorem dX11_isOwn_188 : decode cX11_isOwn 188 = .ok (.getfield 165, 3) := by decide +kernel
theorem dX11_isOwn_191 : decode cX11_isOwn 191 = .ok (.ldc2_w 222, 3) := by decide +kernel
theorem dX11_isOwn_194 : decode cX11_isOwn 194 = .ok (.lcmp, 1) := by decide +kernel
theorem dX11_isOwn_195 : decode cX11_isOwn 195 = .ok (.ifCond .eq 36, 3) := by decide +kernel
theorem dX11_isOwn_198 : decode cX11_isOwn 198 = .ok (.aload_n 0, 1) := by decide +kernel
theorem dX11_isOwn_199 : decode cX11_isOwn 199 = .ok (.getfield 165, 3) := by decide +kernel
theorem dX11_isOwn_202 : decode cX11_isOwn 202 = .ok (.ldc2_w 224, 3) := by decide +kernel
theorem dX11_isOwn_205 : decode cX11_isOwn 205 = .ok (.lcmp, 1) := by decide +kernel
theorem dX11_isOwn_206 : decode cX11_isOwn 206 = .ok (.ifCond .eq 25, 3) := by decide +kernel
theorem dX11_isOwn_209 : decode cX11_isOwn 209 = .ok (.aload_n 0, 1) := by decide +kernel
theorem dX11_isOwn_210 : decode cX11_isOwn 210 = .ok (.getfield 165, 3) := by decide +kernel
theorem dX11_isOwn_213 : decode cX11_isOwn 213 = .ok (.ldc2_w 226, 3) := by decide +kernel
theorem dX11_isOwn_216 : decode cX11_isOwn 216 = .ok (.lcmp, 1) := by decide +kernel
theorem dX11_isOwn_217 : decode cX11_isOwn 217 = .ok (.ifCond .eq 14, 3) := by decide +kernel
theorem dX11_isOwn_220 : decode cX11_isOwn 220 = .ok (.aload_n 0, 1) := by decide +kernel
theorem dX11_isOwn_221 : decode cX11_isOwn 221 = .ok (.getfield 165, 3) := by decide +kernel
theorem dX11_isOwn_224 : decode cX11_isOwn 224 = .ok (.ldc2_w 228, 3) := by decide +kernel
theorem dX11_isOwn_227 : decode cX11_isOwn 227 = .ok (.lcmp, 1) := by decide +kernel
theorem dX11_isOwn_228 : decode cX11_isOwn 228 = .ok (.ifCond .ne 7, 3) := by decide +kernel
theorem dX11_isOwn_231 : decode cX11_isOwn 231 = .ok (.iconst 1, 1) := by decide +kernel
theorem dX11_isOwn_232 : decode cX11_isOwn 232 = .ok (.goto 4, 3) := by decide +kernel
theorem dX11_isOwn_235 : decode cX11_isOwn 235 = .ok (.iconst 0, 1) := by decide +kernel
theorem dX11_isOwn_236 : decode cX11_isOwn 236 = .ok (.ireturn, 1) := by decide +kernel
theorem dX11_isName_0 : decode cX11_isName 0 = .ok (.aload_n 0, 1) := by decide +kernel
theorem dX11_isName_1 : decode cX11_isName 1 = .ok (.getfield 172, 3) := by decide +kernel
theorem dX11_isName_4 : decode cX11_isName 4 = .ok (.iconst 1, 1) := by decide +kernel
theorem dX11_isName_5 : decode cX11_isName 5 = .ok (.if_icmp .ne 14, 3) := by decide +kernel
theorem dX11_isName_8 : decode cX11_isName 8 = .ok (.aload_n 0, 1) := by decide +kernel
theorem dX11_isName_9 : decode cX11_isName 9 = .ok (.invokevirtual 230, 3) := by decide +kernel
theorem dX11_isName_12 : decode cX11_isName 12 = .ok (.ifCond .ne 7, 3) := by decide +kernel
theorem dX11_isName_15 : decode cX11_isName 15 = .ok (.iconst 1, 1) := by decide +kernel
theorem dX11_isName_16 : decode cX11_isName 16 = .ok (.goto 4, 3) := by decide +kernel
theorem dX11_isName_19 : decode cX11_isName 19 = .ok (.iconst 0, 1) := by decide +kernel
theorem dX11_isName_20 : decode cX11_isName 20 = .ok (.ireturn, 1) := by decide +kernel
theorem dX11_want_0 : decode cX11_want 0 = .ok (.aload_n 0, 1) := by decide +kernel
theorem dX11_want_1 : decode cX11_want 1 = .ok (.getfield 185, 3) := by decide +kernel
theorem dX11_want_4 : decode cX11_want 4 = .ok (.ifCond .le 4, 3) := by decide +kernel
theorem dX11_want_7 : decode cX11_want 7 = .ok (.return_, 1) := by decide +kernel
theorem dX11_want_8 : decode cX11_want 8 = .ok (.aload_n 0, 1) := by decide +kernel
theorem dX11_want_9 : decode cX11_want 9 = .ok (.lload_n 1, 1) := by decide +kernel
theorem dX11_want_10 : decode cX11_want 10 = .ok (.invokevirtual 234, 3) := by decide +kernel
theorem dX11_want_13 : decode cX11_want 13 = .ok (.ifCond .ne 11, 3) := by decide +kernel
theorem dX11_want_16 : decode cX11_want 16 = .ok (.aload_n 0, 1) := by decide +kernel
theorem dX11_want_17 : decode cX11_want 17 = .ok (.iconst 2, 1) := by decide +kernel
theorem dX11_want_18 : decode cX11_want 18 = .ok (.invokevirtual 238, 3) := by decide +kernel
theorem dX11_want_21 : decode cX11_want 21 = .ok (.goto 7, 3) := by decide +kernel
theorem dX11_want_24 : decode cX11_want 24 = .ok (.aload_n 0, 1) := by decide +kernel
theorem dX11_want_25 : decode cX11_want 25 = .ok (.invokevirtual 241, 3) := by decide +kernel
theorem dX11_want_28 : decode cX11_want 28 = .ok (.return_, 1) := by decide +kernel
theorem dX11_toldNumber_0 : decode cX11_toldNumber 0 = .ok (.aload_n 0, 1) := by decide +kernel
theorem dX11_toldNumber_1 : decode cX11_toldNumber 1 = .ok (.getfield 185, 3) := by decide +kernel
theorem dX11_toldNumber_4 : decode cX11_toldNumber 4 = .ok (.ifCond .le 5, 3) := by decide +kernel
theorem dX11_toldNumber_7 : decode cX11_toldNumber 7 = .ok (.iconst 0, 1) := by decide +kernel
theorem dX11_toldNumber_8 : decode cX11_toldNumber 8 = .ok (.ireturn, 1) := by decide +kernel
theorem dX11_toldNumber_9 : decode cX11_toldNumber 9 = .ok (.aload_n 0, 1) := by decide +kernel
theorem dX11_toldNumber_10 : decode cX11_toldNumber 10 = .ok (.getfield 172, 3) := by decide +kernel
theorem dX11_toldNumber_13 : decode cX11_toldNumber 13 = .ok (.iconst 2, 1) := by decide +kernel
theorem dX11_toldNumber_14 : decode cX11_toldNumber 14 = .ok (.if_icmp .eq 11, 3) := by decide +kernel
theorem dX11_toldNumber_17 : decode cX11_toldNumber 17 = .ok (.aload_n 0, 1) := by decide +kernel
theorem dX11_toldNumber_18 : decode cX11_toldNumber 18 = .ok (.iconst 2, 1) := by decide +kernel
theorem dX11_toldNumber_19 : decode cX11_toldNumber 19 = .ok (.invokevirtual 238, 3) := by decide +kernel
theorem dX11_toldNumber_22 : decode cX11_toldNumber 22 = .ok (.goto 24, 3) := by decide +kernel
theorem dX11_toldNumber_25 : decode cX11_toldNumber 25 = .ok (.aload_n 0, 1) := by decide +kernel
theorem dX11_toldNumber_26 : decode cX11_toldNumber 26 = .ok (.getfield 169, 3) := by decide +kernel
theorem dX11_toldNumber_29 : decode cX11_toldNumber 29 = .ok (.iload_n 1, 1) := by decide +kernel
theorem dX11_toldNumber_30 : decode cX11_toldNumber 30 = .ok (.if_icmp .lt 11, 3) := by decide +kernel
theorem dX11_toldNumber_33 : decode cX11_toldNumber 33 = .ok (.aload_n 0, 1) := by decide +kernel
theorem dX11_toldNumber_34 : decode cX11_toldNumber 34 = .ok (.getfield 169, 3) := by decide +kernel
theorem dX11_toldNumber_37 : decode cX11_toldNumber 37 = .ok (.iload_n 2, 1) := by decide +kernel
theorem dX11_toldNumber_38 : decode cX11_toldNumber 38 = .ok (.if_icmp .le 8, 3) := by decide +kernel
theorem dX11_toldNumber_41 : decode cX11_toldNumber 41 = .ok (.aload_n 0, 1) := by decide +kernel
theorem dX11_toldNumber_42 : decode cX11_toldNumber 42 = .ok (.iconst 4, 1) := by decide +kernel
theorem dX11_toldNumber_43 : decode cX11_toldNumber 43 = .ok (.invokevirtual 238, 3) := by decide +kernel
theorem dX11_toldNumber_46 : decode cX11_toldNumber 46 = .ok (.aload_n 0, 1) := by decide +kernel
theorem dX11_toldNumber_47 : decode cX11_toldNumber 47 = .ok (.getfield 169, 3) := by decide +kernel
theorem dX11_toldNumber_50 : decode cX11_toldNumber 50 = .ok (.istore_n 3, 1) := by decide +kernel
theorem dX11_toldNumber_51 : decode cX11_toldNumber 51 = .ok (.aload_n 0, 1) := by decide +kernel
theorem dX11_toldNumber_52 : decode cX11_toldNumber 52 = .ok (.getfield 185, 3) := by decide +kernel
theorem dX11_toldNumber_55 : decode cX11_toldNumber 55 = .ok (.ifCond .ne 7, 3) := by decide +kernel
theorem dX11_toldNumber_58 : decode cX11_toldNumber 58 = .ok (.aload_n 0, 1) := by decide +kernel
theorem dX11_toldNumber_59 : decode cX11_toldNumber 59 = .ok (.invokevirtual 241, 3) := by decide +kernel
theorem dX11_toldNumber_62 : decode cX11_toldNumber 62 = .ok (.iload_n 3, 1) := by decide +kernel
theorem dX11_toldNumber_63 : decode cX11_toldNumber 63 = .ok (.ireturn, 1) := by decide +kernel
theorem dX11_told_0 : decode cX11_told 0 = .ok (.aload_n 0, 1) := by decide +kernel
theorem dX11_told_1 : decode cX11_told 1 = .ok (.lload_n 1, 1) := by decide +kernel
theorem dX11_told_2 : decode cX11_told 2 = .ok (.invokevirtual 244, 3) := by decide +kernel
theorem dX11_told_5 : decode cX11_told 5 = .ok (.aload_n 0, 1) := by decide +kernel
theorem dX11_told_6 : decode cX11_told 6 = .ok (.iload_n 3, 1) := by decide +kernel
theorem dX11_told_7 : decode cX11_told 7 = .ok (.iload 4, 2) := by decide +kernel
theorem dX11_told_9 : decode cX11_told 9 = .ok (.invokevirtual 248, 3) := by decide +kernel
theorem dX11_told_12 : decode cX11_told 12 = .ok (.ireturn, 1) := by decide +kernel
theorem dX11_takes_0 : decode cX11_takes 0 = .ok (.aload_n 0, 1) := by decide +kernel
theorem dX11_takes_1 : decode cX11_takes 1 = .ok (.getfield 185, 3) := by decide +kernel
theorem dX11_takes_4 : decode cX11_takes 4 = .ok (.ifCond .ne 15, 3) := by decide +kernel
theorem dX11_takes_7 : decode cX11_takes 7 = .ok (.aload_n 0, 1) := by decide +kernel
theorem dX11_takes_8 : decode cX11_takes 8 = .ok (.lload_n 1, 1) := by decide +kernel
theorem dX11_takes_9 : decode cX11_takes 9 = .ok (.invokevirtual 234, 3) := by decide +kernel
theorem dX11_takes_12 : decode cX11_takes 12 = .ok (.ifCond .eq 7, 3) := by decide +kernel
theorem dX11_takes_15 : decode cX11_takes 15 = .ok (.iconst 1, 1) := by decide +kernel
theorem dX11_takes_16 : decode cX11_takes 16 = .ok (.goto 4, 3) := by decide +kernel
theorem dX11_takes_19 : decode cX11_takes 19 = .ok (.iconst 0, 1) := by decide +kernel
theorem dX11_takes_20 : decode cX11_takes 20 = .ok (.istore_n 3, 1) := by decide +kernel
theorem dX11_takes_21 : decode cX11_takes 21 = .ok (.iload_n 3, 1) := by decide +kernel
theorem dX11_takes_22 : decode cX11_takes 22 = .ok (.ifCond .eq 7, 3) := by decide +kernel
theorem dX11_takes_25 : decode cX11_takes 25 = .ok (.aload_n 0, 1) := by decide +kernel
theorem dX11_takes_26 : decode cX11_takes 26 = .ok (.invokevirtual 241, 3) := by decide +kernel
theorem dX11_takes_29 : decode cX11_takes 29 = .ok (.iload_n 3, 1) := by decide +kernel
theorem dX11_takes_30 : decode cX11_takes 30 = .ok (.ireturn, 1) := by decide +kernel
theorem dX11_find_0 : decode cX11_find 0 = .ok (.iconst (-1), 1) := by decide +kernel
theorem dX11_find_1 : decode cX11_find 1 = .ok (.istore_n 3, 1) := by decide +kernel
theorem dX11_find_2 : decode cX11_find 2 = .ok (.iconst 0, 1) := by decide +kernel
theorem dX11_find_3 : decode cX11_find 3 = .ok (.istore 4, 2) := by decide +kernel
theorem dX11_find_5 : decode cX11_find 5 = .ok (.iload 4, 2) := by decide +kernel
theorem dX11_find_7 : decode cX11_find 7 = .ok (.iload_n 2, 1) := by decide +kernel
theorem dX11_find_8 : decode cX11_find 8 = .ok (.if_icmp .ge 33, 3) := by decide +kernel
theorem dX11_find_11 : decode cX11_find 11 = .ok (.aload_n 0, 1) := by decide +kernel
theorem dX11_find_12 : decode cX11_find 12 = .ok (.getfield 17, 3) := by decide +kernel
theorem dX11_find_15 : decode cX11_find 15 = .ok (.iload_n 1, 1) := by decide +kernel
theorem dX11_find_16 : decode cX11_find 16 = .ok (.iload 4, 2) := by decide +kernel
theorem dX11_find_18 : decode cX11_find 18 = .ok (.iadd, 1) := by decide +kernel
theorem dX11_find_19 : decode cX11_find 19 = .ok (.laload, 1) := by decide +kernel
theorem dX11_find_20 : decode cX11_find 20 = .ok (.aload_n 0, 1) := by decide +kernel
theorem dX11_find_21 : decode cX11_find 21 = .ok (.getfield 165, 3) := by decide +kernel
theorem dX11_find_24 : decode cX11_find 24 = .ok (.lcmp, 1) := by decide +kernel
theorem dX11_find_25 : decode cX11_find 25 = .ok (.ifCond .ne 8, 3) := by decide +kernel
theorem dX11_find_28 : decode cX11_find 28 = .ok (.iload 4, 2) := by decide +kernel
theorem dX11_find_30 : decode cX11_find 30 = .ok (.goto 4, 3) := by decide +kernel
theorem dX11_find_33 : decode cX11_find 33 = .ok (.iload_n 3, 1) := by decide +kernel
theorem dX11_find_34 : decode cX11_find 34 = .ok (.istore_n 3, 1) := by decide +kernel
theorem dX11_find_35 : decode cX11_find 35 = .ok (.iinc 4 1, 3) := by decide +kernel
theorem dX11_find_38 : decode cX11_find 38 = .ok (.goto (-33), 3) := by decide +kernel
theorem dX11_find_41 : decode cX11_find 41 = .ok (.iload_n 3, 1) := by decide +kernel
theorem dX11_find_42 : decode cX11_find 42 = .ok (.ireturn, 1) := by decide +kernel
theorem dX11_newName_0 : decode cX11_newName 0 = .ok (.aload_n 0, 1) := by decide +kernel
theorem dX11_newName_1 : decode cX11_newName 1 = .ok (.invokevirtual 241, 3) := by decide +kernel
theorem dX11_newName_4 : decode cX11_newName 4 = .ok (.aload_n 0, 1) := by decide +kernel
theorem dX11_newName_5 : decode cX11_newName 5 = .ok (.invokevirtual 252, 3) := by decide +kernel
theorem dX11_newName_8 : decode cX11_newName 8 = .ok (.ifCond .ne 11, 3) := by decide +kernel
theorem dX11_newName_11 : decode cX11_newName 11 = .ok (.aload_n 0, 1) := by decide +kernel
theorem dX11_newName_12 : decode cX11_newName 12 = .ok (.iconst 2, 1) := by decide +kernel
theorem dX11_newName_13 : decode cX11_newName 13 = .ok (.invokevirtual 238, 3) := by decide +kernel
theorem dX11_newName_16 : decode cX11_newName 16 = .ok (.goto 17, 3) := by decide +kernel
theorem dX11_newName_19 : decode cX11_newName 19 = .ok (.aload_n 0, 1) := by decide +kernel
theorem dX11_newName_20 : decode cX11_newName 20 = .ok (.iload_n 1, 1) := by decide +kernel
theorem dX11_newName_21 : decode cX11_newName 21 = .ok (.iload_n 2, 1) := by decide +kernel
theorem dX11_newName_22 : decode cX11_newName 22 = .ok (.invokevirtual 255, 3) := by decide +kernel
theorem dX11_newName_25 : decode cX11_newName 25 = .ok (.ifCond .lt 8, 3) := by decide +kernel
theorem dX11_newName_28 : decode cX11_newName 28 = .ok (.aload_n 0, 1) := by decide +kernel
theorem dX11_newName_29 : decode cX11_newName 29 = .ok (.iconst 3, 1) := by decide +kernel
theorem dX11_newName_30 : decode cX11_newName 30 = .ok (.invokevirtual 238, 3) := by decide +kernel
theorem dX11_newName_33 : decode cX11_newName 33 = .ok (.aload_n 0, 1) := by decide +kernel
theorem dX11_newName_34 : decode cX11_newName 34 = .ok (.getfield 185, 3) := by decide +kernel
theorem dX11_newName_37 : decode cX11_newName 37 = .ok (.ifCond .le 4, 3) := by decide +kernel
theorem dX11_newName_40 : decode cX11_newName 40 = .ok (.return_, 1) := by decide +kernel
theorem dX11_newName_41 : decode cX11_newName 41 = .ok (.aload_n 0, 1) := by decide +kernel
theorem dX11_newName_42 : decode cX11_newName 42 = .ok (.getfield 17, 3) := by decide +kernel
theorem dX11_newName_45 : decode cX11_newName 45 = .ok (.iload_n 1, 1) := by decide +kernel
theorem dX11_newName_46 : decode cX11_newName 46 = .ok (.iload_n 2, 1) := by decide +kernel
theorem dX11_newName_47 : decode cX11_newName 47 = .ok (.iadd, 1) := by decide +kernel
theorem dX11_newName_48 : decode cX11_newName 48 = .ok (.aload_n 0, 1) := by decide +kernel
theorem dX11_newName_49 : decode cX11_newName 49 = .ok (.getfield 165, 3) := by decide +kernel
theorem dX11_newName_52 : decode cX11_newName 52 = .ok (.lastore, 1) := by decide +kernel
theorem dX11_newName_53 : decode cX11_newName 53 = .ok (.aload_n 0, 1) := by decide +kernel
theorem dX11_newName_54 : decode cX11_newName 54 = .ok (.invokevirtual 241, 3) := by decide +kernel
theorem dX11_newName_57 : decode cX11_newName 57 = .ok (.return_, 1) := by decide +kernel
theorem dX11_oldName_0 : decode cX11_oldName 0 = .ok (.aload_n 0, 1) := by decide +kernel
theorem dX11_oldName_1 : decode cX11_oldName 1 = .ok (.getfield 185, 3) := by decide +kernel
theorem dX11_oldName_4 : decode cX11_oldName 4 = .ok (.ifCond .le 5, 3) := by decide +kernel
theorem dX11_oldName_7 : decode cX11_oldName 7 = .ok (.iconst 0, 1) := by decide +kernel
theorem dX11_oldName_8 : decode cX11_oldName 8 = .ok (.ireturn, 1) := by decide +kernel
theorem dX11_oldName_9 : decode cX11_oldName 9 = .ok (.aload_n 0, 1) := by decide +kernel
theorem dX11_oldName_10 : decode cX11_oldName 10 = .ok (.invokevirtual 252, 3) := by decide +kernel
theorem dX11_oldName_13 : decode cX11_oldName 13 = .ok (.ifCond .ne 11, 3) := by decide +kernel
theorem dX11_oldName_16 : decode cX11_oldName 16 = .ok (.aload_n 0, 1) := by decide +kernel
theorem dX11_oldName_17 : decode cX11_oldName 17 = .ok (.iconst 2, 1) := by decide +kernel
theorem dX11_oldName_18 : decode cX11_oldName 18 = .ok (.invokevirtual 238, 3) := by decide +kernel
theorem dX11_oldName_21 : decode cX11_oldName 21 = .ok (.goto 17, 3) := by decide +kernel
theorem dX11_oldName_24 : decode cX11_oldName 24 = .ok (.aload_n 0, 1) := by decide +kernel
theorem dX11_oldName_25 : decode cX11_oldName 25 = .ok (.iload_n 1, 1) := by decide +kernel
theorem dX11_oldName_26 : decode cX11_oldName 26 = .ok (.iload_n 2, 1) := by decide +kernel
theorem dX11_oldName_27 : decode cX11_oldName 27 = .ok (.invokevirtual 255, 3) := by decide +kernel
theorem dX11_oldName_30 : decode cX11_oldName 30 = .ok (.ifCond .ge 8, 3) := by decide +kernel
theorem dX11_oldName_33 : decode cX11_oldName 33 = .ok (.aload_n 0, 1) := by decide +kernel
theorem dX11_oldName_34 : decode cX11_oldName 34 = .ok (.iconst 5, 1) := by decide +kernel
theorem dX11_oldName_35 : decode cX11_oldName 35 = .ok (.invokevirtual 238, 3) := by decide +kernel
theorem dX11_oldName_38 : decode cX11_oldName 38 = .ok (.aload_n 0, 1) := by decide +kernel
theorem dX11_oldName_39 : decode cX11_oldName 39 = .ok (.getfield 185, 3) := by decide +kernel
theorem dX11_oldName_42 : decode cX11_oldName 42 = .ok (.ifCond .le 7, 3) := by decide +kernel
theorem dX11_oldName_45 : decode cX11_oldName 45 = .ok (.iconst 0, 1) := by decide +kernel
theorem dX11_oldName_46 : decode cX11_oldName 46 = .ok (.goto 9, 3) := by decide +kernel
theorem dX11_oldName_49 : decode cX11_oldName 49 = .ok (.aload_n 0, 1) := by decide +kernel
theorem dX11_oldName_50 : decode cX11_oldName 50 = .ok (.iload_n 1, 1) := by decide +kernel
theorem dX11_oldName_51 : decode cX11_oldName 51 = .ok (.iload_n 2, 1) := by decide +kernel
theorem dX11_oldName_52 : decode cX11_oldName 52 = .ok (.invokevirtual 255, 3) := by decide +kernel
theorem dX11_oldName_55 : decode cX11_oldName 55 = .ok (.ireturn, 1) := by decide +kernel
theorem dX11_oldPerson_0 : decode cX11_oldPerson 0 = .ok (.aload_n 0, 1) := by decide +kernel
theorem dX11_oldPerson_1 : decode cX11_oldPerson 1 = .ok (.iconst 4, 1) := by decide +kernel
theorem dX11_oldPerson_2 : decode cX11_oldPerson 2 = .ok (.aload_n 0, 1) := by decide +kernel
theorem dX11_oldPerson_3 : decode cX11_oldPerson 3 = .ok (.getfield 258, 3) := by decide +kernel
theorem dX11_oldPerson_6 : decode cX11_oldPerson 6 = .ok (.invokevirtual 261, 3) := by decide +kernel
theorem dX11_oldPerson_9 : decode cX11_oldPerson 9 = .ok (.ireturn, 1) := by decide +kernel
theorem dX11_church_0 : decode cX11_church 0 = .ok (.aload_n 0, 1) := by decide +kernel
theorem dX11_church_1 : decode cX11_church 1 = .ok (.iconst 0, 1) := by decide +kernel
theorem dX11_church_2 : decode cX11_church 2 = .ok (.aload_n 0, 1) := by decide +kernel
theorem dX11_church_3 : decode cX11_church 3 = .ok (.getfield 264, 3) := by decide +kernel
theorem dX11_church_6 : decode cX11_church 6 = .ok (.invokevirtual 261, 3) := by decide +kernel
theorem dX11_church_9 : decode cX11_church 9 = .ok (.istore_n 1, 1) := by decide +kernel
theorem dX11_church_10 : decode cX11_church 10 = .ok (.aload_n 0, 1) := by decide +kernel
theorem dX11_church_11 : decode cX11_church 11 = .ok (.getfield 185, 3) := by decide +kernel
theorem dX11_church_14 : decode cX11_church 14 = .ok (.ifCond .ne 7, 3) := by decide +kernel
theorem dX11_church_17 : decode cX11_church 17 = .ok (.aload_n 0, 1) := by decide +kernel
theorem dX11_church_18 : decode cX11_church 18 = .ok (.invokevirtual 241, 3) := by decide +kernel
theorem dX11_church_21 : decode cX11_church 21 = .ok (.iload_n 1, 1) := by decide +kernel
theorem dX11_church_22 : decode cX11_church 22 = .ok (.ireturn, 1) := by decide +kernel
theorem dX11_add_0 : decode cX11_add 0 = .ok (.aload_n 0, 1) := by decide +kernel
theorem dX11_add_1 : decode cX11_add 1 = .ok (.getfield 21, 3) := by decide +kernel
theorem dX11_add_4 : decode cX11_add 4 = .ok (.aload_n 0, 1) := by decide +kernel
theorem dX11_add_5 : decode cX11_add 5 = .ok (.getfield 267, 3) := by decide +kernel
theorem dX11_add_8 : decode cX11_add 8 = .ok (.iload_n 1, 1) := by decide +kernel
theorem dX11_add_9 : decode cX11_add 9 = .ok (.iastore, 1) := by decide +kernel
theorem dX11_add_10 : decode cX11_add 10 = .ok (.aload_n 0, 1) := by decide +kernel
theorem dX11_add_11 : decode cX11_add 11 = .ok (.getfield 24, 3) := by decide +kernel
theorem dX11_add_14 : decode cX11_add 14 = .ok (.aload_n 0, 1) := by decide +kernel
theorem dX11_add_15 : decode cX11_add 15 = .ok (.getfield 267, 3) := by decide +kernel
theorem dX11_add_18 : decode cX11_add 18 = .ok (.iload_n 2, 1) := by decide +kernel
theorem dX11_add_19 : decode cX11_add 19 = .ok (.iastore, 1) := by decide +kernel
theorem dX11_add_20 : decode cX11_add 20 = .ok (.aload_n 0, 1) := by decide +kernel
theorem dX11_add_21 : decode cX11_add 21 = .ok (.dup, 1) := by decide +kernel
theorem dX11_add_22 : decode cX11_add 22 = .ok (.getfield 267, 3) := by decide +kernel
theorem dX11_add_25 : decode cX11_add 25 = .ok (.iconst 1, 1) := by decide +kernel
theorem dX11_add_26 : decode cX11_add 26 = .ok (.iadd, 1) := by decide +kernel
theorem dX11_add_27 : decode cX11_add 27 = .ok (.putfield 267, 3) := by decide +kernel
theorem dX11_add_30 : decode cX11_add 30 = .ok (.return_, 1) := by decide +kernel
theorem dX11_tight_0 : decode cX11_tight 0 = .ok (.iload_n 0, 1) := by decide +kernel
theorem dX11_tight_1 : decode cX11_tight 1 = .ok (.lookupswitch 85 #[(21, 79), (38, 77), (43, 83), (45, 83), (60, 81), (61, 81), (62, 81), (124, 75)], 75) := by decide +kernel
theorem dX11_tight_76 : decode cX11_tight 76 = .ok (.iconst 1, 1) := by decide +kernel
theorem dX11_tight_77 : decode cX11_tight 77 = .ok (.ireturn, 1) := by decide +kernel
theorem dX11_tight_78 : decode cX11_tight 78 = .ok (.iconst 2, 1) := by decide +kernel
theorem dX11_tight_79 : decode cX11_tight 79 = .ok (.ireturn, 1) := by decide +kernel
theorem dX11_tight_80 : decode cX11_tight 80 = .ok (.iconst 3, 1) := by decide +kernel
theorem dX11_tight_81 : decode cX11_tight 81 = .ok (.ireturn, 1) := by decide +kernel
theorem dX11_tight_82 : decode cX11_tight 82 = .ok (.iconst 4, 1) := by decide +kernel
theorem dX11_tight_83 : decode cX11_tight 83 = .ok (.ireturn, 1) := by decide +kernel
theorem dX11_tight_84 : decode cX11_tight 84 = .ok (.iconst 5, 1) := by decide +kernel
theorem dX11_tight_85 : decode cX11_tight 85 = .ok (.ireturn, 1) := by decide +kernel
theorem dX11_tight_86 : decode cX11_tight 86 = .ok (.bipush 6, 2) := by decide +kernel
theorem dX11_tight_88 : decode cX11_tight 88 = .ok (.ireturn, 1) := by decide +kernel
theorem dX11_close_0 : decode cX11_close 0 = .ok (.aload_n 0, 1) := by decide +kernel
theorem dX11_close_1 : decode cX11_close 1 = .ok (.getfield 270, 3) := by decide +kernel
theorem dX11_close_4 : decode cX11_close 4 = .ok (.ifCond .le 97, 3) := by decide +kernel
theorem dX11_close_7 : decode cX11_close 7 = .ok (.aload_n 0, 1) := by decide +kernel
theorem dX11_close_8 : decode cX11_close 8 = .ok (.getfield 33, 3) := by decide +kernel
theorem dX11_close_11 : decode cX11_close 11 = .ok (.aload_n 0, 1) := by decide +kernel
theorem dX11_close_12 : decode cX11_close 12 = .ok (.getfield 270, 3) := by decide +kernel
theorem dX11_close_15 : decode cX11_close 15 = .ok (.iconst 1, 1) := by decide +kernel
theorem dX11_close_16 : decode cX11_close 16 = .ok (.isub, 1) := by decide +kernel
theorem dX11_close_17 : decode cX11_close 17 = .ok (.iaload, 1) := by decide +kernel
theorem dX11_close_18 : decode cX11_close 18 = .ok (.bipush 20, 2) := by decide +kernel
theorem dX11_close_20 : decode cX11_close 20 = .ok (.if_icmp .eq 81, 3) := by decide +kernel
theorem dX11_close_23 : decode cX11_close 23 = .ok (.aload_n 0, 1) := by decide +kernel
theorem dX11_close_24 : decode cX11_close 24 = .ok (.getfield 33, 3) := by decide +kernel
theorem dX11_close_27 : decode cX11_close 27 = .ok (.aload_n 0, 1) := by decide +kernel
theorem dX11_close_28 : decode cX11_close 28 = .ok (.getfield 270, 3) := by decide +kernel
theorem dX11_close_31 : decode cX11_close 31 = .ok (.iconst 1, 1) := by decide +kernel
theorem dX11_close_32 : decode cX11_close 32 = .ok (.isub, 1) := by decide +kernel
theorem dX11_close_33 : decode cX11_close 33 = .ok (.iaload, 1) := by decide +kernel
theorem dX11_close_34 : decode cX11_close 34 = .ok (.invokestatic 273, 3) := by decide +kernel
theorem dX11_close_37 : decode cX11_close 37 = .ok (.iload_n 1, 1) := by decide +kernel
theorem dX11_close_38 : decode cX11_close 38 = .ok (.if_icmp .lt 63, 3) := by decide +kernel
theorem dX11_close_41 : decode cX11_close 41 = .ok (.aload_n 0, 1) := by decide +kernel
theorem dX11_close_42 : decode cX11_close 42 = .ok (.dup, 1) := by decide +kernel
theorem dX11_close_43 : decode cX11_close 43 = .ok (.getfield 270, 3) := by decide +kernel
theorem dX11_close_46 : decode cX11_close 46 = .ok (.iconst 1, 1) := by decide +kernel
theorem dX11_close_47 : decode cX11_close 47 = .ok (.isub, 1) := by decide +kernel
theorem dX11_close_48 : decode cX11_close 48 = .ok (.putfield 270, 3) := by decide +kernel
theorem dX11_close_51 : decode cX11_close 51 = .ok (.aload_n 0, 1) := by decide +kernel
theorem dX11_close_52 : decode cX11_close 52 = .ok (.getfield 33, 3) := by decide +kernel
theorem dX11_close_55 : decode cX11_close 55 = .ok (.aload_n 0, 1) := by decide +kernel
theorem dX11_close_56 : decode cX11_close 56 = .ok (.getfield 270, 3) := by decide +kernel
theorem dX11_close_59 : decode cX11_close 59 = .ok (.iaload, 1) := by decide +kernel
theorem dX11_close_60 : decode cX11_close 60 = .ok (.bipush 21, 2) := by decide +kernel
theorem dX11_close_62 : decode cX11_close 62 = .ok (.if_icmp .ne 22, 3) := by decide +kernel
theorem dX11_close_65 : decode cX11_close 65 = .ok (.aload_n 0, 1) := by decide +kernel
theorem dX11_close_66 : decode cX11_close 66 = .ok (.iconst 2, 1) := by decide +kernel
theorem dX11_close_67 : decode cX11_close 67 = .ok (.iconst 0, 1) := by decide +kernel
theorem dX11_close_68 : decode cX11_close 68 = .ok (.invokevirtual 276, 3) := by decide +kernel
theorem dX11_close_71 : decode cX11_close 71 = .ok (.aload_n 0, 1) := by decide +kernel
theorem dX11_close_72 : decode cX11_close 72 = .ok (.dup, 1) := by decide +kernel
theorem dX11_close_73 : decode cX11_close 73 = .ok (.getfield 280, 3) := by decide +kernel
theorem dX11_close_76 : decode cX11_close 76 = .ok (.iconst 1, 1) := by decide +kernel
theorem dX11_close_77 : decode cX11_close 77 = .ok (.isub, 1) := by decide +kernel
theorem dX11_close_78 : decode cX11_close 78 = .ok (.putfield 280, 3) := by decide +kernel
theorem dX11_close_81 : decode cX11_close 81 = .ok (.goto (-81), 3) := by decide +kernel
theorem dX11_close_84 : decode cX11_close 84 = .ok (.aload_n 0, 1) := by decide +kernel
theorem dX11_close_85 : decode cX11_close 85 = .ok (.iconst 3, 1) := by decide +kernel
theorem dX11_close_86 : decode cX11_close 86 = .ok (.aload_n 0, 1) := by decide +kernel
theorem dX11_close_87 : decode cX11_close 87 = .ok (.getfield 33, 3) := by decide +kernel
theorem dX11_close_90 : decode cX11_close 90 = .ok (.aload_n 0, 1) := by decide +kernel
theorem dX11_close_91 : decode cX11_close 91 = .ok (.getfield 270, 3) := by decide +kernel
theorem dX11_close_94 : decode cX11_close 94 = .ok (.iaload, 1) := by decide +kernel
theorem dX11_close_95 : decode cX11_close 95 = .ok (.invokevirtual 276, 3) := by decide +kernel
theorem dX11_close_98 : decode cX11_close 98 = .ok (.goto (-98), 3) := by decide +kernel
theorem dX11_close_101 : decode cX11_close 101 = .ok (.return_, 1) := by decide +kernel
theorem dX11_hasRelation_0 : decode cX11_hasRelation 0 = .ok (.aload_n 0, 1) := by decide +kernel
theorem dX11_hasRelation_1 : decode cX11_hasRelation 1 = .ok (.getfield 270, 3) := by decide +kernel
theorem dX11_hasRelation_4 : decode cX11_hasRelation 4 = .ok (.iconst 1, 1) := by decide +kernel
theorem dX11_hasRelation_5 : decode cX11_hasRelation 5 = .ok (.isub, 1) := by decide +kernel
theorem dX11_hasRelation_6 : decode cX11_hasRelation 6 = .ok (.istore_n 1, 1) := by decide +kernel
theorem dX11_hasRelation_7 : decode cX11_hasRelation 7 = .ok (.iload_n 1, 1) := by decide +kernel
theorem dX11_hasRelation_8 : decode cX11_hasRelation 8 = .ok (.ifCond .lt 33, 3) := by decide +kernel
theorem dX11_hasRelation_11 : decode cX11_hasRelation 11 = .ok (.aload_n 0, 1) := by decide +kernel
theorem dX11_hasRelation_12 : decode cX11_hasRelation 12 = .ok (.getfield 33, 3) := by decide +kernel
theorem dX11_hasRelation_15 : decode cX11_hasRelation 15 = .ok (.iload_n 1, 1) := by decide +kernel
theorem dX11_hasRelation_16 : decode cX11_hasRelation 16 = .ok (.iaload, 1) := by decide +kernel
theorem dX11_hasRelation_17 : decode cX11_hasRelation 17 = .ok (.bipush 20, 2) := by decide +kernel
theorem dX11_hasRelation_19 : decode cX11_hasRelation 19 = .ok (.if_icmp .eq 22, 3) := by decide +kernel
theorem dX11_hasRelation_22 : decode cX11_hasRelation 22 = .ok (.aload_n 0, 1) := by decide +kernel
theorem dX11_hasRelation_23 : decode cX11_hasRelation 23 = .ok (.getfield 33, 3) := by decide +kernel
theorem dX11_hasRelation_26 : decode cX11_hasRelation 26 = .ok (.iload_n 1, 1) := by decide +kernel
theorem dX11_hasRelation_27 : decode cX11_hasRelation 27 = .ok (.iaload, 1) := by decide +kernel
theorem dX11_hasRelation_28 : decode cX11_hasRelation 28 = .ok (.invokestatic 273, 3) := by decide +kernel
theorem dX11_hasRelation_31 : decode cX11_hasRelation 31 = .ok (.iconst 4, 1) := by decide +kernel
theorem dX11_hasRelation_32 : decode cX11_hasRelation 32 = .ok (.if_icmp .le 9, 3) := by decide +kernel
theorem dX11_hasRelation_35 : decode cX11_hasRelation 35 = .ok (.iinc 1 (-1), 3) := by decide +kernel
theorem dX11_hasRelation_38 : decode cX11_hasRelation 38 = .ok (.goto (-31), 3) := by decide +kernel
theorem dX11_hasRelation_41 : decode cX11_hasRelation 41 = .ok (.iload_n 1, 1) := by decide +kernel
theorem dX11_hasRelation_42 : decode cX11_hasRelation 42 = .ok (.ifCond .lt 31, 3) := by decide +kernel
theorem dX11_hasRelation_45 : decode cX11_hasRelation 45 = .ok (.aload_n 0, 1) := by decide +kernel
theorem dX11_hasRelation_46 : decode cX11_hasRelation 46 = .ok (.getfield 33, 3) := by decide +kernel
theorem dX11_hasRelation_49 : decode cX11_hasRelation 49 = .ok (.iload_n 1, 1) := by decide +kernel
theorem dX11_hasRelation_50 : decode cX11_hasRelation 50 = .ok (.iaload, 1) := by decide +kernel
theorem dX11_hasRelation_51 : decode cX11_hasRelation 51 = .ok (.bipush 20, 2) := by decide +kernel
theorem dX11_hasRelation_53 : decode cX11_hasRelation 53 = .ok (.if_icmp .eq 20, 3) := by decide +kernel
theorem dX11_hasRelation_56 : decode cX11_hasRelation 56 = .ok (.aload_n 0, 1) := by decide +kernel
theorem dX11_hasRelation_57 : decode cX11_hasRelation 57 = .ok (.getfield 33, 3) := by decide +kernel
theorem dX11_hasRelation_60 : decode cX11_hasRelation 60 = .ok (.iload_n 1, 1) := by decide +kernel
theorem dX11_hasRelation_61 : decode cX11_hasRelation 61 = .ok (.iaload, 1) := by decide +kernel
theorem dX11_hasRelation_62 : decode cX11_hasRelation 62 = .ok (.invokestatic 273, 3) := by decide +kernel
theorem dX11_hasRelation_65 : decode cX11_hasRelation 65 = .ok (.iconst 4, 1) := by decide +kernel
theorem dX11_hasRelation_66 : decode cX11_hasRelation 66 = .ok (.if_icmp .ne 7, 3) := by decide +kernel
theorem dX11_hasRelation_69 : decode cX11_hasRelation 69 = .ok (.iconst 1, 1) := by decide +kernel
theorem dX11_hasRelation_70 : decode cX11_hasRelation 70 = .ok (.goto 4, 3) := by decide +kernel
theorem dX11_hasRelation_73 : decode cX11_hasRelation 73 = .ok (.iconst 0, 1) := by decide +kernel
theorem dX11_hasRelation_74 : decode cX11_hasRelation 74 = .ok (.ireturn, 1) := by decide +kernel
theorem dX11_mayNot_0 : decode cX11_mayNot 0 = .ok (.aload_n 0, 1) := by decide +kernel
theorem dX11_mayNot_1 : decode cX11_mayNot 1 = .ok (.getfield 270, 3) := by decide +kernel
theorem dX11_mayNot_4 : decode cX11_mayNot 4 = .ok (.ifCond .eq 37, 3) := by decide +kernel
theorem dX11_mayNot_7 : decode cX11_mayNot 7 = .ok (.aload_n 0, 1) := by decide +kernel
theorem dX11_mayNot_8 : decode cX11_mayNot 8 = .ok (.getfield 33, 3) := by decide +kernel
theorem dX11_mayNot_11 : decode cX11_mayNot 11 = .ok (.aload_n 0, 1) := by decide +kernel
theorem dX11_mayNot_12 : decode cX11_mayNot 12 = .ok (.getfield 270, 3) := by decide +kernel
theorem dX11_mayNot_15 : decode cX11_mayNot 15 = .ok (.iconst 1, 1) := by decide +kernel
theorem dX11_mayNot_16 : decode cX11_mayNot 16 = .ok (.isub, 1) := by decide +kernel
theorem dX11_mayNot_17 : decode cX11_mayNot 17 = .ok (.iaload, 1) := by decide +kernel
theorem dX11_mayNot_18 : decode cX11_mayNot 18 = .ok (.bipush 20, 2) := by decide +kernel
theorem dX11_mayNot_20 : decode cX11_mayNot 20 = .ok (.if_icmp .eq 21, 3) := by decide +kernel
theorem dX11_mayNot_23 : decode cX11_mayNot 23 = .ok (.aload_n 0, 1) := by decide +kernel
theorem dX11_mayNot_24 : decode cX11_mayNot 24 = .ok (.getfield 33, 3) := by decide +kernel
theorem dX11_mayNot_27 : decode cX11_mayNot 27 = .ok (.aload_n 0, 1) := by decide +kernel
theorem dX11_mayNot_28 : decode cX11_mayNot 28 = .ok (.getfield 270, 3) := by decide +kernel
theorem dX11_mayNot_31 : decode cX11_mayNot 31 = .ok (.iconst 1, 1) := by decide +kernel
theorem dX11_mayNot_32 : decode cX11_mayNot 32 = .ok (.isub, 1) := by decide +kernel
theorem dX11_mayNot_33 : decode cX11_mayNot 33 = .ok (.iaload, 1) := by decide +kernel
theorem dX11_mayNot_34 : decode cX11_mayNot 34 = .ok (.invokestatic 273, 3) := by decide +kernel
theorem dX11_mayNot_37 : decode cX11_mayNot 37 = .ok (.iconst 4, 1) := by decide +kernel
theorem dX11_mayNot_38 : decode cX11_mayNot 38 = .ok (.if_icmp .ge 7, 3) := by decide +kernel
theorem dX11_mayNot_41 : decode cX11_mayNot 41 = .ok (.iconst 1, 1) := by decide +kernel
theorem dX11_mayNot_42 : decode cX11_mayNot 42 = .ok (.goto 4, 3) := by decide +kernel
theorem dX11_mayNot_45 : decode cX11_mayNot 45 = .ok (.iconst 0, 1) := by decide +kernel
theorem dX11_mayNot_46 : decode cX11_mayNot 46 = .ok (.ireturn, 1) := by decide +kernel
theorem dX11_asked_0 : decode cX11_asked 0 = .ok (.aload_n 0, 1) := by decide +kernel
theorem dX11_asked_1 : decode cX11_asked 1 = .ok (.getfield 172, 3) := by decide +kernel
theorem dX11_asked_4 : decode cX11_asked 4 = .ok (.iconst 1, 1) := by decide +kernel
theorem dX11_asked_5 : decode cX11_asked 5 = .ok (.if_icmp .eq 5, 3) := by decide +kernel
theorem dX11_asked_8 : decode cX11_asked 8 = .ok (.iconst (-1), 1) := by decide +kernel
theorem dX11_asked_9 : decode cX11_asked 9 = .ok (.ireturn, 1) := by decide +kernel
theorem dX11_asked_10 : decode cX11_asked 10 = .ok (.aload_n 0, 1) := by decide +kernel
theorem dX11_asked_11 : decode cX11_asked 11 = .ok (.getfield 165, 3) := by decide +kernel
theorem dX11_asked_14 : decode cX11_asked 14 = .ok (.ldc2_w 218, 3) := by decide +kernel
theorem dX11_asked_17 : decode cX11_asked 17 = .ok (.lcmp, 1) := by decide +kernel
theorem dX11_asked_18 : decode cX11_asked 18 = .ok (.ifCond .ne 5, 3) := by decide +kernel
theorem dX11_asked_21 : decode cX11_asked 21 = .ok (.iconst 0, 1) := by decide +kernel
theorem dX11_asked_22 : decode cX11_asked 22 = .ok (.ireturn, 1) := by decide +kernel
theorem dX11_asked_23 : decode cX11_asked 23 = .ok (.aload_n 0, 1) := by decide +kernel
theorem dX11_asked_24 : decode cX11_asked 24 = .ok (.getfield 165, 3) := by decide +kernel
theorem dX11_asked_27 : decode cX11_asked 27 = .ok (.ldc2_w 220, 3) := by decide +kernel
theorem dX11_asked_30 : decode cX11_asked 30 = .ok (.lcmp, 1) := by decide +kernel
theorem dX11_asked_31 : decode cX11_asked 31 = .ok (.ifCond .ne 5, 3) := by decide +kernel
theorem dX11_asked_34 : decode cX11_asked 34 = .ok (.iconst 1, 1) := by decide +kernel
theorem dX11_asked_35 : decode cX11_asked 35 = .ok (.ireturn, 1) := by decide +kernel
theorem dX11_asked_36 : decode cX11_asked 36 = .ok (.aload_n 0, 1) := by decide +kernel
theorem dX11_asked_37 : decode cX11_asked 37 = .ok (.getfield 165, 3) := by decide +kernel
theorem dX11_asked_40 : decode cX11_asked 40 = .ok (.ldc2_w 222, 3) := by decide +kernel
theorem dX11_asked_43 : decode cX11_asked 43 = .ok (.lcmp, 1) := by decide +kernel
theorem dX11_asked_44 : decode cX11_asked 44 = .ok (.ifCond .ne 5, 3) := by decide +kernel
theorem dX11_asked_47 : decode cX11_asked 47 = .ok (.iconst 2, 1) := by decide +kernel
theorem dX11_asked_48 : decode cX11_asked 48 = .ok (.ireturn, 1) := by decide +kernel
theorem dX11_asked_49 : decode cX11_asked 49 = .ok (.aload_n 0, 1) := by decide +kernel
theorem dX11_asked_50 : decode cX11_asked 50 = .ok (.getfield 165, 3) := by decide +kernel
theorem dX11_asked_53 : decode cX11_asked 53 = .ok (.ldc2_w 224, 3) := by decide +kernel
theorem dX11_asked_56 : decode cX11_asked 56 = .ok (.lcmp, 1) := by decide +kernel
theorem dX11_asked_57 : decode cX11_asked 57 = .ok (.ifCond .ne 7, 3) := by decide +kernel
theorem dX11_asked_60 : decode cX11_asked 60 = .ok (.iconst 3, 1) := by decide +kernel
theorem dX11_asked_61 : decode cX11_asked 61 = .ok (.goto 4, 3) := by decide +kernel
theorem dX11_asked_64 : decode cX11_asked 64 = .ok (.iconst (-1), 1) := by decide +kernel
theorem dX11_asked_65 : decode cX11_asked 65 = .ok (.ireturn, 1) := by decide +kernel
theorem dX11_isFull_0 : decode cX11_isFull 0 = .ok (.aload_n 0, 1) := by decide +kernel
theorem dX11_isFull_1 : decode cX11_isFull 1 = .ok (.getfield 283, 3) := by decide +kernel
theorem dX11_isFull_4 : decode cX11_isFull 4 = .ok (.bipush 60, 2) := by decide +kernel
theorem dX11_isFull_6 : decode cX11_isFull 6 = .ok (.if_icmp .eq 12, 3) := by decide +kernel
theorem dX11_isFull_9 : decode cX11_isFull 9 = .ok (.aload_n 0, 1) := by decide +kernel
theorem dX11_isFull_10 : decode cX11_isFull 10 = .ok (.getfield 286, 3) := by decide +kernel
theorem dX11_isFull_13 : decode cX11_isFull 13 = .ok (.bipush 30, 2) := by decide +kernel
theorem dX11_isFull_15 : decode cX11_isFull 15 = .ok (.if_icmp .ne 7, 3) := by decide +kernel
theorem dX11_isFull_18 : decode cX11_isFull 18 = .ok (.iconst 1, 1) := by decide +kernel
theorem dX11_isFull_19 : decode cX11_isFull 19 = .ok (.goto 4, 3) := by decide +kernel
theorem dX11_isFull_22 : decode cX11_isFull 22 = .ok (.iconst 0, 1) := by decide +kernel
theorem dX11_isFull_23 : decode cX11_isFull 23 = .ok (.ireturn, 1) := by decide +kernel
theorem dX11_countUnit_0 : decode cX11_countUnit 0 = .ok (.aload_n 0, 1) := by decide +kernel
theorem dX11_countUnit_1 : decode cX11_countUnit 1 = .ok (.dup, 1) := by decide +kernel
theorem dX11_countUnit_2 : decode cX11_countUnit 2 = .ok (.getfield 283, 3) := by decide +kernel
theorem dX11_countUnit_5 : decode cX11_countUnit 5 = .ok (.iconst 1, 1) := by decide +kernel
theorem dX11_countUnit_6 : decode cX11_countUnit 6 = .ok (.iadd, 1) := by decide +kernel
theorem dX11_countUnit_7 : decode cX11_countUnit 7 = .ok (.putfield 283, 3) := by decide +kernel
theorem dX11_countUnit_10 : decode cX11_countUnit 10 = .ok (.aload_n 0, 1) := by decide +kernel
theorem dX11_countUnit_11 : decode cX11_countUnit 11 = .ok (.dup, 1) := by decide +kernel
theorem dX11_countUnit_12 : decode cX11_countUnit 12 = .ok (.getfield 286, 3) := by decide +kernel
theorem dX11_countUnit_15 : decode cX11_countUnit 15 = .ok (.iconst 1, 1) := by decide +kernel
theorem dX11_countUnit_16 : decode cX11_countUnit 16 = .ok (.iadd, 1) := by decide +kernel
theorem dX11_countUnit_17 : decode cX11_countUnit 17 = .ok (.putfield 286, 3) := by decide +kernel
theorem dX11_countUnit_20 : decode cX11_countUnit 20 = .ok (.return_, 1) := by decide +kernel
theorem dX11_openUp_0 : decode cX11_openUp 0 = .ok (.aload_n 0, 1) := by decide +kernel
theorem dX11_openUp_1 : decode cX11_openUp 1 = .ok (.getfield 33, 3) := by decide +kernel
theorem dX11_openUp_4 : decode cX11_openUp 4 = .ok (.aload_n 0, 1) := by decide +kernel
theorem dX11_openUp_5 : decode cX11_openUp 5 = .ok (.getfield 270, 3) := by decide +kernel
theorem dX11_openUp_8 : decode cX11_openUp 8 = .ok (.iload_n 1, 1) := by decide +kernel
theorem dX11_openUp_9 : decode cX11_openUp 9 = .ok (.iastore, 1) := by decide +kernel
theorem dX11_openUp_10 : decode cX11_openUp 10 = .ok (.aload_n 0, 1) := by decide +kernel
theorem dX11_openUp_11 : decode cX11_openUp 11 = .ok (.dup, 1) := by decide +kernel
theorem dX11_openUp_12 : decode cX11_openUp 12 = .ok (.getfield 270, 3) := by decide +kernel
theorem dX11_openUp_15 : decode cX11_openUp 15 = .ok (.iconst 1, 1) := by decide +kernel
theorem dX11_openUp_16 : decode cX11_openUp 16 = .ok (.iadd, 1) := by decide +kernel
theorem dX11_openUp_17 : decode cX11_openUp 17 = .ok (.putfield 270, 3) := by decide +kernel
theorem dX11_openUp_20 : decode cX11_openUp 20 = .ok (.aload_n 0, 1) := by decide +kernel
theorem dX11_openUp_21 : decode cX11_openUp 21 = .ok (.dup, 1) := by decide +kernel
theorem dX11_openUp_22 : decode cX11_openUp 22 = .ok (.getfield 280, 3) := by decide +kernel
theorem dX11_openUp_25 : decode cX11_openUp 25 = .ok (.iconst 1, 1) := by decide +kernel
theorem dX11_openUp_26 : decode cX11_openUp 26 = .ok (.iadd, 1) := by decide +kernel
theorem dX11_openUp_27 : decode cX11_openUp 27 = .ok (.putfield 280, 3) := by decide +kernel
theorem dX11_openUp_30 : decode cX11_openUp 30 = .ok (.aload_n 0, 1) := by decide +kernel
theorem dX11_openUp_31 : decode cX11_openUp 31 = .ok (.getfield 185, 3) := by decide +kernel
theorem dX11_openUp_34 : decode cX11_openUp 34 = .ok (.ifCond .ne 7, 3) := by decide +kernel
theorem dX11_openUp_37 : decode cX11_openUp 37 = .ok (.aload_n 0, 1) := by decide +kernel
theorem dX11_openUp_38 : decode cX11_openUp 38 = .ok (.invokevirtual 241, 3) := by decide +kernel
theorem dX11_openUp_41 : decode cX11_openUp 41 = .ok (.return_, 1) := by decide +kernel
theorem dX11_unit_0 : decode cX11_unit 0 = .ok (.iconst 1, 1) := by decide +kernel
theorem dX11_unit_1 : decode cX11_unit 1 = .ok (.istore_n 1, 1) := by decide +kernel
theorem dX11_unit_2 : decode cX11_unit 2 = .ok (.iload_n 1, 1) := by decide +kernel
theorem dX11_unit_3 : decode cX11_unit 3 = .ok (.ifCond .eq 98, 3) := by decide +kernel
theorem dX11_unit_6 : decode cX11_unit 6 = .ok (.aload_n 0, 1) := by decide +kernel
theorem dX11_unit_7 : decode cX11_unit 7 = .ok (.getfield 185, 3) := by decide +kernel
theorem dX11_unit_10 : decode cX11_unit 10 = .ok (.ifCond .ne 91, 3) := by decide +kernel
theorem dX11_unit_13 : decode cX11_unit 13 = .ok (.aload_n 0, 1) := by decide +kernel
theorem dX11_unit_14 : decode cX11_unit 14 = .ok (.ldc2_w 228, 3) := by decide +kernel
theorem dX11_unit_17 : decode cX11_unit 17 = .ok (.invokevirtual 234, 3) := by decide +kernel
theorem dX11_unit_20 : decode cX11_unit 20 = .ok (.ifCond .eq 33, 3) := by decide +kernel
theorem dX11_unit_23 : decode cX11_unit 23 = .ok (.aload_n 0, 1) := by decide +kernel
theorem dX11_unit_24 : decode cX11_unit 24 = .ok (.invokevirtual 289, 3) := by decide +kernel
theorem dX11_unit_27 : decode cX11_unit 27 = .ok (.ifCond .eq 26, 3) := by decide +kernel
theorem dX11_unit_30 : decode cX11_unit 30 = .ok (.aload_n 0, 1) := by decide +kernel
theorem dX11_unit_31 : decode cX11_unit 31 = .ok (.getfield 280, 3) := by decide +kernel
theorem dX11_unit_34 : decode cX11_unit 34 = .ok (.bipush 6, 2) := by decide +kernel
theorem dX11_unit_36 : decode cX11_unit 36 = .ok (.if_icmp .le 8, 3) := by decide +kernel
theorem dX11_unit_39 : decode cX11_unit 39 = .ok (.aload_n 0, 1) := by decide +kernel
theorem dX11_unit_40 : decode cX11_unit 40 = .ok (.iconst 2, 1) := by decide +kernel
theorem dX11_unit_41 : decode cX11_unit 41 = .ok (.invokevirtual 238, 3) := by decide +kernel
theorem dX11_unit_44 : decode cX11_unit 44 = .ok (.aload_n 0, 1) := by decide +kernel
theorem dX11_unit_45 : decode cX11_unit 45 = .ok (.bipush 21, 2) := by decide +kernel
theorem dX11_unit_47 : decode cX11_unit 47 = .ok (.invokevirtual 292, 3) := by decide +kernel
theorem dX11_unit_50 : decode cX11_unit 50 = .ok (.goto (-48), 3) := by decide +kernel
theorem dX11_unit_53 : decode cX11_unit 53 = .ok (.aload_n 0, 1) := by decide +kernel
theorem dX11_unit_54 : decode cX11_unit 54 = .ok (.getfield 172, 3) := by decide +kernel
theorem dX11_unit_57 : decode cX11_unit 57 = .ok (.bipush 40, 2) := by decide +kernel
theorem dX11_unit_59 : decode cX11_unit 59 = .ok (.if_icmp .ne 37, 3) := by decide +kernel
theorem dX11_unit_62 : decode cX11_unit 62 = .ok (.aload_n 0, 1) := by decide +kernel
theorem dX11_unit_63 : decode cX11_unit 63 = .ok (.invokevirtual 295, 3) := by decide +kernel
theorem dX11_unit_66 : decode cX11_unit 66 = .ok (.ifCond .ne 12, 3) := by decide +kernel
theorem dX11_unit_69 : decode cX11_unit 69 = .ok (.aload_n 0, 1) := by decide +kernel
theorem dX11_unit_70 : decode cX11_unit 70 = .ok (.getfield 280, 3) := by decide +kernel
theorem dX11_unit_73 : decode cX11_unit 73 = .ok (.bipush 6, 2) := by decide +kernel
theorem dX11_unit_75 : decode cX11_unit 75 = .ok (.if_icmp .le 8, 3) := by decide +kernel
theorem dX11_unit_78 : decode cX11_unit 78 = .ok (.aload_n 0, 1) := by decide +kernel
theorem dX11_unit_79 : decode cX11_unit 79 = .ok (.iconst 2, 1) := by decide +kernel
theorem dX11_unit_80 : decode cX11_unit 80 = .ok (.invokevirtual 238, 3) := by decide +kernel
theorem dX11_unit_83 : decode cX11_unit 83 = .ok (.aload_n 0, 1) := by decide +kernel
theorem dX11_unit_84 : decode cX11_unit 84 = .ok (.invokevirtual 298, 3) := by decide +kernel
theorem dX11_unit_87 : decode cX11_unit 87 = .ok (.aload_n 0, 1) := by decide +kernel
theorem dX11_unit_88 : decode cX11_unit 88 = .ok (.bipush 20, 2) := by decide +kernel
theorem dX11_unit_90 : decode cX11_unit 90 = .ok (.invokevirtual 292, 3) := by decide +kernel
theorem dX11_unit_93 : decode cX11_unit 93 = .ok (.goto (-91), 3) := by decide +kernel
theorem dX11_unit_96 : decode cX11_unit 96 = .ok (.iconst 0, 1) := by decide +kernel
theorem dX11_unit_97 : decode cX11_unit 97 = .ok (.istore_n 1, 1) := by decide +kernel
theorem dX11_unit_98 : decode cX11_unit 98 = .ok (.goto (-96), 3) := by decide +kernel
theorem dX11_unit_101 : decode cX11_unit 101 = .ok (.aload_n 0, 1) := by decide +kernel
theorem dX11_unit_102 : decode cX11_unit 102 = .ok (.getfield 185, 3) := by decide +kernel
theorem dX11_unit_105 : decode cX11_unit 105 = .ok (.ifCond .le 4, 3) := by decide +kernel
theorem dX11_unit_108 : decode cX11_unit 108 = .ok (.return_, 1) := by decide +kernel
theorem dX11_unit_109 : decode cX11_unit 109 = .ok (.aload_n 0, 1) := by decide +kernel
theorem dX11_unit_110 : decode cX11_unit 110 = .ok (.invokevirtual 301, 3) := by decide +kernel
theorem dX11_unit_113 : decode cX11_unit 113 = .ok (.istore_n 2, 1) := by decide +kernel
theorem dX11_unit_114 : decode cX11_unit 114 = .ok (.aload_n 0, 1) := by decide +kernel
theorem dX11_unit_115 : decode cX11_unit 115 = .ok (.getfield 172, 3) := by decide +kernel
theorem dX11_unit_118 : decode cX11_unit 118 = .ok (.iconst 2, 1) := by decide +kernel
theorem dX11_unit_119 : decode cX11_unit 119 = .ok (.if_icmp .eq 7, 3) := by decide +kernel
theorem dX11_unit_122 : decode cX11_unit 122 = .ok (.iload_n 2, 1) := by decide +kernel
theorem dX11_unit_123 : decode cX11_unit 123 = .ok (.ifCond .lt 10, 3) := by decide +kernel
theorem dX11_unit_126 : decode cX11_unit 126 = .ok (.aload_n 0, 1) := by decide +kernel
theorem dX11_unit_127 : decode cX11_unit 127 = .ok (.invokevirtual 295, 3) := by decide +kernel
theorem dX11_unit_130 : decode cX11_unit 130 = .ok (.ifCond .eq 8, 3) := by decide +kernel
theorem dX11_unit_133 : decode cX11_unit 133 = .ok (.aload_n 0, 1) := by decide +kernel
theorem dX11_unit_134 : decode cX11_unit 134 = .ok (.iconst 2, 1) := by decide +kernel
theorem dX11_unit_135 : decode cX11_unit 135 = .ok (.invokevirtual 238, 3) := by decide +kernel
theorem dX11_unit_138 : decode cX11_unit 138 = .ok (.aload_n 0, 1) := by decide +kernel
theorem dX11_unit_139 : decode cX11_unit 139 = .ok (.getfield 185, 3) := by decide +kernel
theorem dX11_unit_142 : decode cX11_unit 142 = .ok (.ifCond .le 4, 3) := by decide +kernel
theorem dX11_unit_145 : decode cX11_unit 145 = .ok (.return_, 1) := by decide +kernel
theorem dX11_unit_146 : decode cX11_unit 146 = .ok (.aload_n 0, 1) := by decide +kernel
theorem dX11_unit_147 : decode cX11_unit 147 = .ok (.invokevirtual 298, 3) := by decide +kernel
theorem dX11_unit_150 : decode cX11_unit 150 = .ok (.aload_n 0, 1) := by decide +kernel
theorem dX11_unit_151 : decode cX11_unit 151 = .ok (.iload_n 2, 1) := by decide +kernel
theorem dX11_unit_152 : decode cX11_unit 152 = .ok (.ifCond .ge 7, 3) := by decide +kernel
theorem dX11_unit_155 : decode cX11_unit 155 = .ok (.iconst 0, 1) := by decide +kernel
theorem dX11_unit_156 : decode cX11_unit 156 = .ok (.goto 4, 3) := by decide +kernel
theorem dX11_unit_159 : decode cX11_unit 159 = .ok (.iconst 1, 1) := by decide +kernel
theorem dX11_unit_160 : decode cX11_unit 160 = .ok (.iload_n 2, 1) := by decide +kernel
theorem dX11_unit_161 : decode cX11_unit 161 = .ok (.ifCond .ge 10, 3) := by decide +kernel
theorem dX11_unit_164 : decode cX11_unit 164 = .ok (.aload_n 0, 1) := by decide +kernel
theorem dX11_unit_165 : decode cX11_unit 165 = .ok (.getfield 169, 3) := by decide +kernel
theorem dX11_unit_168 : decode cX11_unit 168 = .ok (.goto 4, 3) := by decide +kernel
theorem dX11_unit_171 : decode cX11_unit 171 = .ok (.iload_n 2, 1) := by decide +kernel
theorem dX11_unit_172 : decode cX11_unit 172 = .ok (.invokevirtual 276, 3) := by decide +kernel
theorem dX11_unit_175 : decode cX11_unit 175 = .ok (.aload_n 0, 1) := by decide +kernel
theorem dX11_unit_176 : decode cX11_unit 176 = .ok (.invokevirtual 241, 3) := by decide +kernel
theorem dX11_unit_179 : decode cX11_unit 179 = .ok (.return_, 1) := by decide +kernel
theorem dX11_sign_0 : decode cX11_sign 0 = .ok (.aload_n 0, 1) := by decide +kernel
theorem dX11_sign_1 : decode cX11_sign 1 = .ok (.ldc2_w 196, 3) := by decide +kernel
theorem dX11_sign_4 : decode cX11_sign 4 = .ok (.invokevirtual 234, 3) := by decide +kernel
theorem dX11_sign_7 : decode cX11_sign 7 = .ok (.ifCond .eq 6, 3) := by decide +kernel
theorem dX11_sign_10 : decode cX11_sign 10 = .ok (.bipush 38, 2) := by decide +kernel
theorem dX11_sign_12 : decode cX11_sign 12 = .ok (.ireturn, 1) := by decide +kernel
theorem dX11_sign_13 : decode cX11_sign 13 = .ok (.aload_n 0, 1) := by decide +kernel
theorem dX11_sign_14 : decode cX11_sign 14 = .ok (.ldc2_w 226, 3) := by decide +kernel
theorem dX11_sign_17 : decode cX11_sign 17 = .ok (.invokevirtual 234, 3) := by decide +kernel
theorem dX11_sign_20 : decode cX11_sign 20 = .ok (.ifCond .eq 6, 3) := by decide +kernel
theorem dX11_sign_23 : decode cX11_sign 23 = .ok (.bipush 124, 2) := by decide +kernel
theorem dX11_sign_25 : decode cX11_sign 25 = .ok (.ireturn, 1) := by decide +kernel
theorem dX11_sign_26 : decode cX11_sign 26 = .ok (.aload_n 0, 1) := by decide +kernel
theorem dX11_sign_27 : decode cX11_sign 27 = .ok (.getfield 172, 3) := by decide +kernel
theorem dX11_sign_30 : decode cX11_sign 30 = .ok (.bipush 60, 2) := by decide +kernel
theorem dX11_sign_32 : decode cX11_sign 32 = .ok (.if_icmp .eq 66, 3) := by decide +kernel
theorem dX11_sign_35 : decode cX11_sign 35 = .ok (.aload_n 0, 1) := by decide +kernel
theorem dX11_sign_36 : decode cX11_sign 36 = .ok (.getfield 172, 3) := by decide +kernel
theorem dX11_sign_39 : decode cX11_sign 39 = .ok (.bipush 62, 2) := by decide +kernel
theorem dX11_sign_41 : decode cX11_sign 41 = .ok (.if_icmp .eq 57, 3) := by decide +kernel
theorem dX11_sign_44 : decode cX11_sign 44 = .ok (.aload_n 0, 1) := by decide +kernel
theorem dX11_sign_45 : decode cX11_sign 45 = .ok (.getfield 172, 3) := by decide +kernel
theorem dX11_sign_48 : decode cX11_sign 48 = .ok (.bipush 61, 2) := by decide +kernel
theorem dX11_sign_50 : decode cX11_sign 50 = .ok (.if_icmp .eq 48, 3) := by decide +kernel
theorem dX11_sign_53 : decode cX11_sign 53 = .ok (.aload_n 0, 1) := by decide +kernel
theorem dX11_sign_54 : decode cX11_sign 54 = .ok (.getfield 172, 3) := by decide +kernel
theorem dX11_sign_57 : decode cX11_sign 57 = .ok (.bipush 43, 2) := by decide +kernel
theorem dX11_sign_59 : decode cX11_sign 59 = .ok (.if_icmp .eq 39, 3) := by decide +kernel
theorem dX11_sign_62 : decode cX11_sign 62 = .ok (.aload_n 0, 1) := by decide +kernel
theorem dX11_sign_63 : decode cX11_sign 63 = .ok (.getfield 172, 3) := by decide +kernel
theorem dX11_sign_66 : decode cX11_sign 66 = .ok (.bipush 45, 2) := by decide +kernel
theorem dX11_sign_68 : decode cX11_sign 68 = .ok (.if_icmp .eq 30, 3) := by decide +kernel
theorem dX11_sign_71 : decode cX11_sign 71 = .ok (.aload_n 0, 1) := by decide +kernel
theorem dX11_sign_72 : decode cX11_sign 72 = .ok (.getfield 172, 3) := by decide +kernel
theorem dX11_sign_75 : decode cX11_sign 75 = .ok (.bipush 42, 2) := by decide +kernel
theorem dX11_sign_77 : decode cX11_sign 77 = .ok (.if_icmp .eq 21, 3) := by decide +kernel
theorem dX11_sign_80 : decode cX11_sign 80 = .ok (.aload_n 0, 1) := by decide +kernel
theorem dX11_sign_81 : decode cX11_sign 81 = .ok (.getfield 172, 3) := by decide +kernel
theorem dX11_sign_84 : decode cX11_sign 84 = .ok (.bipush 47, 2) := by decide +kernel
theorem dX11_sign_86 : decode cX11_sign 86 = .ok (.if_icmp .eq 12, 3) := by decide +kernel
theorem dX11_sign_89 : decode cX11_sign 89 = .ok (.aload_n 0, 1) := by decide +kernel
theorem dX11_sign_90 : decode cX11_sign 90 = .ok (.getfield 172, 3) := by decide +kernel
theorem dX11_sign_93 : decode cX11_sign 93 = .ok (.bipush 37, 2) := by decide +kernel
theorem dX11_sign_95 : decode cX11_sign 95 = .ok (.if_icmp .ne 10, 3) := by decide +kernel
theorem dX11_sign_98 : decode cX11_sign 98 = .ok (.aload_n 0, 1) := by decide +kernel
theorem dX11_sign_99 : decode cX11_sign 99 = .ok (.getfield 172, 3) := by decide +kernel
theorem dX11_sign_102 : decode cX11_sign 102 = .ok (.goto 4, 3) := by decide +kernel
theorem dX11_sign_105 : decode cX11_sign 105 = .ok (.iconst 0, 1) := by decide +kernel
theorem dX11_sign_106 : decode cX11_sign 106 = .ok (.ireturn, 1) := by decide +kernel
theorem dX11_hasBracket_0 : decode cX11_hasBracket 0 = .ok (.iconst 0, 1) := by decide +kernel
theorem dX11_hasBracket_1 : decode cX11_hasBracket 1 = .ok (.istore_n 1, 1) := by decide +kernel
theorem dX11_hasBracket_2 : decode cX11_hasBracket 2 = .ok (.iconst 0, 1) := by decide +kernel
theorem dX11_hasBracket_3 : decode cX11_hasBracket 3 = .ok (.istore_n 2, 1) := by decide +kernel
theorem dX11_hasBracket_4 : decode cX11_hasBracket 4 = .ok (.iload_n 2, 1) := by decide +kernel
theorem dX11_hasBracket_5 : decode cX11_hasBracket 5 = .ok (.aload_n 0, 1) := by decide +kernel
theorem dX11_hasBracket_6 : decode cX11_hasBracket 6 = .ok (.getfield 270, 3) := by decide +kernel
theorem dX11_hasBracket_9 : decode cX11_hasBracket 9 = .ok (.if_icmp .ge 30, 3) := by decide +kernel
theorem dX11_hasBracket_12 : decode cX11_hasBracket 12 = .ok (.iload_n 1, 1) := by decide +kernel
theorem dX11_hasBracket_13 : decode cX11_hasBracket 13 = .ok (.ifCond .ne 14, 3) := by decide +kernel
theorem dX11_hasBracket_16 : decode cX11_hasBracket 16 = .ok (.aload_n 0, 1) := by decide +kernel
theorem dX11_hasBracket_17 : decode cX11_hasBracket 17 = .ok (.getfield 33, 3) := by decide +kernel
theorem dX11_hasBracket_20 : decode cX11_hasBracket 20 = .ok (.iload_n 2, 1) := by decide +kernel
theorem dX11_hasBracket_21 : decode cX11_hasBracket 21 = .ok (.iaload, 1) := by decide +kernel
theorem dX11_hasBracket_22 : decode cX11_hasBracket 22 = .ok (.bipush 20, 2) := by decide +kernel
theorem dX11_hasBracket_24 : decode cX11_hasBracket 24 = .ok (.if_icmp .ne 7, 3) := by decide +kernel
theorem dX11_hasBracket_27 : decode cX11_hasBracket 27 = .ok (.iconst 1, 1) := by decide +kernel
theorem dX11_hasBracket_28 : decode cX11_hasBracket 28 = .ok (.goto 4, 3) := by decide +kernel
theorem dX11_hasBracket_31 : decode cX11_hasBracket 31 = .ok (.iconst 0, 1) := by decide +kernel
theorem dX11_hasBracket_32 : decode cX11_hasBracket 32 = .ok (.istore_n 1, 1) := by decide +kernel
theorem dX11_hasBracket_33 : decode cX11_hasBracket 33 = .ok (.iinc 2 1, 3) := by decide +kernel
theorem dX11_hasBracket_36 : decode cX11_hasBracket 36 = .ok (.goto (-32), 3) := by decide +kernel
theorem dX11_hasBracket_39 : decode cX11_hasBracket 39 = .ok (.iload_n 1, 1) := by decide +kernel
theorem dX11_hasBracket_40 : decode cX11_hasBracket 40 = .ok (.ireturn, 1) := by decide +kernel
theorem dX11_readHears_0 : decode cX11_readHears 0 = .ok (.aload_n 0, 1) := by decide +kernel
theorem dX11_readHears_1 : decode cX11_readHears 1 = .ok (.invokevirtual 241, 3) := by decide +kernel
theorem dX11_readHears_4 : decode cX11_readHears 4 = .ok (.aload_n 0, 1) := by decide +kernel
theorem dX11_readHears_5 : decode cX11_readHears 5 = .ok (.iconst 0, 1) := by decide +kernel
theorem dX11_readHears_6 : decode cX11_readHears 6 = .ok (.putfield 267, 3) := by decide +kernel
theorem dX11_readHears_9 : decode cX11_readHears 9 = .ok (.aload_n 0, 1) := by decide +kernel
theorem dX11_readHears_10 : decode cX11_readHears 10 = .ok (.iconst 0, 1) := by decide +kernel
theorem dX11_readHears_11 : decode cX11_readHears 11 = .ok (.putfield 270, 3) := by decide +kernel
theorem dX11_readHears_14 : decode cX11_readHears 14 = .ok (.aload_n 0, 1) := by decide +kernel
theorem dX11_readHears_15 : decode cX11_readHears 15 = .ok (.iconst 0, 1) := by decide +kernel
theorem dX11_readHears_16 : decode cX11_readHears 16 = .ok (.putfield 280, 3) := by decide +kernel
theorem dX11_readHears_19 : decode cX11_readHears 19 = .ok (.aload_n 0, 1) := by decide +kernel
theorem dX11_readHears_20 : decode cX11_readHears 20 = .ok (.iconst 0, 1) := by decide +kernel
theorem dX11_readHears_21 : decode cX11_readHears 21 = .ok (.putfield 286, 3) := by decide +kernel
theorem dX11_readHears_24 : decode cX11_readHears 24 = .ok (.aload_n 0, 1) := by decide +kernel
theorem dX11_readHears_25 : decode cX11_readHears 25 = .ok (.invokevirtual 305, 3) := by decide +kernel
theorem dX11_readHears_28 : decode cX11_readHears 28 = .ok (.iconst 1, 1) := by decide +kernel
theorem dX11_readHears_29 : decode cX11_readHears 29 = .ok (.istore_n 1, 1) := by decide +kernel
theorem dX11_readHears_30 : decode cX11_readHears 30 = .ok (.iload_n 1, 1) := by decide +kernel
theorem dX11_readHears_31 : decode cX11_readHears 31 = .ok (.ifCond .eq 126, 3) := by decide +kernel
theorem dX11_readHears_34 : decode cX11_readHears 34 = .ok (.aload_n 0, 1) := by decide +kernel
theorem dX11_readHears_35 : decode cX11_readHears 35 = .ok (.getfield 185, 3) := by decide +kernel
theorem dX11_readHears_38 : decode cX11_readHears 38 = .ok (.ifCond .ne 119, 3) := by decide +kernel
theorem dX11_readHears_41 : decode cX11_readHears 41 = .ok (.aload_n 0, 1) := by decide +kernel
theorem dX11_readHears_42 : decode cX11_readHears 42 = .ok (.invokevirtual 308, 3) := by decide +kernel
theorem dX11_readHears_45 : decode cX11_readHears 45 = .ok (.istore_n 2, 1) := by decide +kernel
theorem dX11_readHears_46 : decode cX11_readHears 46 = .ok (.aload_n 0, 1) := by decide +kernel
theorem dX11_readHears_47 : decode cX11_readHears 47 = .ok (.getfield 172, 3) := by decide +kernel
theorem dX11_readHears_50 : decode cX11_readHears 50 = .ok (.bipush 41, 2) := by decide +kernel
theorem dX11_readHears_52 : decode cX11_readHears 52 = .ok (.if_icmp .ne 42, 3) := by decide +kernel
theorem dX11_readHears_55 : decode cX11_readHears 55 = .ok (.aload_n 0, 1) := by decide +kernel
theorem dX11_readHears_56 : decode cX11_readHears 56 = .ok (.invokevirtual 311, 3) := by decide +kernel
theorem dX11_readHears_59 : decode cX11_readHears 59 = .ok (.ifCond .eq 35, 3) := by decide +kernel
theorem dX11_readHears_62 : decode cX11_readHears 62 = .ok (.aload_n 0, 1) := by decide +kernel
theorem dX11_readHears_63 : decode cX11_readHears 63 = .ok (.iconst 0, 1) := by decide +kernel
theorem dX11_readHears_64 : decode cX11_readHears 64 = .ok (.invokevirtual 314, 3) := by decide +kernel
theorem dX11_readHears_67 : decode cX11_readHears 67 = .ok (.aload_n 0, 1) := by decide +kernel
theorem dX11_readHears_68 : decode cX11_readHears 68 = .ok (.dup, 1) := by decide +kernel
theorem dX11_readHears_69 : decode cX11_readHears 69 = .ok (.getfield 270, 3) := by decide +kernel
theorem dX11_readHears_72 : decode cX11_readHears 72 = .ok (.iconst 1, 1) := by decide +kernel
theorem dX11_readHears_73 : decode cX11_readHears 73 = .ok (.isub, 1) := by decide +kernel
theorem dX11_readHears_74 : decode cX11_readHears 74 = .ok (.putfield 270, 3) := by decide +kernel
theorem dX11_readHears_77 : decode cX11_readHears 77 = .ok (.aload_n 0, 1) := by decide +kernel
theorem dX11_readHears_78 : decode cX11_readHears 78 = .ok (.dup, 1) := by decide +kernel
theorem dX11_readHears_79 : decode cX11_readHears 79 = .ok (.getfield 280, 3) := by decide +kernel
theorem dX11_readHears_82 : decode cX11_readHears 82 = .ok (.iconst 1, 1) := by decide +kernel
theorem dX11_readHears_83 : decode cX11_readHears 83 = .ok (.isub, 1) := by decide +kernel
theorem dX11_readHears_84 : decode cX11_readHears 84 = .ok (.putfield 280, 3) := by decide +kernel
theorem dX11_readHears_87 : decode cX11_readHears 87 = .ok (.aload_n 0, 1) := by decide +kernel
theorem dX11_readHears_88 : decode cX11_readHears 88 = .ok (.invokevirtual 241, 3) := by decide +kernel
theorem dX11_readHears_91 : decode cX11_readHears 91 = .ok (.goto 63, 3) := by decide +kernel
theorem dX11_readHears_94 : decode cX11_readHears 94 = .ok (.iload_n 2, 1) := by decide +kernel
theorem dX11_readHears_95 : decode cX11_readHears 95 = .ok (.ifCond .eq 57, 3) := by decide +kernel
theorem dX11_readHears_98 : decode cX11_readHears 98 = .ok (.iload_n 2, 1) := by decide +kernel
theorem dX11_readHears_99 : decode cX11_readHears 99 = .ok (.invokestatic 273, 3) := by decide +kernel
theorem dX11_readHears_102 : decode cX11_readHears 102 = .ok (.iconst 4, 1) := by decide +kernel
theorem dX11_readHears_103 : decode cX11_readHears 103 = .ok (.if_icmp .ne 10, 3) := by decide +kernel
theorem dX11_readHears_106 : decode cX11_readHears 106 = .ok (.aload_n 0, 1) := by decide +kernel
theorem dX11_readHears_107 : decode cX11_readHears 107 = .ok (.invokevirtual 317, 3) := by decide +kernel
theorem dX11_readHears_110 : decode cX11_readHears 110 = .ok (.ifCond .ne 42, 3) := by decide +kernel
theorem dX11_readHears_113 : decode cX11_readHears 113 = .ok (.aload_n 0, 1) := by decide +kernel
theorem dX11_readHears_114 : decode cX11_readHears 114 = .ok (.iload_n 2, 1) := by decide +kernel
theorem dX11_readHears_115 : decode cX11_readHears 115 = .ok (.invokestatic 273, 3) := by decide +kernel
theorem dX11_readHears_118 : decode cX11_readHears 118 = .ok (.invokevirtual 314, 3) := by decide +kernel
theorem dX11_readHears_121 : decode cX11_readHears 121 = .ok (.aload_n 0, 1) := by decide +kernel
theorem dX11_readHears_122 : decode cX11_readHears 122 = .ok (.getfield 33, 3) := by decide +kernel
theorem dX11_readHears_125 : decode cX11_readHears 125 = .ok (.aload_n 0, 1) := by decide +kernel
theorem dX11_readHears_126 : decode cX11_readHears 126 = .ok (.getfield 270, 3) := by decide +kernel
theorem dX11_readHears_129 : decode cX11_readHears 129 = .ok (.iload_n 2, 1) := by decide +kernel
theorem dX11_readHears_130 : decode cX11_readHears 130 = .ok (.iastore, 1) := by decide +kernel
theorem dX11_readHears_131 : decode cX11_readHears 131 = .ok (.aload_n 0, 1) := by decide +kernel
theorem dX11_readHears_132 : decode cX11_readHears 132 = .ok (.dup, 1) := by decide +kernel
theorem dX11_readHears_133 : decode cX11_readHears 133 = .ok (.getfield 270, 3) := by decide +kernel
theorem dX11_readHears_136 : decode cX11_readHears 136 = .ok (.iconst 1, 1) := by decide +kernel
theorem dX11_readHears_137 : decode cX11_readHears 137 = .ok (.iadd, 1) := by decide +kernel
theorem dX11_readHears_138 : decode cX11_readHears 138 = .ok (.putfield 270, 3) := by decide +kernel
theorem dX11_readHears_141 : decode cX11_readHears 141 = .ok (.aload_n 0, 1) := by decide +kernel
theorem dX11_readHears_142 : decode cX11_readHears 142 = .ok (.invokevirtual 241, 3) := by decide +kernel
theorem dX11_readHears_145 : decode cX11_readHears 145 = .ok (.aload_n 0, 1) := by decide +kernel
theorem dX11_readHears_146 : decode cX11_readHears 146 = .ok (.invokevirtual 305, 3) := by decide +kernel
theorem dX11_readHears_149 : decode cX11_readHears 149 = .ok (.goto 5, 3) := by decide +kernel
theorem dX11_readHears_152 : decode cX11_readHears 152 = .ok (.iconst 0, 1) := by decide +kernel
theorem dX11_readHears_153 : decode cX11_readHears 153 = .ok (.istore_n 1, 1) := by decide +kernel
theorem dX11_readHears_154 : decode cX11_readHears 154 = .ok (.goto (-124), 3) := by decide +kernel
theorem dX11_readHears_157 : decode cX11_readHears 157 = .ok (.aload_n 0, 1) := by decide +kernel
theorem dX11_readHears_158 : decode cX11_readHears 158 = .ok (.getfield 185, 3) := by decide +kernel
theorem dX11_readHears_161 : decode cX11_readHears 161 = .ok (.ifCond .ne 15, 3) := by decide +kernel
theorem dX11_readHears_164 : decode cX11_readHears 164 = .ok (.aload_n 0, 1) := by decide +kernel
theorem dX11_readHears_165 : decode cX11_readHears 165 = .ok (.invokevirtual 311, 3) := by decide +kernel
theorem dX11_readHears_168 : decode cX11_readHears 168 = .ok (.ifCond .eq 8, 3) := by decide +kernel
theorem dX11_readHears_171 : decode cX11_readHears 171 = .ok (.aload_n 0, 1) := by decide +kernel
theorem dX11_readHears_172 : decode cX11_readHears 172 = .ok (.iconst 2, 1) := by decide +kernel
theorem dX11_readHears_173 : decode cX11_readHears 173 = .ok (.invokevirtual 238, 3) := by decide +kernel
theorem dX11_readHears_176 : decode cX11_readHears 176 = .ok (.aload_n 0, 1) := by decide +kernel
theorem dX11_readHears_177 : decode cX11_readHears 177 = .ok (.getfield 185, 3) := by decide +kernel
theorem dX11_readHears_180 : decode cX11_readHears 180 = .ok (.ifCond .ne 8, 3) := by decide +kernel
theorem dX11_readHears_183 : decode cX11_readHears 183 = .ok (.aload_n 0, 1) := by decide +kernel
theorem dX11_readHears_184 : decode cX11_readHears 184 = .ok (.iconst 0, 1) := by decide +kernel
theorem dX11_readHears_185 : decode cX11_readHears 185 = .ok (.invokevirtual 314, 3) := by decide +kernel
theorem dX11_readHears_188 : decode cX11_readHears 188 = .ok (.return_, 1) := by decide +kernel
theorem dX11_truth_0 : decode cX11_truth 0 = .ok (.iload_n 0, 1) := by decide +kernel
theorem dX11_truth_1 : decode cX11_truth 1 = .ok (.ifCond .eq 7, 3) := by decide +kernel
theorem dX11_truth_4 : decode cX11_truth 4 = .ok (.iconst 1, 1) := by decide +kernel
theorem dX11_truth_5 : decode cX11_truth 5 = .ok (.goto 4, 3) := by decide +kernel
theorem dX11_truth_8 : decode cX11_truth 8 = .ok (.iconst 0, 1) := by decide +kernel
theorem dX11_truth_9 : decode cX11_truth 9 = .ok (.ireturn, 1) := by decide +kernel
theorem dX11_done_0 : decode cX11_done 0 = .ok (.iload_n 0, 1) := by decide +kernel
theorem dX11_done_1 : decode cX11_done 1 = .ok (.tableswitch 214 37 62 #[143, 197, 214, 214, 214, 127, 119, 214, 123, 214, 131, 214, 214, 214, 214, 214, 214, 214, 214, 214, 214, 214, 214, 155, 183, 169], 119) := by decide +kernel
theorem dX11_done_120 : decode cX11_done 120 = .ok (.iload_n 1, 1) := by decide +kernel
theorem dX11_done_121 : decode cX11_done 121 = .ok (.iload_n 2, 1) := by decide +kernel
theorem dX11_done_122 : decode cX11_done 122 = .ok (.iadd, 1) := by decide +kernel
theorem dX11_done_123 : decode cX11_done 123 = .ok (.ireturn, 1) := by decide +kernel
theorem dX11_done_124 : decode cX11_done 124 = .ok (.iload_n 1, 1) := by decide +kernel
theorem dX11_done_125 : decode cX11_done 125 = .ok (.iload_n 2, 1) := by decide +kernel
theorem dX11_done_126 : decode cX11_done 126 = .ok (.isub, 1) := by decide +kernel
theorem dX11_done_127 : decode cX11_done 127 = .ok (.ireturn, 1) := by decide +kernel
theorem dX11_done_128 : decode cX11_done 128 = .ok (.iload_n 1, 1) := by decide +kernel
theorem dX11_done_129 : decode cX11_done 129 = .ok (.iload_n 2, 1) := by decide +kernel
theorem dX11_done_130 : decode cX11_done 130 = .ok (.imul, 1) := by decide +kernel
theorem dX11_done_131 : decode cX11_done 131 = .ok (.ireturn, 1) := by decide +kernel
theorem dX11_done_132 : decode cX11_done 132 = .ok (.iload_n 2, 1) := by decide +kernel
theorem dX11_done_133 : decode cX11_done 133 = .ok (.ifCond .ne 7, 3) := by decide +kernel
theorem dX11_done_136 : decode cX11_done 136 = .ok (.iconst 0, 1) := by decide +kernel
theorem dX11_done_137 : decode cX11_done 137 = .ok (.goto 6, 3) := by decide +kernel
theorem dX11_done_140 : decode cX11_done 140 = .ok (.iload_n 1, 1) := by decide +kernel
theorem dX11_done_141 : decode cX11_done 141 = .ok (.iload_n 2, 1) := by decide +kernel
theorem dX11_done_142 : decode cX11_done 142 = .ok (.idiv, 1) := by decide +kernel
theorem dX11_done_143 : decode cX11_done 143 = .ok (.ireturn, 1) := by decide +kernel
theorem dX11_done_144 : decode cX11_done 144 = .ok (.iload_n 2, 1) := by decide +kernel
theorem dX11_done_145 : decode cX11_done 145 = .ok (.ifCond .ne 7, 3) := by decide +kernel
theorem dX11_done_148 : decode cX11_done 148 = .ok (.iconst 0, 1) := by decide +kernel
theorem dX11_done_149 : decode cX11_done 149 = .ok (.goto 6, 3) := by decide +kernel
theorem dX11_done_152 : decode cX11_done 152 = .ok (.iload_n 1, 1) := by decide +kernel
theorem dX11_done_153 : decode cX11_done 153 = .ok (.iload_n 2, 1) := by decide +kernel
theorem dX11_done_154 : decode cX11_done 154 = .ok (.irem, 1) := by decide +kernel
theorem dX11_done_155 : decode cX11_done 155 = .ok (.ireturn, 1) := by decide +kernel
theorem dX11_done_156 : decode cX11_done 156 = .ok (.iload_n 1, 1) := by decide +kernel
theorem dX11_done_157 : decode cX11_done 157 = .ok (.iload_n 2, 1) := by decide +kernel
theorem dX11_done_158 : decode cX11_done 158 = .ok (.if_icmp .ge 7, 3) := by decide +kernel
theorem dX11_done_161 : decode cX11_done 161 = .ok (.iconst 1, 1) := by decide +kernel
theorem dX11_done_162 : decode cX11_done 162 = .ok (.goto 4, 3) := by decide +kernel
theorem dX11_done_165 : decode cX11_done 165 = .ok (.iconst 0, 1) := by decide +kernel
theorem dX11_done_166 : decode cX11_done 166 = .ok (.invokestatic 320, 3) := by decide +kernel
theorem dX11_done_169 : decode cX11_done 169 = .ok (.ireturn, 1) := by decide +kernel
theorem dX11_done_170 : decode cX11_done 170 = .ok (.iload_n 1, 1) := by decide +kernel
theorem dX11_done_171 : decode cX11_done 171 = .ok (.iload_n 2, 1) := by decide +kernel
theorem dX11_done_172 : decode cX11_done 172 = .ok (.if_icmp .le 7, 3) := by decide +kernel
theorem dX11_done_175 : decode cX11_done 175 = .ok (.iconst 1, 1) := by decide +kernel
theorem dX11_done_176 : decode cX11_done 176 = .ok (.goto 4, 3) := by decide +kernel
theorem dX11_done_179 : decode cX11_done 179 = .ok (.iconst 0, 1) := by decide +kernel
theorem dX11_done_180 : decode cX11_done 180 = .ok (.invokestatic 320, 3) := by decide +kernel
theorem dX11_done_183 : decode cX11_done 183 = .ok (.ireturn, 1) := by decide +kernel
theorem dX11_done_184 : decode cX11_done 184 = .ok (.iload_n 1, 1) := by decide +kernel
theorem dX11_done_185 : decode cX11_done 185 = .ok (.iload_n 2, 1) := by decide +kernel
theorem dX11_done_186 : decode cX11_done 186 = .ok (.if_icmp .ne 7, 3) := by decide +kernel
theorem dX11_done_189 : decode cX11_done 189 = .ok (.iconst 1, 1) := by decide +kernel
theorem dX11_done_190 : decode cX11_done 190 = .ok (.goto 4, 3) := by decide +kernel
theorem dX11_done_193 : decode cX11_done 193 = .ok (.iconst 0, 1) := by decide +kernel
theorem dX11_done_194 : decode cX11_done 194 = .ok (.invokestatic 320, 3) := by decide +kernel
theorem dX11_done_197 : decode cX11_done 197 = .ok (.ireturn, 1) := by decide +kernel
theorem dX11_done_198 : decode cX11_done 198 = .ok (.iload_n 1, 1) := by decide +kernel
theorem dX11_done_199 : decode cX11_done 199 = .ok (.ifCond .eq 11, 3) := by decide +kernel
theorem dX11_done_202 : decode cX11_done 202 = .ok (.iload_n 2, 1) := by decide +kernel
theorem dX11_done_203 : decode cX11_done 203 = .ok (.ifCond .eq 7, 3) := by decide +kernel
theorem dX11_done_206 : decode cX11_done 206 = .ok (.iconst 1, 1) := by decide +kernel
theorem dX11_done_207 : decode cX11_done 207 = .ok (.goto 4, 3) := by decide +kernel
theorem dX11_done_210 : decode cX11_done 210 = .ok (.iconst 0, 1) := by decide +kernel
theorem dX11_done_211 : decode cX11_done 211 = .ok (.invokestatic 320, 3) := by decide +kernel
theorem dX11_done_214 : decode cX11_done 214 = .ok (.ireturn, 1) := by decide +kernel
theorem dX11_done_215 : decode cX11_done 215 = .ok (.iload_n 1, 1) := by decide +kernel
theorem dX11_done_216 : decode cX11_done 216 = .ok (.ifCond .ne 7, 3) := by decide +kernel
theorem dX11_done_219 : decode cX11_done 219 = .ok (.iload_n 2, 1) := by decide +kernel
theorem dX11_done_220 : decode cX11_done 220 = .ok (.ifCond .eq 7, 3) := by decide +kernel
theorem dX11_done_223 : decode cX11_done 223 = .ok (.iconst 1, 1) := by decide +kernel
theorem dX11_done_224 : decode cX11_done 224 = .ok (.goto 4, 3) := by decide +kernel
theorem dX11_done_227 : decode cX11_done 227 = .ok (.iconst 0, 1) := by decide +kernel
theorem dX11_done_228 : decode cX11_done 228 = .ok (.invokestatic 320, 3) := by decide +kernel
theorem dX11_done_231 : decode cX11_done 231 = .ok (.ireturn, 1) := by decide +kernel
theorem dX11_heard_0 : decode cX11_heard 0 = .ok (.iconst 0, 1) := by decide +kernel
theorem dX11_heard_1 : decode cX11_heard 1 = .ok (.istore_n 1, 1) := by decide +kernel
theorem dX11_heard_2 : decode cX11_heard 2 = .ok (.aload_n 0, 1) := by decide +kernel
theorem dX11_heard_3 : decode cX11_heard 3 = .ok (.getfield 36, 3) := by decide +kernel
theorem dX11_heard_6 : decode cX11_heard 6 = .ok (.iconst 0, 1) := by decide +kernel
theorem dX11_heard_7 : decode cX11_heard 7 = .ok (.bipush 10, 2) := by decide +kernel
theorem dX11_heard_9 : decode cX11_heard 9 = .ok (.iastore, 1) := by decide +kernel
theorem dX11_heard_10 : decode cX11_heard 10 = .ok (.iconst 0, 1) := by decide +kernel
theorem dX11_heard_11 : decode cX11_heard 11 = .ok (.istore_n 2, 1) := by decide +kernel
theorem dX11_heard_12 : decode cX11_heard 12 = .ok (.iload_n 2, 1) := by decide +kernel
theorem dX11_heard_13 : decode cX11_heard 13 = .ok (.aload_n 0, 1) := by decide +kernel
theorem dX11_heard_14 : decode cX11_heard 14 = .ok (.getfield 324, 3) := by decide +kernel
theorem dX11_heard_17 : decode cX11_heard 17 = .ok (.if_icmp .ge 143, 3) := by decide +kernel
theorem dX11_heard_20 : decode cX11_heard 20 = .ok (.aload_n 0, 1) := by decide +kernel
theorem dX11_heard_21 : decode cX11_heard 21 = .ok (.getfield 27, 3) := by decide +kernel
theorem dX11_heard_24 : decode cX11_heard 24 = .ok (.iload_n 2, 1) := by decide +kernel
theorem dX11_heard_25 : decode cX11_heard 25 = .ok (.iaload, 1) := by decide +kernel
theorem dX11_heard_26 : decode cX11_heard 26 = .ok (.ifCond .eq 13, 3) := by decide +kernel
theorem dX11_heard_29 : decode cX11_heard 29 = .ok (.aload_n 0, 1) := by decide +kernel
theorem dX11_heard_30 : decode cX11_heard 30 = .ok (.getfield 27, 3) := by decide +kernel
theorem dX11_heard_33 : decode cX11_heard 33 = .ok (.iload_n 2, 1) := by decide +kernel
theorem dX11_heard_34 : decode cX11_heard 34 = .ok (.iaload, 1) := by decide +kernel
theorem dX11_heard_35 : decode cX11_heard 35 = .ok (.iconst 1, 1) := by decide +kernel
theorem dX11_heard_36 : decode cX11_heard 36 = .ok (.if_icmp .ne 44, 3) := by decide +kernel
theorem dX11_heard_39 : decode cX11_heard 39 = .ok (.aload_n 0, 1) := by decide +kernel
theorem dX11_heard_40 : decode cX11_heard 40 = .ok (.getfield 36, 3) := by decide +kernel
theorem dX11_heard_43 : decode cX11_heard 43 = .ok (.iload_n 1, 1) := by decide +kernel
theorem dX11_heard_44 : decode cX11_heard 44 = .ok (.aload_n 0, 1) := by decide +kernel
theorem dX11_heard_45 : decode cX11_heard 45 = .ok (.getfield 27, 3) := by decide +kernel
theorem dX11_heard_48 : decode cX11_heard 48 = .ok (.iload_n 2, 1) := by decide +kernel
theorem dX11_heard_49 : decode cX11_heard 49 = .ok (.iaload, 1) := by decide +kernel
theorem dX11_heard_50 : decode cX11_heard 50 = .ok (.ifCond .ne 12, 3) := by decide +kernel
theorem dX11_heard_53 : decode cX11_heard 53 = .ok (.aload_n 0, 1) := by decide +kernel
theorem dX11_heard_54 : decode cX11_heard 54 = .ok (.getfield 30, 3) := by decide +kernel
theorem dX11_heard_57 : decode cX11_heard 57 = .ok (.iload_n 2, 1) := by decide +kernel
theorem dX11_heard_58 : decode cX11_heard 58 = .ok (.iaload, 1) := by decide +kernel
theorem dX11_heard_59 : decode cX11_heard 59 = .ok (.goto 14, 3) := by decide +kernel
theorem dX11_heard_62 : decode cX11_heard 62 = .ok (.aload_n 0, 1) := by decide +kernel
theorem dX11_heard_63 : decode cX11_heard 63 = .ok (.getfield 39, 3) := by decide +kernel
theorem dX11_heard_66 : decode cX11_heard 66 = .ok (.aload_n 0, 1) := by decide +kernel
theorem dX11_heard_67 : decode cX11_heard 67 = .ok (.getfield 30, 3) := by decide +kernel
theorem dX11_heard_70 : decode cX11_heard 70 = .ok (.iload_n 2, 1) := by decide +kernel
theorem dX11_heard_71 : decode cX11_heard 71 = .ok (.iaload, 1) := by decide +kernel
theorem dX11_heard_72 : decode cX11_heard 72 = .ok (.iaload, 1) := by decide +kernel
theorem dX11_heard_73 : decode cX11_heard 73 = .ok (.iastore, 1) := by decide +kernel
theorem dX11_heard_74 : decode cX11_heard 74 = .ok (.iinc 1 1, 3) := by decide +kernel
theorem dX11_heard_77 : decode cX11_heard 77 = .ok (.goto 77, 3) := by decide +kernel
theorem dX11_heard_80 : decode cX11_heard 80 = .ok (.aload_n 0, 1) := by decide +kernel
theorem dX11_heard_81 : decode cX11_heard 81 = .ok (.getfield 27, 3) := by decide +kernel
theorem dX11_heard_84 : decode cX11_heard 84 = .ok (.iload_n 2, 1) := by decide +kernel
theorem dX11_heard_85 : decode cX11_heard 85 = .ok (.iaload, 1) := by decide +kernel
theorem dX11_heard_86 : decode cX11_heard 86 = .ok (.iconst 2, 1) := by decide +kernel
theorem dX11_heard_87 : decode cX11_heard 87 = .ok (.if_icmp .ne 33, 3) := by decide +kernel
theorem dX11_heard_90 : decode cX11_heard 90 = .ok (.aload_n 0, 1) := by decide +kernel
theorem dX11_heard_91 : decode cX11_heard 91 = .ok (.getfield 36, 3) := by decide +kernel
theorem dX11_heard_94 : decode cX11_heard 94 = .ok (.iload_n 1, 1) := by decide +kernel
theorem dX11_heard_95 : decode cX11_heard 95 = .ok (.iconst 1, 1) := by decide +kernel
theorem dX11_heard_96 : decode cX11_heard 96 = .ok (.isub, 1) := by decide +kernel
theorem dX11_heard_97 : decode cX11_heard 97 = .ok (.aload_n 0, 1) := by decide +kernel
theorem dX11_heard_98 : decode cX11_heard 98 = .ok (.getfield 36, 3) := by decide +kernel
theorem dX11_heard_101 : decode cX11_heard 101 = .ok (.iload_n 1, 1) := by decide +kernel
theorem dX11_heard_102 : decode cX11_heard 102 = .ok (.iconst 1, 1) := by decide +kernel
theorem dX11_heard_103 : decode cX11_heard 103 = .ok (.isub, 1) := by decide +kernel
theorem dX11_heard_104 : decode cX11_heard 104 = .ok (.iaload, 1) := by decide +kernel
theorem dX11_heard_105 : decode cX11_heard 105 = .ok (.ifCond .ne 7, 3) := by decide +kernel
theorem dX11_heard_108 : decode cX11_heard 108 = .ok (.iconst 1, 1) := by decide +kernel
theorem dX11_heard_109 : decode cX11_heard 109 = .ok (.goto 4, 3) := by decide +kernel
theorem dX11_heard_112 : decode cX11_heard 112 = .ok (.iconst 0, 1) := by decide +kernel
theorem dX11_heard_113 : decode cX11_heard 113 = .ok (.invokestatic 320, 3) := by decide +kernel
theorem dX11_heard_116 : decode cX11_heard 116 = .ok (.iastore, 1) := by decide +kernel
theorem dX11_heard_117 : decode cX11_heard 117 = .ok (.goto 37, 3) := by decide +kernel
theorem dX11_heard_120 : decode cX11_heard 120 = .ok (.iinc 1 (-1), 3) := by decide +kernel
theorem dX11_heard_123 : decode cX11_heard 123 = .ok (.aload_n 0, 1) := by decide +kernel
theorem dX11_heard_124 : decode cX11_heard 124 = .ok (.getfield 36, 3) := by decide +kernel
theorem dX11_heard_127 : decode cX11_heard 127 = .ok (.iload_n 1, 1) := by decide +kernel
theorem dX11_heard_128 : decode cX11_heard 128 = .ok (.iconst 1, 1) := by decide +kernel
theorem dX11_heard_129 : decode cX11_heard 129 = .ok (.isub, 1) := by decide +kernel
theorem dX11_heard_130 : decode cX11_heard 130 = .ok (.aload_n 0, 1) := by decide +kernel
theorem dX11_heard_131 : decode cX11_heard 131 = .ok (.getfield 30, 3) := by decide +kernel
theorem dX11_heard_134 : decode cX11_heard 134 = .ok (.iload_n 2, 1) := by decide +kernel
theorem dX11_heard_135 : decode cX11_heard 135 = .ok (.iaload, 1) := by decide +kernel
theorem dX11_heard_136 : decode cX11_heard 136 = .ok (.aload_n 0, 1) := by decide +kernel
theorem dX11_heard_137 : decode cX11_heard 137 = .ok (.getfield 36, 3) := by decide +kernel
theorem dX11_heard_140 : decode cX11_heard 140 = .ok (.iload_n 1, 1) := by decide +kernel
theorem dX11_heard_141 : decode cX11_heard 141 = .ok (.iconst 1, 1) := by decide +kernel
theorem dX11_heard_142 : decode cX11_heard 142 = .ok (.isub, 1) := by decide +kernel
theorem dX11_heard_143 : decode cX11_heard 143 = .ok (.iaload, 1) := by decide +kernel
theorem dX11_heard_144 : decode cX11_heard 144 = .ok (.aload_n 0, 1) := by decide +kernel
theorem dX11_heard_145 : decode cX11_heard 145 = .ok (.getfield 36, 3) := by decide +kernel
theorem dX11_heard_148 : decode cX11_heard 148 = .ok (.iload_n 1, 1) := by decide +kernel
theorem dX11_heard_149 : decode cX11_heard 149 = .ok (.iaload, 1) := by decide +kernel
theorem dX11_heard_150 : decode cX11_heard 150 = .ok (.invokestatic 327, 3) := by decide +kernel
theorem dX11_heard_153 : decode cX11_heard 153 = .ok (.iastore, 1) := by decide +kernel
theorem dX11_heard_154 : decode cX11_heard 154 = .ok (.iinc 2 1, 3) := by decide +kernel
theorem dX11_heard_157 : decode cX11_heard 157 = .ok (.goto (-145), 3) := by decide +kernel
theorem dX11_heard_160 : decode cX11_heard 160 = .ok (.aload_n 0, 1) := by decide +kernel
theorem dX11_heard_161 : decode cX11_heard 161 = .ok (.getfield 36, 3) := by decide +kernel
theorem dX11_heard_164 : decode cX11_heard 164 = .ok (.iconst 0, 1) := by decide +kernel
theorem dX11_heard_165 : decode cX11_heard 165 = .ok (.iaload, 1) := by decide +kernel
theorem dX11_heard_166 : decode cX11_heard 166 = .ok (.ifCond .ge 7, 3) := by decide +kernel
theorem dX11_heard_169 : decode cX11_heard 169 = .ok (.iconst 0, 1) := by decide +kernel
theorem dX11_heard_170 : decode cX11_heard 170 = .ok (.goto 25, 3) := by decide +kernel
theorem dX11_heard_173 : decode cX11_heard 173 = .ok (.aload_n 0, 1) := by decide +kernel
theorem dX11_heard_174 : decode cX11_heard 174 = .ok (.getfield 36, 3) := by decide +kernel
theorem dX11_heard_177 : decode cX11_heard 177 = .ok (.iconst 0, 1) := by decide +kernel
theorem dX11_heard_178 : decode cX11_heard 178 = .ok (.iaload, 1) := by decide +kernel
theorem dX11_heard_179 : decode cX11_heard 179 = .ok (.bipush 10, 2) := by decide +kernel
theorem dX11_heard_181 : decode cX11_heard 181 = .ok (.if_icmp .le 8, 3) := by decide +kernel
theorem dX11_heard_184 : decode cX11_heard 184 = .ok (.bipush 10, 2) := by decide +kernel
theorem dX11_heard_186 : decode cX11_heard 186 = .ok (.goto 9, 3) := by decide +kernel
theorem dX11_heard_189 : decode cX11_heard 189 = .ok (.aload_n 0, 1) := by decide +kernel
theorem dX11_heard_190 : decode cX11_heard 190 = .ok (.getfield 36, 3) := by decide +kernel
theorem dX11_heard_193 : decode cX11_heard 193 = .ok (.iconst 0, 1) := by decide +kernel
theorem dX11_heard_194 : decode cX11_heard 194 = .ok (.iaload, 1) := by decide +kernel
theorem dX11_heard_195 : decode cX11_heard 195 = .ok (.ireturn, 1) := by decide +kernel
theorem dX11_readChurch_0 : decode cX11_readChurch 0 = .ok (.aload_n 0, 1) := by decide +kernel
theorem dX11_readChurch_1 : decode cX11_readChurch 1 = .ok (.iconst 0, 1) := by decide +kernel
theorem dX11_readChurch_2 : decode cX11_readChurch 2 = .ok (.aload_n 0, 1) := by decide +kernel
theorem dX11_readChurch_3 : decode cX11_readChurch 3 = .ok (.getfield 264, 3) := by decide +kernel
theorem dX11_readChurch_6 : decode cX11_readChurch 6 = .ok (.invokevirtual 331, 3) := by decide +kernel
theorem dX11_readChurch_9 : decode cX11_readChurch 9 = .ok (.aload_n 0, 1) := by decide +kernel
theorem dX11_readChurch_10 : decode cX11_readChurch 10 = .ok (.getfield 185, 3) := by decide +kernel
theorem dX11_readChurch_13 : decode cX11_readChurch 13 = .ok (.ifCond .ne 13, 3) := by decide +kernel
theorem dX11_readChurch_16 : decode cX11_readChurch 16 = .ok (.aload_n 0, 1) := by decide +kernel
theorem dX11_readChurch_17 : decode cX11_readChurch 17 = .ok (.dup, 1) := by decide +kernel
theorem dX11_readChurch_18 : decode cX11_readChurch 18 = .ok (.getfield 264, 3) := by decide +kernel
theorem dX11_readChurch_21 : decode cX11_readChurch 21 = .ok (.iconst 1, 1) := by decide +kernel
theorem dX11_readChurch_22 : decode cX11_readChurch 22 = .ok (.iadd, 1) := by decide +kernel
theorem dX11_readChurch_23 : decode cX11_readChurch 23 = .ok (.putfield 264, 3) := by decide +kernel
theorem dX11_readChurch_26 : decode cX11_readChurch 26 = .ok (.return_, 1) := by decide +kernel
theorem dX11_readParents_0 : decode cX11_readParents 0 = .ok (.aload_n 0, 1) := by decide +kernel
theorem dX11_readParents_1 : decode cX11_readParents 1 = .ok (.getfield 45, 3) := by decide +kernel
theorem dX11_readParents_4 : decode cX11_readParents 4 = .ok (.iconst 2, 1) := by decide +kernel
theorem dX11_readParents_5 : decode cX11_readParents 5 = .ok (.iload_n 1, 1) := by decide +kernel
theorem dX11_readParents_6 : decode cX11_readParents 6 = .ok (.imul, 1) := by decide +kernel
theorem dX11_readParents_7 : decode cX11_readParents 7 = .ok (.iconst (-1), 1) := by decide +kernel
theorem dX11_readParents_8 : decode cX11_readParents 8 = .ok (.iastore, 1) := by decide +kernel
theorem dX11_readParents_9 : decode cX11_readParents 9 = .ok (.aload_n 0, 1) := by decide +kernel
theorem dX11_readParents_10 : decode cX11_readParents 10 = .ok (.getfield 45, 3) := by decide +kernel
theorem dX11_readParents_13 : decode cX11_readParents 13 = .ok (.iconst 2, 1) := by decide +kernel
theorem dX11_readParents_14 : decode cX11_readParents 14 = .ok (.iload_n 1, 1) := by decide +kernel
theorem dX11_readParents_15 : decode cX11_readParents 15 = .ok (.imul, 1) := by decide +kernel
theorem dX11_readParents_16 : decode cX11_readParents 16 = .ok (.iconst 1, 1) := by decide +kernel
theorem dX11_readParents_17 : decode cX11_readParents 17 = .ok (.iadd, 1) := by decide +kernel
theorem dX11_readParents_18 : decode cX11_readParents 18 = .ok (.iconst (-1), 1) := by decide +kernel
theorem dX11_readParents_19 : decode cX11_readParents 19 = .ok (.iastore, 1) := by decide +kernel
theorem dX11_readParents_20 : decode cX11_readParents 20 = .ok (.aload_n 0, 1) := by decide +kernel
theorem dX11_readParents_21 : decode cX11_readParents 21 = .ok (.ldc2_w 194, 3) := by decide +kernel
theorem dX11_readParents_24 : decode cX11_readParents 24 = .ok (.invokevirtual 334, 3) := by decide +kernel
theorem dX11_readParents_27 : decode cX11_readParents 27 = .ok (.ifCond .ne 4, 3) := by decide +kernel
theorem dX11_readParents_30 : decode cX11_readParents 30 = .ok (.return_, 1) := by decide +kernel
theorem dX11_readParents_31 : decode cX11_readParents 31 = .ok (.aload_n 0, 1) := by decide +kernel
theorem dX11_readParents_32 : decode cX11_readParents 32 = .ok (.getfield 45, 3) := by decide +kernel
theorem dX11_readParents_35 : decode cX11_readParents 35 = .ok (.iconst 2, 1) := by decide +kernel
theorem dX11_readParents_36 : decode cX11_readParents 36 = .ok (.iload_n 1, 1) := by decide +kernel
theorem dX11_readParents_37 : decode cX11_readParents 37 = .ok (.imul, 1) := by decide +kernel
theorem dX11_readParents_38 : decode cX11_readParents 38 = .ok (.aload_n 0, 1) := by decide +kernel
theorem dX11_readParents_39 : decode cX11_readParents 39 = .ok (.invokevirtual 337, 3) := by decide +kernel
theorem dX11_readParents_42 : decode cX11_readParents 42 = .ok (.iastore, 1) := by decide +kernel
theorem dX11_readParents_43 : decode cX11_readParents 43 = .ok (.aload_n 0, 1) := by decide +kernel
theorem dX11_readParents_44 : decode cX11_readParents 44 = .ok (.getfield 185, 3) := by decide +kernel
theorem dX11_readParents_47 : decode cX11_readParents 47 = .ok (.ifCond .ne 7, 3) := by decide +kernel
theorem dX11_readParents_50 : decode cX11_readParents 50 = .ok (.aload_n 0, 1) := by decide +kernel
theorem dX11_readParents_51 : decode cX11_readParents 51 = .ok (.invokevirtual 241, 3) := by decide +kernel
theorem dX11_readParents_54 : decode cX11_readParents 54 = .ok (.aload_n 0, 1) := by decide +kernel
theorem dX11_readParents_55 : decode cX11_readParents 55 = .ok (.ldc2_w 196, 3) := by decide +kernel
theorem dX11_readParents_58 : decode cX11_readParents 58 = .ok (.invokevirtual 334, 3) := by decide +kernel
theorem dX11_readParents_61 : decode cX11_readParents 61 = .ok (.ifCond .ne 4, 3) := by decide +kernel
theorem dX11_readParents_64 : decode cX11_readParents 64 = .ok (.return_, 1) := by decide +kernel
theorem dX11_readParents_65 : decode cX11_readParents 65 = .ok (.aload_n 0, 1) := by decide +kernel
theorem dX11_readParents_66 : decode cX11_readParents 66 = .ok (.invokevirtual 337, 3) := by decide +kernel
theorem dX11_readParents_69 : decode cX11_readParents 69 = .ok (.istore_n 2, 1) := by decide +kernel
theorem dX11_readParents_70 : decode cX11_readParents 70 = .ok (.aload_n 0, 1) := by decide +kernel
theorem dX11_readParents_71 : decode cX11_readParents 71 = .ok (.getfield 185, 3) := by decide +kernel
theorem dX11_readParents_74 : decode cX11_readParents 74 = .ok (.ifCond .ne 20, 3) := by decide +kernel
theorem dX11_readParents_77 : decode cX11_readParents 77 = .ok (.iload_n 2, 1) := by decide +kernel
theorem dX11_readParents_78 : decode cX11_readParents 78 = .ok (.aload_n 0, 1) := by decide +kernel
theorem dX11_readParents_79 : decode cX11_readParents 79 = .ok (.getfield 45, 3) := by decide +kernel
theorem dX11_readParents_82 : decode cX11_readParents 82 = .ok (.iconst 2, 1) := by decide +kernel
theorem dX11_readParents_83 : decode cX11_readParents 83 = .ok (.iload_n 1, 1) := by decide +kernel
theorem dX11_readParents_84 : decode cX11_readParents 84 = .ok (.imul, 1) := by decide +kernel
theorem dX11_readParents_85 : decode cX11_readParents 85 = .ok (.iaload, 1) := by decide +kernel
theorem dX11_readParents_86 : decode cX11_readParents 86 = .ok (.if_icmp .ne 8, 3) := by decide +kernel
theorem dX11_readParents_89 : decode cX11_readParents 89 = .ok (.aload_n 0, 1) := by decide +kernel
theorem dX11_readParents_90 : decode cX11_readParents 90 = .ok (.iconst 3, 1) := by decide +kernel
theorem dX11_readParents_91 : decode cX11_readParents 91 = .ok (.invokevirtual 238, 3) := by decide +kernel
theorem dX11_readParents_94 : decode cX11_readParents 94 = .ok (.aload_n 0, 1) := by decide +kernel
theorem dX11_readParents_95 : decode cX11_readParents 95 = .ok (.getfield 45, 3) := by decide +kernel
theorem dX11_readParents_98 : decode cX11_readParents 98 = .ok (.iconst 2, 1) := by decide +kernel
theorem dX11_readParents_99 : decode cX11_readParents 99 = .ok (.iload_n 1, 1) := by decide +kernel
theorem dX11_readParents_100 : decode cX11_readParents 100 = .ok (.imul, 1) := by decide +kernel
theorem dX11_readParents_101 : decode cX11_readParents 101 = .ok (.iconst 1, 1) := by decide +kernel
theorem dX11_readParents_102 : decode cX11_readParents 102 = .ok (.iadd, 1) := by decide +kernel
theorem dX11_readParents_103 : decode cX11_readParents 103 = .ok (.iload_n 2, 1) := by decide +kernel
theorem dX11_readParents_104 : decode cX11_readParents 104 = .ok (.iastore, 1) := by decide +kernel
theorem dX11_readParents_105 : decode cX11_readParents 105 = .ok (.aload_n 0, 1) := by decide +kernel
theorem dX11_readParents_106 : decode cX11_readParents 106 = .ok (.getfield 185, 3) := by decide +kernel
theorem dX11_readParents_109 : decode cX11_readParents 109 = .ok (.ifCond .ne 7, 3) := by decide +kernel
theorem dX11_readParents_112 : decode cX11_readParents 112 = .ok (.aload_n 0, 1) := by decide +kernel
theorem dX11_readParents_113 : decode cX11_readParents 113 = .ok (.invokevirtual 241, 3) := by decide +kernel
theorem dX11_readParents_116 : decode cX11_readParents 116 = .ok (.return_, 1) := by decide +kernel
theorem dX11_readPerson_0 : decode cX11_readPerson 0 = .ok (.aload_n 0, 1) := by decide +kernel
theorem dX11_readPerson_1 : decode cX11_readPerson 1 = .ok (.iconst 4, 1) := by decide +kernel
theorem dX11_readPerson_2 : decode cX11_readPerson 2 = .ok (.aload_n 0, 1) := by decide +kernel
theorem dX11_readPerson_3 : decode cX11_readPerson 3 = .ok (.getfield 258, 3) := by decide +kernel
theorem dX11_readPerson_6 : decode cX11_readPerson 6 = .ok (.invokevirtual 331, 3) := by decide +kernel
theorem dX11_readPerson_9 : decode cX11_readPerson 9 = .ok (.aload_n 0, 1) := by decide +kernel
theorem dX11_readPerson_10 : decode cX11_readPerson 10 = .ok (.getfield 258, 3) := by decide +kernel
theorem dX11_readPerson_13 : decode cX11_readPerson 13 = .ok (.istore_n 1, 1) := by decide +kernel
theorem dX11_readPerson_14 : decode cX11_readPerson 14 = .ok (.aload_n 0, 1) := by decide +kernel
theorem dX11_readPerson_15 : decode cX11_readPerson 15 = .ok (.ldc2_w 192, 3) := by decide +kernel
theorem dX11_readPerson_18 : decode cX11_readPerson 18 = .ok (.invokevirtual 244, 3) := by decide +kernel
theorem dX11_readPerson_21 : decode cX11_readPerson 21 = .ok (.aload_n 0, 1) := by decide +kernel
theorem dX11_readPerson_22 : decode cX11_readPerson 22 = .ok (.getfield 42, 3) := by decide +kernel
theorem dX11_readPerson_25 : decode cX11_readPerson 25 = .ok (.iload_n 1, 1) := by decide +kernel
theorem dX11_readPerson_26 : decode cX11_readPerson 26 = .ok (.aload_n 0, 1) := by decide +kernel
theorem dX11_readPerson_27 : decode cX11_readPerson 27 = .ok (.invokevirtual 340, 3) := by decide +kernel
theorem dX11_readPerson_30 : decode cX11_readPerson 30 = .ok (.iastore, 1) := by decide +kernel
theorem dX11_readPerson_31 : decode cX11_readPerson 31 = .ok (.aload_n 0, 1) := by decide +kernel
theorem dX11_readPerson_32 : decode cX11_readPerson 32 = .ok (.iload_n 1, 1) := by decide +kernel
theorem dX11_readPerson_33 : decode cX11_readPerson 33 = .ok (.invokevirtual 343, 3) := by decide +kernel
theorem dX11_readPerson_36 : decode cX11_readPerson 36 = .ok (.aload_n 0, 1) := by decide +kernel
theorem dX11_readPerson_37 : decode cX11_readPerson 37 = .ok (.getfield 87, 3) := by decide +kernel
theorem dX11_readPerson_40 : decode cX11_readPerson 40 = .ok (.iload_n 1, 1) := by decide +kernel
theorem dX11_readPerson_41 : decode cX11_readPerson 41 = .ok (.aload_n 0, 1) := by decide +kernel
theorem dX11_readPerson_42 : decode cX11_readPerson 42 = .ok (.ldc2_w 198, 3) := by decide +kernel
theorem dX11_readPerson_45 : decode cX11_readPerson 45 = .ok (.invokevirtual 334, 3) := by decide +kernel
theorem dX11_readPerson_48 : decode cX11_readPerson 48 = .ok (.bastore, 1) := by decide +kernel
theorem dX11_readPerson_49 : decode cX11_readPerson 49 = .ok (.aload_n 0, 1) := by decide +kernel
theorem dX11_readPerson_50 : decode cX11_readPerson 50 = .ok (.getfield 48, 3) := by decide +kernel
theorem dX11_readPerson_53 : decode cX11_readPerson 53 = .ok (.iload_n 1, 1) := by decide +kernel
theorem dX11_readPerson_54 : decode cX11_readPerson 54 = .ok (.aload_n 0, 1) := by decide +kernel
theorem dX11_readPerson_55 : decode cX11_readPerson 55 = .ok (.getfield 185, 3) := by decide +kernel
theorem dX11_readPerson_58 : decode cX11_readPerson 58 = .ok (.ifCond .ne 26, 3) := by decide +kernel
theorem dX11_readPerson_61 : decode cX11_readPerson 61 = .ok (.aload_n 0, 1) := by decide +kernel
theorem dX11_readPerson_62 : decode cX11_readPerson 62 = .ok (.ldc2_w 200, 3) := by decide +kernel
theorem dX11_readPerson_65 : decode cX11_readPerson 65 = .ok (.invokevirtual 234, 3) := by decide +kernel
theorem dX11_readPerson_68 : decode cX11_readPerson 68 = .ok (.ifCond .eq 16, 3) := by decide +kernel
theorem dX11_readPerson_71 : decode cX11_readPerson 71 = .ok (.aload_n 0, 1) := by decide +kernel
theorem dX11_readPerson_72 : decode cX11_readPerson 72 = .ok (.ldc2_w 200, 3) := by decide +kernel
theorem dX11_readPerson_75 : decode cX11_readPerson 75 = .ok (.iconst 1, 1) := by decide +kernel
theorem dX11_readPerson_76 : decode cX11_readPerson 76 = .ok (.bipush 12, 2) := by decide +kernel
theorem dX11_readPerson_78 : decode cX11_readPerson 78 = .ok (.invokevirtual 346, 3) := by decide +kernel
theorem dX11_readPerson_81 : decode cX11_readPerson 81 = .ok (.goto 4, 3) := by decide +kernel
theorem dX11_readPerson_84 : decode cX11_readPerson 84 = .ok (.iconst 0, 1) := by decide +kernel
theorem dX11_readPerson_85 : decode cX11_readPerson 85 = .ok (.iastore, 1) := by decide +kernel
theorem dX11_readPerson_86 : decode cX11_readPerson 86 = .ok (.aload_n 0, 1) := by decide +kernel
theorem dX11_readPerson_87 : decode cX11_readPerson 87 = .ok (.getfield 51, 3) := by decide +kernel
theorem dX11_readPerson_90 : decode cX11_readPerson 90 = .ok (.iload_n 1, 1) := by decide +kernel
theorem dX11_readPerson_91 : decode cX11_readPerson 91 = .ok (.iconst 0, 1) := by decide +kernel
theorem dX11_readPerson_92 : decode cX11_readPerson 92 = .ok (.iastore, 1) := by decide +kernel
theorem dX11_readPerson_93 : decode cX11_readPerson 93 = .ok (.aload_n 0, 1) := by decide +kernel
theorem dX11_readPerson_94 : decode cX11_readPerson 94 = .ok (.getfield 54, 3) := by decide +kernel
theorem dX11_readPerson_97 : decode cX11_readPerson 97 = .ok (.iload_n 1, 1) := by decide +kernel
theorem dX11_readPerson_98 : decode cX11_readPerson 98 = .ok (.iconst 0, 1) := by decide +kernel
theorem dX11_readPerson_99 : decode cX11_readPerson 99 = .ok (.iastore, 1) := by decide +kernel
theorem dX11_readPerson_100 : decode cX11_readPerson 100 = .ok (.aload_n 0, 1) := by decide +kernel
theorem dX11_readPerson_101 : decode cX11_readPerson 101 = .ok (.getfield 185, 3) := by decide +kernel
theorem dX11_readPerson_104 : decode cX11_readPerson 104 = .ok (.ifCond .ne 13, 3) := by decide +kernel
theorem dX11_readPerson_107 : decode cX11_readPerson 107 = .ok (.aload_n 0, 1) := by decide +kernel
theorem dX11_readPerson_108 : decode cX11_readPerson 108 = .ok (.dup, 1) := by decide +kernel
theorem dX11_readPerson_109 : decode cX11_readPerson 109 = .ok (.getfield 258, 3) := by decide +kernel
theorem dX11_readPerson_112 : decode cX11_readPerson 112 = .ok (.iconst 1, 1) := by decide +kernel
theorem dX11_readPerson_113 : decode cX11_readPerson 113 = .ok (.iadd, 1) := by decide +kernel
theorem dX11_readPerson_114 : decode cX11_readPerson 114 = .ok (.putfield 258, 3) := by decide +kernel
theorem dX11_readPerson_117 : decode cX11_readPerson 117 = .ok (.return_, 1) := by decide +kernel
theorem dX11_readKnows_0 : decode cX11_readKnows 0 = .ok (.aload_n 0, 1) := by decide +kernel
theorem dX11_readKnows_1 : decode cX11_readKnows 1 = .ok (.invokevirtual 241, 3) := by decide +kernel
theorem dX11_readKnows_4 : decode cX11_readKnows 4 = .ok (.aload_n 0, 1) := by decide +kernel
theorem dX11_readKnows_5 : decode cX11_readKnows 5 = .ok (.invokevirtual 337, 3) := by decide +kernel
theorem dX11_readKnows_8 : decode cX11_readKnows 8 = .ok (.istore_n 1, 1) := by decide +kernel
theorem dX11_readKnows_9 : decode cX11_readKnows 9 = .ok (.aload_n 0, 1) := by decide +kernel
theorem dX11_readKnows_10 : decode cX11_readKnows 10 = .ok (.getfield 185, 3) := by decide +kernel
theorem dX11_readKnows_13 : decode cX11_readKnows 13 = .ok (.ifCond .ne 7, 3) := by decide +kernel
theorem dX11_readKnows_16 : decode cX11_readKnows 16 = .ok (.aload_n 0, 1) := by decide +kernel
theorem dX11_readKnows_17 : decode cX11_readKnows 17 = .ok (.invokevirtual 241, 3) := by decide +kernel
theorem dX11_readKnows_20 : decode cX11_readKnows 20 = .ok (.aload_n 0, 1) := by decide +kernel
theorem dX11_readKnows_21 : decode cX11_readKnows 21 = .ok (.invokevirtual 337, 3) := by decide +kernel
theorem dX11_readKnows_24 : decode cX11_readKnows 24 = .ok (.istore_n 2, 1) := by decide +kernel
theorem dX11_readKnows_25 : decode cX11_readKnows 25 = .ok (.aload_n 0, 1) := by decide +kernel
theorem dX11_readKnows_26 : decode cX11_readKnows 26 = .ok (.getfield 185, 3) := by decide +kernel
theorem dX11_readKnows_29 : decode cX11_readKnows 29 = .ok (.ifCond .ne 27, 3) := by decide +kernel
theorem dX11_readKnows_32 : decode cX11_readKnows 32 = .ok (.iload_n 1, 1) := by decide +kernel
theorem dX11_readKnows_33 : decode cX11_readKnows 33 = .ok (.iload_n 2, 1) := by decide +kernel
theorem dX11_readKnows_34 : decode cX11_readKnows 34 = .ok (.if_icmp .eq 17, 3) := by decide +kernel
theorem dX11_readKnows_37 : decode cX11_readKnows 37 = .ok (.aload_n 0, 1) := by decide +kernel
theorem dX11_readKnows_38 : decode cX11_readKnows 38 = .ok (.getfield 51, 3) := by decide +kernel
theorem dX11_readKnows_41 : decode cX11_readKnows 41 = .ok (.iload_n 1, 1) := by decide +kernel
theorem dX11_readKnows_42 : decode cX11_readKnows 42 = .ok (.iaload, 1) := by decide +kernel
theorem dX11_readKnows_43 : decode cX11_readKnows 43 = .ok (.iload_n 2, 1) := by decide +kernel
theorem dX11_readKnows_44 : decode cX11_readKnows 44 = .ok (.ishr, 1) := by decide +kernel
theorem dX11_readKnows_45 : decode cX11_readKnows 45 = .ok (.iconst 1, 1) := by decide +kernel
theorem dX11_readKnows_46 : decode cX11_readKnows 46 = .ok (.iand, 1) := by decide +kernel
theorem dX11_readKnows_47 : decode cX11_readKnows 47 = .ok (.iconst 1, 1) := by decide +kernel
theorem dX11_readKnows_48 : decode cX11_readKnows 48 = .ok (.if_icmp .ne 8, 3) := by decide +kernel
theorem dX11_readKnows_51 : decode cX11_readKnows 51 = .ok (.aload_n 0, 1) := by decide +kernel
theorem dX11_readKnows_52 : decode cX11_readKnows 52 = .ok (.iconst 3, 1) := by decide +kernel
theorem dX11_readKnows_53 : decode cX11_readKnows 53 = .ok (.invokevirtual 238, 3) := by decide +kernel
theorem dX11_readKnows_56 : decode cX11_readKnows 56 = .ok (.aload_n 0, 1) := by decide +kernel
theorem dX11_readKnows_57 : decode cX11_readKnows 57 = .ok (.getfield 185, 3) := by decide +kernel
theorem dX11_readKnows_60 : decode cX11_readKnows 60 = .ok (.ifCond .le 4, 3) := by decide +kernel
theorem dX11_readKnows_63 : decode cX11_readKnows 63 = .ok (.return_, 1) := by decide +kernel
theorem dX11_readKnows_64 : decode cX11_readKnows 64 = .ok (.aload_n 0, 1) := by decide +kernel
theorem dX11_readKnows_65 : decode cX11_readKnows 65 = .ok (.getfield 51, 3) := by decide +kernel
theorem dX11_readKnows_68 : decode cX11_readKnows 68 = .ok (.iload_n 1, 1) := by decide +kernel
theorem dX11_readKnows_69 : decode cX11_readKnows 69 = .ok (.dup2, 1) := by decide +kernel
theorem dX11_readKnows_70 : decode cX11_readKnows 70 = .ok (.iaload, 1) := by decide +kernel
theorem dX11_readKnows_71 : decode cX11_readKnows 71 = .ok (.iconst 1, 1) := by decide +kernel
theorem dX11_readKnows_72 : decode cX11_readKnows 72 = .ok (.iload_n 2, 1) := by decide +kernel
theorem dX11_readKnows_73 : decode cX11_readKnows 73 = .ok (.ishl, 1) := by decide +kernel
theorem dX11_readKnows_74 : decode cX11_readKnows 74 = .ok (.ior, 1) := by decide +kernel
theorem dX11_readKnows_75 : decode cX11_readKnows 75 = .ok (.iastore, 1) := by decide +kernel
theorem dX11_readKnows_76 : decode cX11_readKnows 76 = .ok (.aload_n 0, 1) := by decide +kernel
theorem dX11_readKnows_77 : decode cX11_readKnows 77 = .ok (.dup, 1) := by decide +kernel
theorem dX11_readKnows_78 : decode cX11_readKnows 78 = .ok (.getfield 350, 3) := by decide +kernel
theorem dX11_readKnows_81 : decode cX11_readKnows 81 = .ok (.iconst 1, 1) := by decide +kernel
theorem dX11_readKnows_82 : decode cX11_readKnows 82 = .ok (.iadd, 1) := by decide +kernel
theorem dX11_readKnows_83 : decode cX11_readKnows 83 = .ok (.putfield 350, 3) := by decide +kernel
theorem dX11_readKnows_86 : decode cX11_readKnows 86 = .ok (.aload_n 0, 1) := by decide +kernel
theorem dX11_readKnows_87 : decode cX11_readKnows 87 = .ok (.invokevirtual 241, 3) := by decide +kernel
theorem dX11_readKnows_90 : decode cX11_readKnows 90 = .ok (.return_, 1) := by decide +kernel
theorem dX11_readSpites_0 : decode cX11_readSpites 0 = .ok (.aload_n 0, 1) := by decide +kernel
theorem dX11_readSpites_1 : decode cX11_readSpites 1 = .ok (.invokevirtual 241, 3) := by decide +kernel
theorem dX11_readSpites_4 : decode cX11_readSpites 4 = .ok (.aload_n 0, 1) := by decide +kernel
theorem dX11_readSpites_5 : decode cX11_readSpites 5 = .ok (.invokevirtual 337, 3) := by decide +kernel
theorem dX11_readSpites_8 : decode cX11_readSpites 8 = .ok (.istore_n 1, 1) := by decide +kernel
theorem dX11_readSpites_9 : decode cX11_readSpites 9 = .ok (.aload_n 0, 1) := by decide +kernel
theorem dX11_readSpites_10 : decode cX11_readSpites 10 = .ok (.getfield 185, 3) := by decide +kernel
theorem dX11_readSpites_13 : decode cX11_readSpites 13 = .ok (.ifCond .ne 7, 3) := by decide +kernel
theorem dX11_readSpites_16 : decode cX11_readSpites 16 = .ok (.aload_n 0, 1) := by decide +kernel
theorem dX11_readSpites_17 : decode cX11_readSpites 17 = .ok (.invokevirtual 241, 3) := by decide +kernel
theorem dX11_readSpites_20 : decode cX11_readSpites 20 = .ok (.aload_n 0, 1) := by decide +kernel
theorem dX11_readSpites_21 : decode cX11_readSpites 21 = .ok (.invokevirtual 337, 3) := by decide +kernel
theorem dX11_readSpites_24 : decode cX11_readSpites 24 = .ok (.istore_n 2, 1) := by decide +kernel
theorem dX11_readSpites_25 : decode cX11_readSpites 25 = .ok (.aload_n 0, 1) := by decide +kernel
theorem dX11_readSpites_26 : decode cX11_readSpites 26 = .ok (.getfield 185, 3) := by decide +kernel
theorem dX11_readSpites_29 : decode cX11_readSpites 29 = .ok (.ifCond .ne 27, 3) := by decide +kernel
theorem dX11_readSpites_32 : decode cX11_readSpites 32 = .ok (.iload_n 1, 1) := by decide +kernel
theorem dX11_readSpites_33 : decode cX11_readSpites 33 = .ok (.iload_n 2, 1) := by decide +kernel
theorem dX11_readSpites_34 : decode cX11_readSpites 34 = .ok (.if_icmp .eq 17, 3) := by decide +kernel
theorem dX11_readSpites_37 : decode cX11_readSpites 37 = .ok (.aload_n 0, 1) := by decide +kernel
theorem dX11_readSpites_38 : decode cX11_readSpites 38 = .ok (.getfield 54, 3) := by decide +kernel
theorem dX11_readSpites_41 : decode cX11_readSpites 41 = .ok (.iload_n 1, 1) := by decide +kernel
theorem dX11_readSpites_42 : decode cX11_readSpites 42 = .ok (.iaload, 1) := by decide +kernel
theorem dX11_readSpites_43 : decode cX11_readSpites 43 = .ok (.iload_n 2, 1) := by decide +kernel
theorem dX11_readSpites_44 : decode cX11_readSpites 44 = .ok (.ishr, 1) := by decide +kernel
theorem dX11_readSpites_45 : decode cX11_readSpites 45 = .ok (.iconst 1, 1) := by decide +kernel
theorem dX11_readSpites_46 : decode cX11_readSpites 46 = .ok (.iand, 1) := by decide +kernel
theorem dX11_readSpites_47 : decode cX11_readSpites 47 = .ok (.iconst 1, 1) := by decide +kernel
theorem dX11_readSpites_48 : decode cX11_readSpites 48 = .ok (.if_icmp .ne 8, 3) := by decide +kernel
theorem dX11_readSpites_51 : decode cX11_readSpites 51 = .ok (.aload_n 0, 1) := by decide +kernel
theorem dX11_readSpites_52 : decode cX11_readSpites 52 = .ok (.iconst 3, 1) := by decide +kernel
theorem dX11_readSpites_53 : decode cX11_readSpites 53 = .ok (.invokevirtual 238, 3) := by decide +kernel
theorem dX11_readSpites_56 : decode cX11_readSpites 56 = .ok (.aload_n 0, 1) := by decide +kernel
theorem dX11_readSpites_57 : decode cX11_readSpites 57 = .ok (.getfield 185, 3) := by decide +kernel
theorem dX11_readSpites_60 : decode cX11_readSpites 60 = .ok (.ifCond .le 4, 3) := by decide +kernel
theorem dX11_readSpites_63 : decode cX11_readSpites 63 = .ok (.return_, 1) := by decide +kernel
theorem dX11_readSpites_64 : decode cX11_readSpites 64 = .ok (.aload_n 0, 1) := by decide +kernel
theorem dX11_readSpites_65 : decode cX11_readSpites 65 = .ok (.getfield 54, 3) := by decide +kernel
theorem dX11_readSpites_68 : decode cX11_readSpites 68 = .ok (.iload_n 1, 1) := by decide +kernel
theorem dX11_readSpites_69 : decode cX11_readSpites 69 = .ok (.dup2, 1) := by decide +kernel
theorem dX11_readSpites_70 : decode cX11_readSpites 70 = .ok (.iaload, 1) := by decide +kernel
theorem dX11_readSpites_71 : decode cX11_readSpites 71 = .ok (.iconst 1, 1) := by decide +kernel
theorem dX11_readSpites_72 : decode cX11_readSpites 72 = .ok (.iload_n 2, 1) := by decide +kernel
theorem dX11_readSpites_73 : decode cX11_readSpites 73 = .ok (.ishl, 1) := by decide +kernel
theorem dX11_readSpites_74 : decode cX11_readSpites 74 = .ok (.ior, 1) := by decide +kernel
theorem dX11_readSpites_75 : decode cX11_readSpites 75 = .ok (.iastore, 1) := by decide +kernel
theorem dX11_readSpites_76 : decode cX11_readSpites 76 = .ok (.aload_n 0, 1) := by decide +kernel
theorem dX11_readSpites_77 : decode cX11_readSpites 77 = .ok (.dup, 1) := by decide +kernel
theorem dX11_readSpites_78 : decode cX11_readSpites 78 = .ok (.getfield 353, 3) := by decide +kernel
theorem dX11_readSpites_81 : decode cX11_readSpites 81 = .ok (.iconst 1, 1) := by decide +kernel
theorem dX11_readSpites_82 : decode cX11_readSpites 82 = .ok (.iadd, 1) := by decide +kernel
theorem dX11_readSpites_83 : decode cX11_readSpites 83 = .ok (.putfield 353, 3) := by decide +kernel
theorem dX11_readSpites_86 : decode cX11_readSpites 86 = .ok (.aload_n 0, 1) := by decide +kernel
theorem dX11_readSpites_87 : decode cX11_readSpites 87 = .ok (.invokevirtual 241, 3) := by decide +kernel
theorem dX11_readSpites_90 : decode cX11_readSpites 90 = .ok (.return_, 1) := by decide +kernel
theorem dX11_isPairTold_0 : decode cX11_isPairTold 0 = .ok (.iconst 0, 1) := by decide +kernel
theorem dX11_isPairTold_1 : decode cX11_isPairTold 1 = .ok (.istore_n 3, 1) := by decide +kernel
theorem dX11_isPairTold_2 : decode cX11_isPairTold 2 = .ok (.iconst 0, 1) := by decide +kernel
theorem dX11_isPairTold_3 : decode cX11_isPairTold 3 = .ok (.istore 4, 2) := by decide +kernel
theorem dX11_isPairTold_5 : decode cX11_isPairTold 5 = .ok (.iload 4, 2) := by decide +kernel
theorem dX11_isPairTold_7 : decode cX11_isPairTold 7 = .ok (.aload_n 0, 1) := by decide +kernel
theorem dX11_isPairTold_8 : decode cX11_isPairTold 8 = .ok (.getfield 356, 3) := by decide +kernel
theorem dX11_isPairTold_11 : decode cX11_isPairTold 11 = .ok (.if_icmp .ge 63, 3) := by decide +kernel
theorem dX11_isPairTold_14 : decode cX11_isPairTold 14 = .ok (.iload_n 3, 1) := by decide +kernel
theorem dX11_isPairTold_15 : decode cX11_isPairTold 15 = .ok (.ifCond .ne 47, 3) := by decide +kernel
theorem dX11_isPairTold_18 : decode cX11_isPairTold 18 = .ok (.aload_n 0, 1) := by decide +kernel
theorem dX11_isPairTold_19 : decode cX11_isPairTold 19 = .ok (.getfield 57, 3) := by decide +kernel
theorem dX11_isPairTold_22 : decode cX11_isPairTold 22 = .ok (.iload 4, 2) := by decide +kernel
theorem dX11_isPairTold_24 : decode cX11_isPairTold 24 = .ok (.iaload, 1) := by decide +kernel
theorem dX11_isPairTold_25 : decode cX11_isPairTold 25 = .ok (.iload_n 1, 1) := by decide +kernel
theorem dX11_isPairTold_26 : decode cX11_isPairTold 26 = .ok (.if_icmp .ne 14, 3) := by decide +kernel
theorem dX11_isPairTold_29 : decode cX11_isPairTold 29 = .ok (.aload_n 0, 1) := by decide +kernel
theorem dX11_isPairTold_30 : decode cX11_isPairTold 30 = .ok (.getfield 60, 3) := by decide +kernel
theorem dX11_isPairTold_33 : decode cX11_isPairTold 33 = .ok (.iload 4, 2) := by decide +kernel
theorem dX11_isPairTold_35 : decode cX11_isPairTold 35 = .ok (.iaload, 1) := by decide +kernel
theorem dX11_isPairTold_36 : decode cX11_isPairTold 36 = .ok (.iload_n 2, 1) := by decide +kernel
theorem dX11_isPairTold_37 : decode cX11_isPairTold 37 = .ok (.if_icmp .eq 25, 3) := by decide +kernel
theorem dX11_isPairTold_40 : decode cX11_isPairTold 40 = .ok (.aload_n 0, 1) := by decide +kernel
theorem dX11_isPairTold_41 : decode cX11_isPairTold 41 = .ok (.getfield 57, 3) := by decide +kernel
theorem dX11_isPairTold_44 : decode cX11_isPairTold 44 = .ok (.iload 4, 2) := by decide +kernel
theorem dX11_isPairTold_46 : decode cX11_isPairTold 46 = .ok (.iaload, 1) := by decide +kernel
theorem dX11_isPairTold_47 : decode cX11_isPairTold 47 = .ok (.iload_n 2, 1) := by decide +kernel
theorem dX11_isPairTold_48 : decode cX11_isPairTold 48 = .ok (.if_icmp .ne 18, 3) := by decide +kernel
theorem dX11_isPairTold_51 : decode cX11_isPairTold 51 = .ok (.aload_n 0, 1) := by decide +kernel
theorem dX11_isPairTold_52 : decode cX11_isPairTold 52 = .ok (.getfield 60, 3) := by decide +kernel
theorem dX11_isPairTold_55 : decode cX11_isPairTold 55 = .ok (.iload 4, 2) := by decide +kernel
theorem dX11_isPairTold_57 : decode cX11_isPairTold 57 = .ok (.iaload, 1) := by decide +kernel
theorem dX11_isPairTold_58 : decode cX11_isPairTold 58 = .ok (.iload_n 1, 1) := by decide +kernel
theorem dX11_isPairTold_59 : decode cX11_isPairTold 59 = .ok (.if_icmp .ne 7, 3) := by decide +kernel
theorem dX11_isPairTold_62 : decode cX11_isPairTold 62 = .ok (.iconst 1, 1) := by decide +kernel
theorem dX11_isPairTold_63 : decode cX11_isPairTold 63 = .ok (.goto 4, 3) := by decide +kernel
theorem dX11_isPairTold_66 : decode cX11_isPairTold 66 = .ok (.iconst 0, 1) := by decide +kernel
theorem dX11_isPairTold_67 : decode cX11_isPairTold 67 = .ok (.istore_n 3, 1) := by decide +kernel
theorem dX11_isPairTold_68 : decode cX11_isPairTold 68 = .ok (.iinc 4 1, 3) := by decide +kernel
theorem dX11_isPairTold_71 : decode cX11_isPairTold 71 = .ok (.goto (-66), 3) := by decide +kernel
theorem dX11_isPairTold_74 : decode cX11_isPairTold 74 = .ok (.iload_n 3, 1) := by decide +kernel
theorem dX11_isPairTold_75 : decode cX11_isPairTold 75 = .ok (.ireturn, 1) := by decide +kernel
theorem dX11_readPair_0 : decode cX11_readPair 0 = .ok (.aload_n 0, 1) := by decide +kernel
theorem dX11_readPair_1 : decode cX11_readPair 1 = .ok (.invokevirtual 241, 3) := by decide +kernel
theorem dX11_readPair_4 : decode cX11_readPair 4 = .ok (.aload_n 0, 1) := by decide +kernel
theorem dX11_readPair_5 : decode cX11_readPair 5 = .ok (.invokevirtual 337, 3) := by decide +kernel
theorem dX11_readPair_8 : decode cX11_readPair 8 = .ok (.istore_n 1, 1) := by decide +kernel
theorem dX11_readPair_9 : decode cX11_readPair 9 = .ok (.aload_n 0, 1) := by decide +kernel
theorem dX11_readPair_10 : decode cX11_readPair 10 = .ok (.getfield 185, 3) := by decide +kernel
theorem dX11_readPair_13 : decode cX11_readPair 13 = .ok (.ifCond .ne 7, 3) := by decide +kernel
theorem dX11_readPair_16 : decode cX11_readPair 16 = .ok (.aload_n 0, 1) := by decide +kernel
theorem dX11_readPair_17 : decode cX11_readPair 17 = .ok (.invokevirtual 241, 3) := by decide +kernel
theorem dX11_readPair_20 : decode cX11_readPair 20 = .ok (.aload_n 0, 1) := by decide +kernel
theorem dX11_readPair_21 : decode cX11_readPair 21 = .ok (.invokevirtual 337, 3) := by decide +kernel
theorem dX11_readPair_24 : decode cX11_readPair 24 = .ok (.istore_n 2, 1) := by decide +kernel
theorem dX11_readPair_25 : decode cX11_readPair 25 = .ok (.aload_n 0, 1) := by decide +kernel
theorem dX11_readPair_26 : decode cX11_readPair 26 = .ok (.getfield 185, 3) := by decide +kernel
theorem dX11_readPair_29 : decode cX11_readPair 29 = .ok (.ifCond .ne 22, 3) := by decide +kernel
theorem dX11_readPair_32 : decode cX11_readPair 32 = .ok (.iload_n 1, 1) := by decide +kernel
theorem dX11_readPair_33 : decode cX11_readPair 33 = .ok (.iload_n 2, 1) := by decide +kernel
theorem dX11_readPair_34 : decode cX11_readPair 34 = .ok (.if_icmp .eq 12, 3) := by decide +kernel
theorem dX11_readPair_37 : decode cX11_readPair 37 = .ok (.aload_n 0, 1) := by decide +kernel
theorem dX11_readPair_38 : decode cX11_readPair 38 = .ok (.iload_n 1, 1) := by decide +kernel
theorem dX11_readPair_39 : decode cX11_readPair 39 = .ok (.iload_n 2, 1) := by decide +kernel
theorem dX11_readPair_40 : decode cX11_readPair 40 = .ok (.invokevirtual 359, 3) := by decide +kernel
theorem dX11_readPair_43 : decode cX11_readPair 43 = .ok (.ifCond .eq 8, 3) := by decide +kernel
theorem dX11_readPair_46 : decode cX11_readPair 46 = .ok (.aload_n 0, 1) := by decide +kernel
theorem dX11_readPair_47 : decode cX11_readPair 47 = .ok (.iconst 3, 1) := by decide +kernel
theorem dX11_readPair_48 : decode cX11_readPair 48 = .ok (.invokevirtual 238, 3) := by decide +kernel
theorem dX11_readPair_51 : decode cX11_readPair 51 = .ok (.aload_n 0, 1) := by decide +kernel
theorem dX11_readPair_52 : decode cX11_readPair 52 = .ok (.getfield 185, 3) := by decide +kernel
theorem dX11_readPair_55 : decode cX11_readPair 55 = .ok (.ifCond .le 4, 3) := by decide +kernel
theorem dX11_readPair_58 : decode cX11_readPair 58 = .ok (.return_, 1) := by decide +kernel
theorem dX11_readPair_59 : decode cX11_readPair 59 = .ok (.aload_n 0, 1) := by decide +kernel
theorem dX11_readPair_60 : decode cX11_readPair 60 = .ok (.invokevirtual 241, 3) := by decide +kernel
theorem dX11_readPair_63 : decode cX11_readPair 63 = .ok (.aload_n 0, 1) := by decide +kernel
theorem dX11_readPair_64 : decode cX11_readPair 64 = .ok (.ldc2_w 208, 3) := by decide +kernel
theorem dX11_readPair_67 : decode cX11_readPair 67 = .ok (.invokevirtual 334, 3) := by decide +kernel
theorem dX11_readPair_70 : decode cX11_readPair 70 = .ok (.istore_n 3, 1) := by decide +kernel
theorem dX11_readPair_71 : decode cX11_readPair 71 = .ok (.aload_n 0, 1) := by decide +kernel
theorem dX11_readPair_72 : decode cX11_readPair 72 = .ok (.getfield 63, 3) := by decide +kernel
theorem dX11_readPair_75 : decode cX11_readPair 75 = .ok (.iconst 2, 1) := by decide +kernel
theorem dX11_readPair_76 : decode cX11_readPair 76 = .ok (.aload_n 0, 1) := by decide +kernel
theorem dX11_readPair_77 : decode cX11_readPair 77 = .ok (.getfield 356, 3) := by decide +kernel
theorem dX11_readPair_80 : decode cX11_readPair 80 = .ok (.imul, 1) := by decide +kernel
theorem dX11_readPair_81 : decode cX11_readPair 81 = .ok (.iload_n 3, 1) := by decide +kernel
theorem dX11_readPair_82 : decode cX11_readPair 82 = .ok (.ifCond .eq 10, 3) := by decide +kernel
theorem dX11_readPair_85 : decode cX11_readPair 85 = .ok (.aload_n 0, 1) := by decide +kernel
theorem dX11_readPair_86 : decode cX11_readPair 86 = .ok (.invokevirtual 340, 3) := by decide +kernel
theorem dX11_readPair_89 : decode cX11_readPair 89 = .ok (.goto 9, 3) := by decide +kernel
theorem dX11_readPair_92 : decode cX11_readPair 92 = .ok (.aload_n 0, 1) := by decide +kernel
theorem dX11_readPair_93 : decode cX11_readPair 93 = .ok (.getfield 42, 3) := by decide +kernel
theorem dX11_readPair_96 : decode cX11_readPair 96 = .ok (.iload_n 1, 1) := by decide +kernel
theorem dX11_readPair_97 : decode cX11_readPair 97 = .ok (.iaload, 1) := by decide +kernel
theorem dX11_readPair_98 : decode cX11_readPair 98 = .ok (.iastore, 1) := by decide +kernel
theorem dX11_readPair_99 : decode cX11_readPair 99 = .ok (.aload_n 0, 1) := by decide +kernel
theorem dX11_readPair_100 : decode cX11_readPair 100 = .ok (.getfield 63, 3) := by decide +kernel
theorem dX11_readPair_103 : decode cX11_readPair 103 = .ok (.iconst 2, 1) := by decide +kernel
theorem dX11_readPair_104 : decode cX11_readPair 104 = .ok (.aload_n 0, 1) := by decide +kernel
theorem dX11_readPair_105 : decode cX11_readPair 105 = .ok (.getfield 356, 3) := by decide +kernel
theorem dX11_readPair_108 : decode cX11_readPair 108 = .ok (.imul, 1) := by decide +kernel
theorem dX11_readPair_109 : decode cX11_readPair 109 = .ok (.iconst 1, 1) := by decide +kernel
theorem dX11_readPair_110 : decode cX11_readPair 110 = .ok (.iadd, 1) := by decide +kernel
theorem dX11_readPair_111 : decode cX11_readPair 111 = .ok (.iload_n 3, 1) := by decide +kernel
theorem dX11_readPair_112 : decode cX11_readPair 112 = .ok (.ifCond .eq 10, 3) := by decide +kernel
theorem dX11_readPair_115 : decode cX11_readPair 115 = .ok (.aload_n 0, 1) := by decide +kernel
theorem dX11_readPair_116 : decode cX11_readPair 116 = .ok (.invokevirtual 340, 3) := by decide +kernel
theorem dX11_readPair_119 : decode cX11_readPair 119 = .ok (.goto 9, 3) := by decide +kernel
theorem dX11_readPair_122 : decode cX11_readPair 122 = .ok (.aload_n 0, 1) := by decide +kernel
theorem dX11_readPair_123 : decode cX11_readPair 123 = .ok (.getfield 42, 3) := by decide +kernel
theorem dX11_readPair_126 : decode cX11_readPair 126 = .ok (.iload_n 2, 1) := by decide +kernel
theorem dX11_readPair_127 : decode cX11_readPair 127 = .ok (.iaload, 1) := by decide +kernel
theorem dX11_readPair_128 : decode cX11_readPair 128 = .ok (.iastore, 1) := by decide +kernel
theorem dX11_readPair_129 : decode cX11_readPair 129 = .ok (.aload_n 0, 1) := by decide +kernel
theorem dX11_readPair_130 : decode cX11_readPair 130 = .ok (.getfield 185, 3) := by decide +kernel
theorem dX11_readPair_133 : decode cX11_readPair 133 = .ok (.ifCond .le 4, 3) := by decide +kernel
theorem dX11_readPair_136 : decode cX11_readPair 136 = .ok (.return_, 1) := by decide +kernel
theorem dX11_readPair_137 : decode cX11_readPair 137 = .ok (.aload_n 0, 1) := by decide +kernel
theorem dX11_readPair_138 : decode cX11_readPair 138 = .ok (.getfield 57, 3) := by decide +kernel
theorem dX11_readPair_141 : decode cX11_readPair 141 = .ok (.aload_n 0, 1) := by decide +kernel
theorem dX11_readPair_142 : decode cX11_readPair 142 = .ok (.getfield 356, 3) := by decide +kernel
theorem dX11_readPair_145 : decode cX11_readPair 145 = .ok (.iload_n 1, 1) := by decide +kernel
theorem dX11_readPair_146 : decode cX11_readPair 146 = .ok (.iastore, 1) := by decide +kernel
theorem dX11_readPair_147 : decode cX11_readPair 147 = .ok (.aload_n 0, 1) := by decide +kernel
theorem dX11_readPair_148 : decode cX11_readPair 148 = .ok (.getfield 60, 3) := by decide +kernel
theorem dX11_readPair_151 : decode cX11_readPair 151 = .ok (.aload_n 0, 1) := by decide +kernel
theorem dX11_readPair_152 : decode cX11_readPair 152 = .ok (.getfield 356, 3) := by decide +kernel
theorem dX11_readPair_155 : decode cX11_readPair 155 = .ok (.iload_n 2, 1) := by decide +kernel
theorem dX11_readPair_156 : decode cX11_readPair 156 = .ok (.iastore, 1) := by decide +kernel
theorem dX11_readPair_157 : decode cX11_readPair 157 = .ok (.aload_n 0, 1) := by decide +kernel
theorem dX11_readPair_158 : decode cX11_readPair 158 = .ok (.dup, 1) := by decide +kernel
theorem dX11_readPair_159 : decode cX11_readPair 159 = .ok (.getfield 356, 3) := by decide +kernel
theorem dX11_readPair_162 : decode cX11_readPair 162 = .ok (.iconst 1, 1) := by decide +kernel
theorem dX11_readPair_163 : decode cX11_readPair 163 = .ok (.iadd, 1) := by decide +kernel
theorem dX11_readPair_164 : decode cX11_readPair 164 = .ok (.putfield 356, 3) := by decide +kernel
theorem dX11_readPair_167 : decode cX11_readPair 167 = .ok (.return_, 1) := by decide +kernel
theorem dX11_readLine_0 : decode cX11_readLine 0 = .ok (.aload_n 0, 1) := by decide +kernel
theorem dX11_readLine_1 : decode cX11_readLine 1 = .ok (.ldc2_w 188, 3) := by decide +kernel
theorem dX11_readLine_4 : decode cX11_readLine 4 = .ok (.invokevirtual 234, 3) := by decide +kernel
theorem dX11_readLine_7 : decode cX11_readLine 7 = .ok (.ifCond .eq 18, 3) := by decide +kernel
theorem dX11_readLine_10 : decode cX11_readLine 10 = .ok (.aload_n 0, 1) := by decide +kernel
theorem dX11_readLine_11 : decode cX11_readLine 11 = .ok (.getfield 264, 3) := by decide +kernel
theorem dX11_readLine_14 : decode cX11_readLine 14 = .ok (.iconst 4, 1) := by decide +kernel
theorem dX11_readLine_15 : decode cX11_readLine 15 = .ok (.if_icmp .ge 10, 3) := by decide +kernel
theorem dX11_readLine_18 : decode cX11_readLine 18 = .ok (.aload_n 0, 1) := by decide +kernel
theorem dX11_readLine_19 : decode cX11_readLine 19 = .ok (.invokevirtual 363, 3) := by decide +kernel
theorem dX11_readLine_22 : decode cX11_readLine 22 = .ok (.goto 257, 3) := by decide +kernel
theorem dX11_readLine_25 : decode cX11_readLine 25 = .ok (.aload_n 0, 1) := by decide +kernel
theorem dX11_readLine_26 : decode cX11_readLine 26 = .ok (.ldc2_w 190, 3) := by decide +kernel
theorem dX11_readLine_29 : decode cX11_readLine 29 = .ok (.invokevirtual 234, 3) := by decide +kernel
theorem dX11_readLine_32 : decode cX11_readLine 32 = .ok (.ifCond .eq 19, 3) := by decide +kernel
theorem dX11_readLine_35 : decode cX11_readLine 35 = .ok (.aload_n 0, 1) := by decide +kernel
theorem dX11_readLine_36 : decode cX11_readLine 36 = .ok (.getfield 258, 3) := by decide +kernel
theorem dX11_readLine_39 : decode cX11_readLine 39 = .ok (.bipush 8, 2) := by decide +kernel
theorem dX11_readLine_41 : decode cX11_readLine 41 = .ok (.if_icmp .ge 10, 3) := by decide +kernel
theorem dX11_readLine_44 : decode cX11_readLine 44 = .ok (.aload_n 0, 1) := by decide +kernel
theorem dX11_readLine_45 : decode cX11_readLine 45 = .ok (.invokevirtual 366, 3) := by decide +kernel
theorem dX11_readLine_48 : decode cX11_readLine 48 = .ok (.goto 231, 3) := by decide +kernel
theorem dX11_readLine_51 : decode cX11_readLine 51 = .ok (.aload_n 0, 1) := by decide +kernel
theorem dX11_readLine_52 : decode cX11_readLine 52 = .ok (.ldc2_w 202, 3) := by decide +kernel
theorem dX11_readLine_55 : decode cX11_readLine 55 = .ok (.invokevirtual 234, 3) := by decide +kernel
theorem dX11_readLine_58 : decode cX11_readLine 58 = .ok (.ifCond .eq 19, 3) := by decide +kernel
theorem dX11_readLine_61 : decode cX11_readLine 61 = .ok (.aload_n 0, 1) := by decide +kernel
theorem dX11_readLine_62 : decode cX11_readLine 62 = .ok (.getfield 350, 3) := by decide +kernel
theorem dX11_readLine_65 : decode cX11_readLine 65 = .ok (.bipush 12, 2) := by decide +kernel
theorem dX11_readLine_67 : decode cX11_readLine 67 = .ok (.if_icmp .ge 10, 3) := by decide +kernel
theorem dX11_readLine_70 : decode cX11_readLine 70 = .ok (.aload_n 0, 1) := by decide +kernel
theorem dX11_readLine_71 : decode cX11_readLine 71 = .ok (.invokevirtual 369, 3) := by decide +kernel
theorem dX11_readLine_74 : decode cX11_readLine 74 = .ok (.goto 205, 3) := by decide +kernel
theorem dX11_readLine_77 : decode cX11_readLine 77 = .ok (.aload_n 0, 1) := by decide +kernel
theorem dX11_readLine_78 : decode cX11_readLine 78 = .ok (.ldc2_w 204, 3) := by decide +kernel
theorem dX11_readLine_81 : decode cX11_readLine 81 = .ok (.invokevirtual 234, 3) := by decide +kernel
theorem dX11_readLine_84 : decode cX11_readLine 84 = .ok (.ifCond .eq 19, 3) := by decide +kernel
theorem dX11_readLine_87 : decode cX11_readLine 87 = .ok (.aload_n 0, 1) := by decide +kernel
theorem dX11_readLine_88 : decode cX11_readLine 88 = .ok (.getfield 353, 3) := by decide +kernel
theorem dX11_readLine_91 : decode cX11_readLine 91 = .ok (.bipush 8, 2) := by decide +kernel
theorem dX11_readLine_93 : decode cX11_readLine 93 = .ok (.if_icmp .ge 10, 3) := by decide +kernel
theorem dX11_readLine_96 : decode cX11_readLine 96 = .ok (.aload_n 0, 1) := by decide +kernel
theorem dX11_readLine_97 : decode cX11_readLine 97 = .ok (.invokevirtual 372, 3) := by decide +kernel
theorem dX11_readLine_100 : decode cX11_readLine 100 = .ok (.goto 179, 3) := by decide +kernel
theorem dX11_readLine_103 : decode cX11_readLine 103 = .ok (.aload_n 0, 1) := by decide +kernel
theorem dX11_readLine_104 : decode cX11_readLine 104 = .ok (.ldc2_w 206, 3) := by decide +kernel
theorem dX11_readLine_107 : decode cX11_readLine 107 = .ok (.invokevirtual 234, 3) := by decide +kernel
theorem dX11_readLine_110 : decode cX11_readLine 110 = .ok (.ifCond .eq 18, 3) := by decide +kernel
theorem dX11_readLine_113 : decode cX11_readLine 113 = .ok (.aload_n 0, 1) := by decide +kernel
theorem dX11_readLine_114 : decode cX11_readLine 114 = .ok (.getfield 356, 3) := by decide +kernel
theorem dX11_readLine_117 : decode cX11_readLine 117 = .ok (.iconst 5, 1) := by decide +kernel
theorem dX11_readLine_118 : decode cX11_readLine 118 = .ok (.if_icmp .ge 10, 3) := by decide +kernel
theorem dX11_readLine_121 : decode cX11_readLine 121 = .ok (.aload_n 0, 1) := by decide +kernel
theorem dX11_readLine_122 : decode cX11_readLine 122 = .ok (.invokevirtual 375, 3) := by decide +kernel
theorem dX11_readLine_125 : decode cX11_readLine 125 = .ok (.goto 154, 3) := by decide +kernel
theorem dX11_readLine_128 : decode cX11_readLine 128 = .ok (.aload_n 0, 1) := by decide +kernel
theorem dX11_readLine_129 : decode cX11_readLine 129 = .ok (.ldc2_w 210, 3) := by decide +kernel
theorem dX11_readLine_132 : decode cX11_readLine 132 = .ok (.invokevirtual 234, 3) := by decide +kernel
theorem dX11_readLine_135 : decode cX11_readLine 135 = .ok (.ifCond .eq 22, 3) := by decide +kernel
theorem dX11_readLine_138 : decode cX11_readLine 138 = .ok (.aload_n 0, 1) := by decide +kernel
theorem dX11_readLine_139 : decode cX11_readLine 139 = .ok (.getfield 378, 3) := by decide +kernel
theorem dX11_readLine_142 : decode cX11_readLine 142 = .ok (.ifCond .ne 15, 3) := by decide +kernel
theorem dX11_readLine_145 : decode cX11_readLine 145 = .ok (.aload_n 0, 1) := by decide +kernel
theorem dX11_readLine_146 : decode cX11_readLine 146 = .ok (.iconst 1, 1) := by decide +kernel
theorem dX11_readLine_147 : decode cX11_readLine 147 = .ok (.putfield 378, 3) := by decide +kernel
theorem dX11_readLine_150 : decode cX11_readLine 150 = .ok (.aload_n 0, 1) := by decide +kernel
theorem dX11_readLine_151 : decode cX11_readLine 151 = .ok (.invokevirtual 382, 3) := by decide +kernel
theorem dX11_readLine_154 : decode cX11_readLine 154 = .ok (.goto 125, 3) := by decide +kernel
theorem dX11_readLine_157 : decode cX11_readLine 157 = .ok (.aload_n 0, 1) := by decide +kernel
theorem dX11_readLine_158 : decode cX11_readLine 158 = .ok (.ldc2_w 212, 3) := by decide +kernel
theorem dX11_readLine_161 : decode cX11_readLine 161 = .ok (.invokevirtual 234, 3) := by decide +kernel
theorem dX11_readLine_164 : decode cX11_readLine 164 = .ok (.ifCond .eq 32, 3) := by decide +kernel
theorem dX11_readLine_167 : decode cX11_readLine 167 = .ok (.aload_n 0, 1) := by decide +kernel
theorem dX11_readLine_168 : decode cX11_readLine 168 = .ok (.getfield 385, 3) := by decide +kernel
theorem dX11_readLine_171 : decode cX11_readLine 171 = .ok (.ifCond .ne 25, 3) := by decide +kernel
theorem dX11_readLine_174 : decode cX11_readLine 174 = .ok (.aload_n 0, 1) := by decide +kernel
theorem dX11_readLine_175 : decode cX11_readLine 175 = .ok (.iconst 1, 1) := by decide +kernel
theorem dX11_readLine_176 : decode cX11_readLine 176 = .ok (.putfield 385, 3) := by decide +kernel
theorem dX11_readLine_179 : decode cX11_readLine 179 = .ok (.aload_n 0, 1) := by decide +kernel
theorem dX11_readLine_180 : decode cX11_readLine 180 = .ok (.aload_n 0, 1) := by decide +kernel
theorem dX11_readLine_181 : decode cX11_readLine 181 = .ok (.ldc2_w 212, 3) := by decide +kernel
theorem dX11_readLine_184 : decode cX11_readLine 184 = .ok (.iconst 0, 1) := by decide +kernel
theorem dX11_readLine_185 : decode cX11_readLine 185 = .ok (.bipush 8, 2) := by decide +kernel
theorem dX11_readLine_187 : decode cX11_readLine 187 = .ok (.invokevirtual 346, 3) := by decide +kernel
theorem dX11_readLine_190 : decode cX11_readLine 190 = .ok (.putfield 388, 3) := by decide +kernel
theorem dX11_readLine_193 : decode cX11_readLine 193 = .ok (.goto 86, 3) := by decide +kernel
theorem dX11_readLine_196 : decode cX11_readLine 196 = .ok (.aload_n 0, 1) := by decide +kernel
theorem dX11_readLine_197 : decode cX11_readLine 197 = .ok (.ldc2_w 214, 3) := by decide +kernel
theorem dX11_readLine_200 : decode cX11_readLine 200 = .ok (.invokevirtual 234, 3) := by decide +kernel
theorem dX11_readLine_203 : decode cX11_readLine 203 = .ok (.ifCond .eq 31, 3) := by decide +kernel
theorem dX11_readLine_206 : decode cX11_readLine 206 = .ok (.aload_n 0, 1) := by decide +kernel
theorem dX11_readLine_207 : decode cX11_readLine 207 = .ok (.getfield 391, 3) := by decide +kernel
theorem dX11_readLine_210 : decode cX11_readLine 210 = .ok (.ifCond .ne 24, 3) := by decide +kernel
theorem dX11_readLine_213 : decode cX11_readLine 213 = .ok (.aload_n 0, 1) := by decide +kernel
theorem dX11_readLine_214 : decode cX11_readLine 214 = .ok (.iconst 1, 1) := by decide +kernel
theorem dX11_readLine_215 : decode cX11_readLine 215 = .ok (.putfield 391, 3) := by decide +kernel
theorem dX11_readLine_218 : decode cX11_readLine 218 = .ok (.aload_n 0, 1) := by decide +kernel
theorem dX11_readLine_219 : decode cX11_readLine 219 = .ok (.aload_n 0, 1) := by decide +kernel
theorem dX11_readLine_220 : decode cX11_readLine 220 = .ok (.ldc2_w 214, 3) := by decide +kernel
theorem dX11_readLine_223 : decode cX11_readLine 223 = .ok (.iconst 1, 1) := by decide +kernel
theorem dX11_readLine_224 : decode cX11_readLine 224 = .ok (.iconst 5, 1) := by decide +kernel
theorem dX11_readLine_225 : decode cX11_readLine 225 = .ok (.invokevirtual 346, 3) := by decide +kernel
theorem dX11_readLine_228 : decode cX11_readLine 228 = .ok (.putfield 394, 3) := by decide +kernel
theorem dX11_readLine_231 : decode cX11_readLine 231 = .ok (.goto 48, 3) := by decide +kernel
theorem dX11_readLine_234 : decode cX11_readLine 234 = .ok (.aload_n 0, 1) := by decide +kernel
theorem dX11_readLine_235 : decode cX11_readLine 235 = .ok (.ldc2_w 216, 3) := by decide +kernel
theorem dX11_readLine_238 : decode cX11_readLine 238 = .ok (.invokevirtual 234, 3) := by decide +kernel
theorem dX11_readLine_241 : decode cX11_readLine 241 = .ok (.ifCond .eq 33, 3) := by decide +kernel
theorem dX11_readLine_244 : decode cX11_readLine 244 = .ok (.aload_n 0, 1) := by decide +kernel
theorem dX11_readLine_245 : decode cX11_readLine 245 = .ok (.getfield 397, 3) := by decide +kernel
theorem dX11_readLine_248 : decode cX11_readLine 248 = .ok (.ifCond .ne 26, 3) := by decide +kernel
theorem dX11_readLine_251 : decode cX11_readLine 251 = .ok (.aload_n 0, 1) := by decide +kernel
theorem dX11_readLine_252 : decode cX11_readLine 252 = .ok (.iconst 1, 1) := by decide +kernel
theorem dX11_readLine_253 : decode cX11_readLine 253 = .ok (.putfield 397, 3) := by decide +kernel
theorem dX11_readLine_256 : decode cX11_readLine 256 = .ok (.aload_n 0, 1) := by decide +kernel
theorem dX11_readLine_257 : decode cX11_readLine 257 = .ok (.aload_n 0, 1) := by decide +kernel
theorem dX11_readLine_258 : decode cX11_readLine 258 = .ok (.ldc2_w 216, 3) := by decide +kernel
theorem dX11_readLine_261 : decode cX11_readLine 261 = .ok (.iconst 0, 1) := by decide +kernel
theorem dX11_readLine_262 : decode cX11_readLine 262 = .ok (.sipush 999, 3) := by decide +kernel
theorem dX11_readLine_265 : decode cX11_readLine 265 = .ok (.invokevirtual 346, 3) := by decide +kernel
theorem dX11_readLine_268 : decode cX11_readLine 268 = .ok (.putfield 400, 3) := by decide +kernel
theorem dX11_readLine_271 : decode cX11_readLine 271 = .ok (.goto 8, 3) := by decide +kernel
theorem dX11_readLine_274 : decode cX11_readLine 274 = .ok (.aload_n 0, 1) := by decide +kernel
theorem dX11_readLine_275 : decode cX11_readLine 275 = .ok (.iconst 2, 1) := by decide +kernel
theorem dX11_readLine_276 : decode cX11_readLine 276 = .ok (.invokevirtual 238, 3) := by decide +kernel
theorem dX11_readLine_279 : decode cX11_readLine 279 = .ok (.aload_n 0, 1) := by decide +kernel
theorem dX11_readLine_280 : decode cX11_readLine 280 = .ok (.getfield 185, 3) := by decide +kernel
theorem dX11_readLine_283 : decode cX11_readLine 283 = .ok (.ifCond .ne 17, 3) := by decide +kernel
theorem dX11_readLine_286 : decode cX11_readLine 286 = .ok (.aload_n 0, 1) := by decide +kernel
theorem dX11_readLine_287 : decode cX11_readLine 287 = .ok (.getfield 172, 3) := by decide +kernel
theorem dX11_readLine_290 : decode cX11_readLine 290 = .ok (.bipush 59, 2) := by decide +kernel
theorem dX11_readLine_292 : decode cX11_readLine 292 = .ok (.if_icmp .eq 8, 3) := by decide +kernel
theorem dX11_readLine_295 : decode cX11_readLine 295 = .ok (.aload_n 0, 1) := by decide +kernel
theorem dX11_readLine_296 : decode cX11_readLine 296 = .ok (.iconst 2, 1) := by decide +kernel
theorem dX11_readLine_297 : decode cX11_readLine 297 = .ok (.invokevirtual 238, 3) := by decide +kernel
theorem dX11_readLine_300 : decode cX11_readLine 300 = .ok (.aload_n 0, 1) := by decide +kernel
theorem dX11_readLine_301 : decode cX11_readLine 301 = .ok (.getfield 185, 3) := by decide +kernel
theorem dX11_readLine_304 : decode cX11_readLine 304 = .ok (.ifCond .ne 7, 3) := by decide +kernel
theorem dX11_readLine_307 : decode cX11_readLine 307 = .ok (.aload_n 0, 1) := by decide +kernel
theorem dX11_readLine_308 : decode cX11_readLine 308 = .ok (.invokevirtual 241, 3) := by decide +kernel
theorem dX11_readLine_311 : decode cX11_readLine 311 = .ok (.return_, 1) := by decide +kernel
theorem dX11_readAll_0 : decode cX11_readAll 0 = .ok (.aload_n 0, 1) := by decide +kernel
theorem dX11_readAll_1 : decode cX11_readAll 1 = .ok (.aload_n 0, 1) := by decide +kernel
theorem dX11_readAll_2 : decode cX11_readAll 2 = .ok (.getfield 145, 3) := by decide +kernel
theorem dX11_readAll_5 : decode cX11_readAll 5 = .ok (.putfield 155, 3) := by decide +kernel
theorem dX11_readAll_8 : decode cX11_readAll 8 = .ok (.aload_n 0, 1) := by decide +kernel
theorem dX11_readAll_9 : decode cX11_readAll 9 = .ok (.iconst 0, 1) := by decide +kernel
theorem dX11_readAll_10 : decode cX11_readAll 10 = .ok (.putfield 145, 3) := by decide +kernel
theorem dX11_readAll_13 : decode cX11_readAll 13 = .ok (.aload_n 0, 1) := by decide +kernel
theorem dX11_readAll_14 : decode cX11_readAll 14 = .ok (.iconst 0, 1) := by decide +kernel
theorem dX11_readAll_15 : decode cX11_readAll 15 = .ok (.putfield 152, 3) := by decide +kernel
theorem dX11_readAll_18 : decode cX11_readAll 18 = .ok (.aload_n 0, 1) := by decide +kernel
theorem dX11_readAll_19 : decode cX11_readAll 19 = .ok (.iconst 0, 1) := by decide +kernel
theorem dX11_readAll_20 : decode cX11_readAll 20 = .ok (.putfield 185, 3) := by decide +kernel
theorem dX11_readAll_23 : decode cX11_readAll 23 = .ok (.aload_n 0, 1) := by decide +kernel
theorem dX11_readAll_24 : decode cX11_readAll 24 = .ok (.iconst (-1), 1) := by decide +kernel
theorem dX11_readAll_25 : decode cX11_readAll 25 = .ok (.putfield 13, 3) := by decide +kernel
theorem dX11_readAll_28 : decode cX11_readAll 28 = .ok (.aload_n 0, 1) := by decide +kernel
theorem dX11_readAll_29 : decode cX11_readAll 29 = .ok (.iconst 0, 1) := by decide +kernel
theorem dX11_readAll_30 : decode cX11_readAll 30 = .ok (.putfield 264, 3) := by decide +kernel
theorem dX11_readAll_33 : decode cX11_readAll 33 = .ok (.aload_n 0, 1) := by decide +kernel
theorem dX11_readAll_34 : decode cX11_readAll 34 = .ok (.iconst 0, 1) := by decide +kernel
theorem dX11_readAll_35 : decode cX11_readAll 35 = .ok (.putfield 258, 3) := by decide +kernel
theorem dX11_readAll_38 : decode cX11_readAll 38 = .ok (.aload_n 0, 1) := by decide +kernel
theorem dX11_readAll_39 : decode cX11_readAll 39 = .ok (.iconst 0, 1) := by decide +kernel
theorem dX11_readAll_40 : decode cX11_readAll 40 = .ok (.putfield 356, 3) := by decide +kernel
theorem dX11_readAll_43 : decode cX11_readAll 43 = .ok (.aload_n 0, 1) := by decide +kernel
theorem dX11_readAll_44 : decode cX11_readAll 44 = .ok (.iconst 0, 1) := by decide +kernel
theorem dX11_readAll_45 : decode cX11_readAll 45 = .ok (.putfield 350, 3) := by decide +kernel
theorem dX11_readAll_48 : decode cX11_readAll 48 = .ok (.aload_n 0, 1) := by decide +kernel
theorem dX11_readAll_49 : decode cX11_readAll 49 = .ok (.iconst 0, 1) := by decide +kernel
theorem dX11_readAll_50 : decode cX11_readAll 50 = .ok (.putfield 353, 3) := by decide +kernel
theorem dX11_readAll_53 : decode cX11_readAll 53 = .ok (.aload_n 0, 1) := by decide +kernel
theorem dX11_readAll_54 : decode cX11_readAll 54 = .ok (.iconst 4, 1) := by decide +kernel
theorem dX11_readAll_55 : decode cX11_readAll 55 = .ok (.putfield 388, 3) := by decide +kernel
theorem dX11_readAll_58 : decode cX11_readAll 58 = .ok (.aload_n 0, 1) := by decide +kernel
theorem dX11_readAll_59 : decode cX11_readAll 59 = .ok (.iconst 2, 1) := by decide +kernel
theorem dX11_readAll_60 : decode cX11_readAll 60 = .ok (.putfield 394, 3) := by decide +kernel
theorem dX11_readAll_63 : decode cX11_readAll 63 = .ok (.aload_n 0, 1) := by decide +kernel
theorem dX11_readAll_64 : decode cX11_readAll 64 = .ok (.iconst 0, 1) := by decide +kernel
theorem dX11_readAll_65 : decode cX11_readAll 65 = .ok (.putfield 400, 3) := by decide +kernel
theorem dX11_readAll_68 : decode cX11_readAll 68 = .ok (.aload_n 0, 1) := by decide +kernel
theorem dX11_readAll_69 : decode cX11_readAll 69 = .ok (.iconst 0, 1) := by decide +kernel
theorem dX11_readAll_70 : decode cX11_readAll 70 = .ok (.putfield 378, 3) := by decide +kernel
theorem dX11_readAll_73 : decode cX11_readAll 73 = .ok (.aload_n 0, 1) := by decide +kernel
theorem dX11_readAll_74 : decode cX11_readAll 74 = .ok (.iconst 0, 1) := by decide +kernel
theorem dX11_readAll_75 : decode cX11_readAll 75 = .ok (.putfield 385, 3) := by decide +kernel
theorem dX11_readAll_78 : decode cX11_readAll 78 = .ok (.aload_n 0, 1) := by decide +kernel
theorem dX11_readAll_79 : decode cX11_readAll 79 = .ok (.iconst 0, 1) := by decide +kernel
theorem dX11_readAll_80 : decode cX11_readAll 80 = .ok (.putfield 391, 3) := by decide +kernel
theorem dX11_readAll_83 : decode cX11_readAll 83 = .ok (.aload_n 0, 1) := by decide +kernel
theorem dX11_readAll_84 : decode cX11_readAll 84 = .ok (.iconst 0, 1) := by decide +kernel
theorem dX11_readAll_85 : decode cX11_readAll 85 = .ok (.putfield 397, 3) := by decide +kernel
theorem dX11_readAll_88 : decode cX11_readAll 88 = .ok (.aload_n 0, 1) := by decide +kernel
theorem dX11_readAll_89 : decode cX11_readAll 89 = .ok (.iconst 0, 1) := by decide +kernel
theorem dX11_readAll_90 : decode cX11_readAll 90 = .ok (.putfield 283, 3) := by decide +kernel
theorem dX11_readAll_93 : decode cX11_readAll 93 = .ok (.aload_n 0, 1) := by decide +kernel
theorem dX11_readAll_94 : decode cX11_readAll 94 = .ok (.invokevirtual 241, 3) := by decide +kernel
theorem dX11_readAll_97 : decode cX11_readAll 97 = .ok (.aload_n 0, 1) := by decide +kernel
theorem dX11_readAll_98 : decode cX11_readAll 98 = .ok (.getfield 185, 3) := by decide +kernel
theorem dX11_readAll_101 : decode cX11_readAll 101 = .ok (.ifCond .ne 17, 3) := by decide +kernel
theorem dX11_readAll_104 : decode cX11_readAll 104 = .ok (.aload_n 0, 1) := by decide +kernel
theorem dX11_readAll_105 : decode cX11_readAll 105 = .ok (.getfield 172, 3) := by decide +kernel
theorem dX11_readAll_108 : decode cX11_readAll 108 = .ok (.ifCond .eq 10, 3) := by decide +kernel
theorem dX11_readAll_111 : decode cX11_readAll 111 = .ok (.aload_n 0, 1) := by decide +kernel
theorem dX11_readAll_112 : decode cX11_readAll 112 = .ok (.invokevirtual 403, 3) := by decide +kernel
theorem dX11_readAll_115 : decode cX11_readAll 115 = .ok (.goto (-18), 3) := by decide +kernel
theorem dX11_readAll_118 : decode cX11_readAll 118 = .ok (.return_, 1) := by decide +kernel
theorem dX11_town_0 : decode cX11_town 0 = .ok (.aload_n 0, 1) := by decide +kernel
theorem dX11_town_1 : decode cX11_town 1 = .ok (.invokevirtual 406, 3) := by decide +kernel
theorem dX11_town_4 : decode cX11_town 4 = .ok (.aload_n 0, 1) := by decide +kernel
theorem dX11_town_5 : decode cX11_town 5 = .ok (.getfield 185, 3) := by decide +kernel
theorem dX11_town_8 : decode cX11_town 8 = .ok (.ifCond .le 5, 3) := by decide +kernel
theorem dX11_town_11 : decode cX11_town 11 = .ok (.iconst (-1), 1) := by decide +kernel
theorem dX11_town_12 : decode cX11_town 12 = .ok (.ireturn, 1) := by decide +kernel
theorem dX11_town_13 : decode cX11_town 13 = .ok (.aload_n 0, 1) := by decide +kernel
theorem dX11_town_14 : decode cX11_town 14 = .ok (.aload_n 0, 1) := by decide +kernel
theorem dX11_town_15 : decode cX11_town 15 = .ok (.getfield 264, 3) := by decide +kernel
theorem dX11_town_18 : decode cX11_town 18 = .ok (.putfield 409, 3) := by decide +kernel
theorem dX11_town_21 : decode cX11_town 21 = .ok (.aload_n 0, 1) := by decide +kernel
theorem dX11_town_22 : decode cX11_town 22 = .ok (.aload_n 0, 1) := by decide +kernel
theorem dX11_town_23 : decode cX11_town 23 = .ok (.getfield 258, 3) := by decide +kernel
theorem dX11_town_26 : decode cX11_town 26 = .ok (.putfield 412, 3) := by decide +kernel
theorem dX11_town_29 : decode cX11_town 29 = .ok (.aload_n 0, 1) := by decide +kernel
theorem dX11_town_30 : decode cX11_town 30 = .ok (.aload_n 0, 1) := by decide +kernel
theorem dX11_town_31 : decode cX11_town 31 = .ok (.getfield 356, 3) := by decide +kernel
theorem dX11_town_34 : decode cX11_town 34 = .ok (.putfield 415, 3) := by decide +kernel
theorem dX11_town_37 : decode cX11_town 37 = .ok (.aload_n 0, 1) := by decide +kernel
theorem dX11_town_38 : decode cX11_town 38 = .ok (.aload_n 0, 1) := by decide +kernel
theorem dX11_town_39 : decode cX11_town 39 = .ok (.getfield 388, 3) := by decide +kernel
theorem dX11_town_42 : decode cX11_town 42 = .ok (.putfield 94, 3) := by decide +kernel
theorem dX11_town_45 : decode cX11_town 45 = .ok (.aload_n 0, 1) := by decide +kernel
theorem dX11_town_46 : decode cX11_town 46 = .ok (.aload_n 0, 1) := by decide +kernel
theorem dX11_town_47 : decode cX11_town 47 = .ok (.getfield 394, 3) := by decide +kernel
theorem dX11_town_50 : decode cX11_town 50 = .ok (.putfield 97, 3) := by decide +kernel
theorem dX11_town_53 : decode cX11_town 53 = .ok (.aload_n 0, 1) := by decide +kernel
theorem dX11_town_54 : decode cX11_town 54 = .ok (.aload_n 0, 1) := by decide +kernel
theorem dX11_town_55 : decode cX11_town 55 = .ok (.getfield 283, 3) := by decide +kernel
theorem dX11_town_58 : decode cX11_town 58 = .ok (.putfield 418, 3) := by decide +kernel
theorem dX11_town_61 : decode cX11_town 61 = .ok (.aload_n 0, 1) := by decide +kernel
theorem dX11_town_62 : decode cX11_town 62 = .ok (.aload_n 0, 1) := by decide +kernel
theorem dX11_town_63 : decode cX11_town 63 = .ok (.getfield 378, 3) := by decide +kernel
theorem dX11_town_66 : decode cX11_town 66 = .ok (.ifCond .eq 10, 3) := by decide +kernel
theorem dX11_town_69 : decode cX11_town 69 = .ok (.aload_n 0, 1) := by decide +kernel
theorem dX11_town_70 : decode cX11_town 70 = .ok (.getfield 267, 3) := by decide +kernel
theorem dX11_town_73 : decode cX11_town 73 = .ok (.goto 4, 3) := by decide +kernel
theorem dX11_town_76 : decode cX11_town 76 = .ok (.iconst 0, 1) := by decide +kernel
theorem dX11_town_77 : decode cX11_town 77 = .ok (.putfield 324, 3) := by decide +kernel
theorem dX11_town_80 : decode cX11_town 80 = .ok (.iconst 0, 1) := by decide +kernel
theorem dX11_town_81 : decode cX11_town 81 = .ok (.istore_n 1, 1) := by decide +kernel
theorem dX11_town_82 : decode cX11_town 82 = .ok (.iload_n 1, 1) := by decide +kernel
theorem dX11_town_83 : decode cX11_town 83 = .ok (.aload_n 0, 1) := by decide +kernel
theorem dX11_town_84 : decode cX11_town 84 = .ok (.getfield 324, 3) := by decide +kernel
theorem dX11_town_87 : decode cX11_town 87 = .ok (.if_icmp .ge 33, 3) := by decide +kernel
theorem dX11_town_90 : decode cX11_town 90 = .ok (.aload_n 0, 1) := by decide +kernel
theorem dX11_town_91 : decode cX11_town 91 = .ok (.getfield 27, 3) := by decide +kernel
theorem dX11_town_94 : decode cX11_town 94 = .ok (.iload_n 1, 1) := by decide +kernel
theorem dX11_town_95 : decode cX11_town 95 = .ok (.aload_n 0, 1) := by decide +kernel
theorem dX11_town_96 : decode cX11_town 96 = .ok (.getfield 21, 3) := by decide +kernel
theorem dX11_town_99 : decode cX11_town 99 = .ok (.iload_n 1, 1) := by decide +kernel
theorem dX11_town_100 : decode cX11_town 100 = .ok (.iaload, 1) := by decide +kernel
theorem dX11_town_101 : decode cX11_town 101 = .ok (.iastore, 1) := by decide +kernel
theorem dX11_town_102 : decode cX11_town 102 = .ok (.aload_n 0, 1) := by decide +kernel
theorem dX11_town_103 : decode cX11_town 103 = .ok (.getfield 30, 3) := by decide +kernel
theorem dX11_town_106 : decode cX11_town 106 = .ok (.iload_n 1, 1) := by decide +kernel
theorem dX11_town_107 : decode cX11_town 107 = .ok (.aload_n 0, 1) := by decide +kernel
theorem dX11_town_108 : decode cX11_town 108 = .ok (.getfield 24, 3) := by decide +kernel
theorem dX11_town_111 : decode cX11_town 111 = .ok (.iload_n 1, 1) := by decide +kernel
theorem dX11_town_112 : decode cX11_town 112 = .ok (.iaload, 1) := by decide +kernel
theorem dX11_town_113 : decode cX11_town 113 = .ok (.iastore, 1) := by decide +kernel
theorem dX11_town_114 : decode cX11_town 114 = .ok (.iinc 1 1, 3) := by decide +kernel
theorem dX11_town_117 : decode cX11_town 117 = .ok (.goto (-35), 3) := by decide +kernel
theorem dX11_town_120 : decode cX11_town 120 = .ok (.iconst 0, 1) := by decide +kernel
theorem dX11_town_121 : decode cX11_town 121 = .ok (.istore_n 1, 1) := by decide +kernel
theorem dX11_town_122 : decode cX11_town 122 = .ok (.iload_n 1, 1) := by decide +kernel
theorem dX11_town_123 : decode cX11_town 123 = .ok (.bipush 30, 2) := by decide +kernel
theorem dX11_town_125 : decode cX11_town 125 = .ok (.if_icmp .ge 16, 3) := by decide +kernel
theorem dX11_town_128 : decode cX11_town 128 = .ok (.aload_n 0, 1) := by decide +kernel
theorem dX11_town_129 : decode cX11_town 129 = .ok (.getfield 103, 3) := by decide +kernel
theorem dX11_town_132 : decode cX11_town 132 = .ok (.iload_n 1, 1) := by decide +kernel
theorem dX11_town_133 : decode cX11_town 133 = .ok (.iconst 0, 1) := by decide +kernel
theorem dX11_town_134 : decode cX11_town 134 = .ok (.iastore, 1) := by decide +kernel
theorem dX11_town_135 : decode cX11_town 135 = .ok (.iinc 1 1, 3) := by decide +kernel
theorem dX11_town_138 : decode cX11_town 138 = .ok (.goto (-16), 3) := by decide +kernel
theorem dX11_town_141 : decode cX11_town 141 = .ok (.iconst 0, 1) := by decide +kernel
theorem dX11_town_142 : decode cX11_town 142 = .ok (.istore_n 1, 1) := by decide +kernel
theorem dX11_town_143 : decode cX11_town 143 = .ok (.iload_n 1, 1) := by decide +kernel
theorem dX11_town_144 : decode cX11_town 144 = .ok (.bipush 8, 2) := by decide +kernel
theorem dX11_town_146 : decode cX11_town 146 = .ok (.if_icmp .ge 129, 3) := by decide +kernel
theorem dX11_town_149 : decode cX11_town 149 = .ok (.aload_n 0, 1) := by decide +kernel
theorem dX11_town_150 : decode cX11_town 150 = .ok (.getfield 66, 3) := by decide +kernel
theorem dX11_town_153 : decode cX11_town 153 = .ok (.iload_n 1, 1) := by decide +kernel
theorem dX11_town_154 : decode cX11_town 154 = .ok (.aload_n 0, 1) := by decide +kernel
theorem dX11_town_155 : decode cX11_town 155 = .ok (.getfield 42, 3) := by decide +kernel
theorem dX11_town_158 : decode cX11_town 158 = .ok (.iload_n 1, 1) := by decide +kernel
theorem dX11_town_159 : decode cX11_town 159 = .ok (.iaload, 1) := by decide +kernel
theorem dX11_town_160 : decode cX11_town 160 = .ok (.iastore, 1) := by decide +kernel
theorem dX11_town_161 : decode cX11_town 161 = .ok (.aload_n 0, 1) := by decide +kernel
theorem dX11_town_162 : decode cX11_town 162 = .ok (.getfield 69, 3) := by decide +kernel
theorem dX11_town_165 : decode cX11_town 165 = .ok (.iconst 2, 1) := by decide +kernel
theorem dX11_town_166 : decode cX11_town 166 = .ok (.iload_n 1, 1) := by decide +kernel
theorem dX11_town_167 : decode cX11_town 167 = .ok (.imul, 1) := by decide +kernel
theorem dX11_town_168 : decode cX11_town 168 = .ok (.aload_n 0, 1) := by decide +kernel
theorem dX11_town_169 : decode cX11_town 169 = .ok (.getfield 45, 3) := by decide +kernel
theorem dX11_town_172 : decode cX11_town 172 = .ok (.iconst 2, 1) := by decide +kernel
theorem dX11_town_173 : decode cX11_town 173 = .ok (.iload_n 1, 1) := by decide +kernel
theorem dX11_town_174 : decode cX11_town 174 = .ok (.imul, 1) := by decide +kernel
theorem dX11_town_175 : decode cX11_town 175 = .ok (.iaload, 1) := by decide +kernel
theorem dX11_town_176 : decode cX11_town 176 = .ok (.iastore, 1) := by decide +kernel
theorem dX11_town_177 : decode cX11_town 177 = .ok (.aload_n 0, 1) := by decide +kernel
theorem dX11_town_178 : decode cX11_town 178 = .ok (.getfield 69, 3) := by decide +kernel
theorem dX11_town_181 : decode cX11_town 181 = .ok (.iconst 2, 1) := by decide +kernel
theorem dX11_town_182 : decode cX11_town 182 = .ok (.iload_n 1, 1) := by decide +kernel
theorem dX11_town_183 : decode cX11_town 183 = .ok (.imul, 1) := by decide +kernel
theorem dX11_town_184 : decode cX11_town 184 = .ok (.iconst 1, 1) := by decide +kernel
theorem dX11_town_185 : decode cX11_town 185 = .ok (.iadd, 1) := by decide +kernel
theorem dX11_town_186 : decode cX11_town 186 = .ok (.aload_n 0, 1) := by decide +kernel
theorem dX11_town_187 : decode cX11_town 187 = .ok (.getfield 45, 3) := by decide +kernel
theorem dX11_town_190 : decode cX11_town 190 = .ok (.iconst 2, 1) := by decide +kernel
theorem dX11_town_191 : decode cX11_town 191 = .ok (.iload_n 1, 1) := by decide +kernel
theorem dX11_town_192 : decode cX11_town 192 = .ok (.imul, 1) := by decide +kernel
theorem dX11_town_193 : decode cX11_town 193 = .ok (.iconst 1, 1) := by decide +kernel
theorem dX11_town_194 : decode cX11_town 194 = .ok (.iadd, 1) := by decide +kernel
theorem dX11_town_195 : decode cX11_town 195 = .ok (.iaload, 1) := by decide +kernel
theorem dX11_town_196 : decode cX11_town 196 = .ok (.iastore, 1) := by decide +kernel
theorem dX11_town_197 : decode cX11_town 197 = .ok (.aload_n 0, 1) := by decide +kernel
theorem dX11_town_198 : decode cX11_town 198 = .ok (.getfield 91, 3) := by decide +kernel
theorem dX11_town_201 : decode cX11_town 201 = .ok (.iload_n 1, 1) := by decide +kernel
theorem dX11_town_202 : decode cX11_town 202 = .ok (.aload_n 0, 1) := by decide +kernel
theorem dX11_town_203 : decode cX11_town 203 = .ok (.getfield 87, 3) := by decide +kernel
theorem dX11_town_206 : decode cX11_town 206 = .ok (.iload_n 1, 1) := by decide +kernel
theorem dX11_town_207 : decode cX11_town 207 = .ok (.baload, 1) := by decide +kernel
theorem dX11_town_208 : decode cX11_town 208 = .ok (.bastore, 1) := by decide +kernel
theorem dX11_town_209 : decode cX11_town 209 = .ok (.aload_n 0, 1) := by decide +kernel
theorem dX11_town_210 : decode cX11_town 210 = .ok (.getfield 72, 3) := by decide +kernel
theorem dX11_town_213 : decode cX11_town 213 = .ok (.iload_n 1, 1) := by decide +kernel
theorem dX11_town_214 : decode cX11_town 214 = .ok (.aload_n 0, 1) := by decide +kernel
theorem dX11_town_215 : decode cX11_town 215 = .ok (.getfield 48, 3) := by decide +kernel
theorem dX11_town_218 : decode cX11_town 218 = .ok (.iload_n 1, 1) := by decide +kernel
theorem dX11_town_219 : decode cX11_town 219 = .ok (.iaload, 1) := by decide +kernel
theorem dX11_town_220 : decode cX11_town 220 = .ok (.iastore, 1) := by decide +kernel
theorem dX11_town_221 : decode cX11_town 221 = .ok (.aload_n 0, 1) := by decide +kernel
theorem dX11_town_222 : decode cX11_town 222 = .ok (.getfield 75, 3) := by decide +kernel
theorem dX11_town_225 : decode cX11_town 225 = .ok (.iload_n 1, 1) := by decide +kernel
theorem dX11_town_226 : decode cX11_town 226 = .ok (.aload_n 0, 1) := by decide +kernel
theorem dX11_town_227 : decode cX11_town 227 = .ok (.getfield 51, 3) := by decide +kernel
theorem dX11_town_230 : decode cX11_town 230 = .ok (.iload_n 1, 1) := by decide +kernel
theorem dX11_town_231 : decode cX11_town 231 = .ok (.iaload, 1) := by decide +kernel
theorem dX11_town_232 : decode cX11_town 232 = .ok (.iastore, 1) := by decide +kernel
theorem dX11_town_233 : decode cX11_town 233 = .ok (.aload_n 0, 1) := by decide +kernel
theorem dX11_town_234 : decode cX11_town 234 = .ok (.getfield 78, 3) := by decide +kernel
theorem dX11_town_237 : decode cX11_town 237 = .ok (.iload_n 1, 1) := by decide +kernel
theorem dX11_town_238 : decode cX11_town 238 = .ok (.aload_n 0, 1) := by decide +kernel
theorem dX11_town_239 : decode cX11_town 239 = .ok (.getfield 54, 3) := by decide +kernel
theorem dX11_town_242 : decode cX11_town 242 = .ok (.iload_n 1, 1) := by decide +kernel
theorem dX11_town_243 : decode cX11_town 243 = .ok (.iaload, 1) := by decide +kernel
theorem dX11_town_244 : decode cX11_town 244 = .ok (.iastore, 1) := by decide +kernel
theorem dX11_town_245 : decode cX11_town 245 = .ok (.aload_n 0, 1) := by decide +kernel
theorem dX11_town_246 : decode cX11_town 246 = .ok (.getfield 103, 3) := by decide +kernel
theorem dX11_town_249 : decode cX11_town 249 = .ok (.iload_n 1, 1) := by decide +kernel
theorem dX11_town_250 : decode cX11_town 250 = .ok (.iload_n 1, 1) := by decide +kernel
theorem dX11_town_251 : decode cX11_town 251 = .ok (.aload_n 0, 1) := by decide +kernel
theorem dX11_town_252 : decode cX11_town 252 = .ok (.getfield 412, 3) := by decide +kernel
theorem dX11_town_255 : decode cX11_town 255 = .ok (.if_icmp .ge 12, 3) := by decide +kernel
theorem dX11_town_258 : decode cX11_town 258 = .ok (.aload_n 0, 1) := by decide +kernel
theorem dX11_town_259 : decode cX11_town 259 = .ok (.getfield 42, 3) := by decide +kernel
theorem dX11_town_262 : decode cX11_town 262 = .ok (.iload_n 1, 1) := by decide +kernel
theorem dX11_town_263 : decode cX11_town 263 = .ok (.iaload, 1) := by decide +kernel
theorem dX11_town_264 : decode cX11_town 264 = .ok (.goto 4, 3) := by decide +kernel
theorem dX11_town_267 : decode cX11_town 267 = .ok (.iconst 0, 1) := by decide +kernel
theorem dX11_town_268 : decode cX11_town 268 = .ok (.iastore, 1) := by decide +kernel
theorem dX11_town_269 : decode cX11_town 269 = .ok (.iinc 1 1, 3) := by decide +kernel
theorem dX11_town_272 : decode cX11_town 272 = .ok (.goto (-129), 3) := by decide +kernel
theorem dX11_town_275 : decode cX11_town 275 = .ok (.iconst 0, 1) := by decide +kernel
theorem dX11_town_276 : decode cX11_town 276 = .ok (.istore_n 1, 1) := by decide +kernel
theorem dX11_town_277 : decode cX11_town 277 = .ok (.iload_n 1, 1) := by decide +kernel
theorem dX11_town_278 : decode cX11_town 278 = .ok (.aload_n 0, 1) := by decide +kernel
theorem dX11_town_279 : decode cX11_town 279 = .ok (.getfield 415, 3) := by decide +kernel
theorem dX11_town_282 : decode cX11_town 282 = .ok (.if_icmp .ge 69, 3) := by decide +kernel
theorem dX11_town_285 : decode cX11_town 285 = .ok (.aload_n 0, 1) := by decide +kernel
theorem dX11_town_286 : decode cX11_town 286 = .ok (.getfield 81, 3) := by decide +kernel
theorem dX11_town_289 : decode cX11_town 289 = .ok (.iload_n 1, 1) := by decide +kernel
theorem dX11_town_290 : decode cX11_town 290 = .ok (.aload_n 0, 1) := by decide +kernel
theorem dX11_town_291 : decode cX11_town 291 = .ok (.getfield 57, 3) := by decide +kernel
theorem dX11_town_294 : decode cX11_town 294 = .ok (.iload_n 1, 1) := by decide +kernel
theorem dX11_town_295 : decode cX11_town 295 = .ok (.iaload, 1) := by decide +kernel
theorem dX11_town_296 : decode cX11_town 296 = .ok (.iastore, 1) := by decide +kernel
theorem dX11_town_297 : decode cX11_town 297 = .ok (.aload_n 0, 1) := by decide +kernel
theorem dX11_town_298 : decode cX11_town 298 = .ok (.getfield 84, 3) := by decide +kernel
theorem dX11_town_301 : decode cX11_town 301 = .ok (.iload_n 1, 1) := by decide +kernel
theorem dX11_town_302 : decode cX11_town 302 = .ok (.aload_n 0, 1) := by decide +kernel
theorem dX11_town_303 : decode cX11_town 303 = .ok (.getfield 60, 3) := by decide +kernel
theorem dX11_town_306 : decode cX11_town 306 = .ok (.iload_n 1, 1) := by decide +kernel
theorem dX11_town_307 : decode cX11_town 307 = .ok (.iaload, 1) := by decide +kernel
theorem dX11_town_308 : decode cX11_town 308 = .ok (.iastore, 1) := by decide +kernel
theorem dX11_town_309 : decode cX11_town 309 = .ok (.aload_n 0, 1) := by decide +kernel
theorem dX11_town_310 : decode cX11_town 310 = .ok (.getfield 103, 3) := by decide +kernel
theorem dX11_town_313 : decode cX11_town 313 = .ok (.bipush 18, 2) := by decide +kernel
theorem dX11_town_315 : decode cX11_town 315 = .ok (.iload_n 1, 1) := by decide +kernel
theorem dX11_town_316 : decode cX11_town 316 = .ok (.iadd, 1) := by decide +kernel
theorem dX11_town_317 : decode cX11_town 317 = .ok (.aload_n 0, 1) := by decide +kernel
theorem dX11_town_318 : decode cX11_town 318 = .ok (.getfield 63, 3) := by decide +kernel
theorem dX11_town_321 : decode cX11_town 321 = .ok (.iconst 2, 1) := by decide +kernel
theorem dX11_town_322 : decode cX11_town 322 = .ok (.iload_n 1, 1) := by decide +kernel
theorem dX11_town_323 : decode cX11_town 323 = .ok (.imul, 1) := by decide +kernel
theorem dX11_town_324 : decode cX11_town 324 = .ok (.iaload, 1) := by decide +kernel
theorem dX11_town_325 : decode cX11_town 325 = .ok (.iastore, 1) := by decide +kernel
theorem dX11_town_326 : decode cX11_town 326 = .ok (.aload_n 0, 1) := by decide +kernel
theorem dX11_town_327 : decode cX11_town 327 = .ok (.getfield 103, 3) := by decide +kernel
theorem dX11_town_330 : decode cX11_town 330 = .ok (.bipush 23, 2) := by decide +kernel
theorem dX11_town_332 : decode cX11_town 332 = .ok (.iload_n 1, 1) := by decide +kernel
theorem dX11_town_333 : decode cX11_town 333 = .ok (.iadd, 1) := by decide +kernel
theorem dX11_town_334 : decode cX11_town 334 = .ok (.aload_n 0, 1) := by decide +kernel
theorem dX11_town_335 : decode cX11_town 335 = .ok (.getfield 63, 3) := by decide +kernel
theorem dX11_town_338 : decode cX11_town 338 = .ok (.iconst 2, 1) := by decide +kernel
theorem dX11_town_339 : decode cX11_town 339 = .ok (.iload_n 1, 1) := by decide +kernel
theorem dX11_town_340 : decode cX11_town 340 = .ok (.imul, 1) := by decide +kernel
theorem dX11_town_341 : decode cX11_town 341 = .ok (.iconst 1, 1) := by decide +kernel
theorem dX11_town_342 : decode cX11_town 342 = .ok (.iadd, 1) := by decide +kernel
theorem dX11_town_343 : decode cX11_town 343 = .ok (.iaload, 1) := by decide +kernel
theorem dX11_town_344 : decode cX11_town 344 = .ok (.iastore, 1) := by decide +kernel
theorem dX11_town_345 : decode cX11_town 345 = .ok (.iinc 1 1, 3) := by decide +kernel
theorem dX11_town_348 : decode cX11_town 348 = .ok (.goto (-71), 3) := by decide +kernel
theorem dX11_town_351 : decode cX11_town 351 = .ok (.aload_n 0, 1) := by decide +kernel
theorem dX11_town_352 : decode cX11_town 352 = .ok (.getfield 103, 3) := by decide +kernel
theorem dX11_town_355 : decode cX11_town 355 = .ok (.bipush 29, 2) := by decide +kernel
theorem dX11_town_357 : decode cX11_town 357 = .ok (.aload_n 0, 1) := by decide +kernel
theorem dX11_town_358 : decode cX11_town 358 = .ok (.getfield 400, 3) := by decide +kernel
theorem dX11_town_361 : decode cX11_town 361 = .ok (.iastore, 1) := by decide +kernel
theorem dX11_town_362 : decode cX11_town 362 = .ok (.aload_n 0, 1) := by decide +kernel
theorem dX11_town_363 : decode cX11_town 363 = .ok (.invokevirtual 421, 3) := by decide +kernel
theorem dX11_town_366 : decode cX11_town 366 = .ok (.aload_n 0, 1) := by decide +kernel
theorem dX11_town_367 : decode cX11_town 367 = .ok (.iconst 0, 1) := by decide +kernel
theorem dX11_town_368 : decode cX11_town 368 = .ok (.putfield 424, 3) := by decide +kernel
theorem dX11_town_371 : decode cX11_town 371 = .ok (.aload_n 0, 1) := by decide +kernel
theorem dX11_town_372 : decode cX11_town 372 = .ok (.iconst 0, 1) := by decide +kernel
theorem dX11_town_373 : decode cX11_town 373 = .ok (.putfield 427, 3) := by decide +kernel
theorem dX11_town_376 : decode cX11_town 376 = .ok (.aload_n 0, 1) := by decide +kernel
theorem dX11_town_377 : decode cX11_town 377 = .ok (.iconst 0, 1) := by decide +kernel
theorem dX11_town_378 : decode cX11_town 378 = .ok (.putfield 430, 3) := by decide +kernel
theorem dX11_town_381 : decode cX11_town 381 = .ok (.iconst 0, 1) := by decide +kernel
theorem dX11_town_382 : decode cX11_town 382 = .ok (.istore_n 1, 1) := by decide +kernel
theorem dX11_town_383 : decode cX11_town 383 = .ok (.iload_n 1, 1) := by decide +kernel
theorem dX11_town_384 : decode cX11_town 384 = .ok (.iconst 3, 1) := by decide +kernel
theorem dX11_town_385 : decode cX11_town 385 = .ok (.if_icmp .ge 16, 3) := by decide +kernel
theorem dX11_town_388 : decode cX11_town 388 = .ok (.aload_n 0, 1) := by decide +kernel
theorem dX11_town_389 : decode cX11_town 389 = .ok (.getfield 139, 3) := by decide +kernel
theorem dX11_town_392 : decode cX11_town 392 = .ok (.iload_n 1, 1) := by decide +kernel
theorem dX11_town_393 : decode cX11_town 393 = .ok (.iconst 0, 1) := by decide +kernel
theorem dX11_town_394 : decode cX11_town 394 = .ok (.bastore, 1) := by decide +kernel
theorem dX11_town_395 : decode cX11_town 395 = .ok (.iinc 1 1, 3) := by decide +kernel
theorem dX11_town_398 : decode cX11_town 398 = .ok (.goto (-15), 3) := by decide +kernel
theorem dX11_town_401 : decode cX11_town 401 = .ok (.aload_n 0, 1) := by decide +kernel
theorem dX11_town_402 : decode cX11_town 402 = .ok (.getfield 412, 3) := by decide +kernel
theorem dX11_town_405 : decode cX11_town 405 = .ok (.ireturn, 1) := by decide +kernel
theorem dX11_fault_0 : decode cX11_fault 0 = .ok (.iload_n 1, 1) := by decide +kernel
theorem dX11_fault_1 : decode cX11_fault 1 = .ok (.ifCond .ne 10, 3) := by decide +kernel
theorem dX11_fault_4 : decode cX11_fault 4 = .ok (.aload_n 0, 1) := by decide +kernel
theorem dX11_fault_5 : decode cX11_fault 5 = .ok (.getfield 185, 3) := by decide +kernel
theorem dX11_fault_8 : decode cX11_fault 8 = .ok (.goto 16, 3) := by decide +kernel
theorem dX11_fault_11 : decode cX11_fault 11 = .ok (.iload_n 1, 1) := by decide +kernel
theorem dX11_fault_12 : decode cX11_fault 12 = .ok (.iconst 1, 1) := by decide +kernel
theorem dX11_fault_13 : decode cX11_fault 13 = .ok (.if_icmp .ne 10, 3) := by decide +kernel
theorem dX11_fault_16 : decode cX11_fault 16 = .ok (.aload_n 0, 1) := by decide +kernel
theorem dX11_fault_17 : decode cX11_fault 17 = .ok (.getfield 13, 3) := by decide +kernel
theorem dX11_fault_20 : decode cX11_fault 20 = .ok (.goto 4, 3) := by decide +kernel
theorem dX11_fault_23 : decode cX11_fault 23 = .ok (.iconst (-1), 1) := by decide +kernel
theorem dX11_fault_24 : decode cX11_fault 24 = .ok (.ireturn, 1) := by decide +kernel
theorem dX11_isIn_0 : decode cX11_isIn 0 = .ok (.iload_n 0, 1) := by decide +kernel
theorem dX11_isIn_1 : decode cX11_isIn 1 = .ok (.iload_n 1, 1) := by decide +kernel
theorem dX11_isIn_2 : decode cX11_isIn 2 = .ok (.if_icmp .lt 12, 3) := by decide +kernel
theorem dX11_isIn_5 : decode cX11_isIn 5 = .ok (.iload_n 0, 1) := by decide +kernel
theorem dX11_isIn_6 : decode cX11_isIn 6 = .ok (.iload_n 2, 1) := by decide +kernel
theorem dX11_isIn_7 : decode cX11_isIn 7 = .ok (.if_icmp .gt 7, 3) := by decide +kernel
theorem dX11_isIn_10 : decode cX11_isIn 10 = .ok (.iconst 1, 1) := by decide +kernel
theorem dX11_isIn_11 : decode cX11_isIn 11 = .ok (.goto 4, 3) := by decide +kernel
theorem dX11_isIn_14 : decode cX11_isIn 14 = .ok (.iconst 0, 1) := by decide +kernel
theorem dX11_isIn_15 : decode cX11_isIn 15 = .ok (.ireturn, 1) := by decide +kernel
theorem dX11_isPerson_0 : decode cX11_isPerson 0 = .ok (.iload_n 1, 1) := by decide +kernel
theorem dX11_isPerson_1 : decode cX11_isPerson 1 = .ok (.iconst 0, 1) := by decide +kernel
theorem dX11_isPerson_2 : decode cX11_isPerson 2 = .ok (.aload_n 0, 1) := by decide +kernel
theorem dX11_isPerson_3 : decode cX11_isPerson 3 = .ok (.getfield 412, 3) := by decide +kernel
theorem dX11_isPerson_6 : decode cX11_isPerson 6 = .ok (.iconst 1, 1) := by decide +kernel
theorem dX11_isPerson_7 : decode cX11_isPerson 7 = .ok (.isub, 1) := by decide +kernel
theorem dX11_isPerson_8 : decode cX11_isPerson 8 = .ok (.invokestatic 433, 3) := by decide +kernel
theorem dX11_isPerson_11 : decode cX11_isPerson 11 = .ok (.ireturn, 1) := by decide +kernel
theorem dX11_isChurch_0 : decode cX11_isChurch 0 = .ok (.iload_n 1, 1) := by decide +kernel
theorem dX11_isChurch_1 : decode cX11_isChurch 1 = .ok (.iconst 0, 1) := by decide +kernel
theorem dX11_isChurch_2 : decode cX11_isChurch 2 = .ok (.aload_n 0, 1) := by decide +kernel
theorem dX11_isChurch_3 : decode cX11_isChurch 3 = .ok (.getfield 409, 3) := by decide +kernel
theorem dX11_isChurch_6 : decode cX11_isChurch 6 = .ok (.iconst 1, 1) := by decide +kernel
theorem dX11_isChurch_7 : decode cX11_isChurch 7 = .ok (.isub, 1) := by decide +kernel
theorem dX11_isChurch_8 : decode cX11_isChurch 8 = .ok (.invokestatic 433, 3) := by decide +kernel
theorem dX11_isChurch_11 : decode cX11_isChurch 11 = .ok (.ireturn, 1) := by decide +kernel
theorem dX11_isPair_0 : decode cX11_isPair 0 = .ok (.iload_n 1, 1) := by decide +kernel
theorem dX11_isPair_1 : decode cX11_isPair 1 = .ok (.iconst 0, 1) := by decide +kernel
theorem dX11_isPair_2 : decode cX11_isPair 2 = .ok (.aload_n 0, 1) := by decide +kernel
theorem dX11_isPair_3 : decode cX11_isPair 3 = .ok (.getfield 415, 3) := by decide +kernel
theorem dX11_isPair_6 : decode cX11_isPair 6 = .ok (.iconst 1, 1) := by decide +kernel
theorem dX11_isPair_7 : decode cX11_isPair 7 = .ok (.isub, 1) := by decide +kernel
theorem dX11_isPair_8 : decode cX11_isPair 8 = .ok (.invokestatic 433, 3) := by decide +kernel
theorem dX11_isPair_11 : decode cX11_isPair 11 = .ok (.ireturn, 1) := by decide +kernel
theorem dX11_layAncestors_0 : decode cX11_layAncestors 0 = .ok (.iconst 0, 1) := by decide +kernel
theorem dX11_layAncestors_1 : decode cX11_layAncestors 1 = .ok (.istore_n 1, 1) := by decide +kernel
theorem dX11_layAncestors_2 : decode cX11_layAncestors 2 = .ok (.iload_n 1, 1) := by decide +kernel
theorem dX11_layAncestors_3 : decode cX11_layAncestors 3 = .ok (.aload_n 0, 1) := by decide +kernel
theorem dX11_layAncestors_4 : decode cX11_layAncestors 4 = .ok (.getfield 412, 3) := by decide +kernel
theorem dX11_layAncestors_7 : decode cX11_layAncestors 7 = .ok (.if_icmp .ge 158, 3) := by decide +kernel
theorem dX11_layAncestors_10 : decode cX11_layAncestors 10 = .ok (.iconst 0, 1) := by decide +kernel
theorem dX11_layAncestors_11 : decode cX11_layAncestors 11 = .ok (.istore_n 2, 1) := by decide +kernel
theorem dX11_layAncestors_12 : decode cX11_layAncestors 12 = .ok (.iload_n 2, 1) := by decide +kernel
theorem dX11_layAncestors_13 : decode cX11_layAncestors 13 = .ok (.aload_n 0, 1) := by decide +kernel
theorem dX11_layAncestors_14 : decode cX11_layAncestors 14 = .ok (.getfield 412, 3) := by decide +kernel
theorem dX11_layAncestors_17 : decode cX11_layAncestors 17 = .ok (.if_icmp .ge 142, 3) := by decide +kernel
theorem dX11_layAncestors_20 : decode cX11_layAncestors 20 = .ok (.aload_n 0, 1) := by decide +kernel
theorem dX11_layAncestors_21 : decode cX11_layAncestors 21 = .ok (.getfield 100, 3) := by decide +kernel
theorem dX11_layAncestors_24 : decode cX11_layAncestors 24 = .ok (.bipush 8, 2) := by decide +kernel
theorem dX11_layAncestors_26 : decode cX11_layAncestors 26 = .ok (.iload_n 1, 1) := by decide +kernel
theorem dX11_layAncestors_27 : decode cX11_layAncestors 27 = .ok (.imul, 1) := by decide +kernel
theorem dX11_layAncestors_28 : decode cX11_layAncestors 28 = .ok (.iload_n 2, 1) := by decide +kernel
theorem dX11_layAncestors_29 : decode cX11_layAncestors 29 = .ok (.iadd, 1) := by decide +kernel
theorem dX11_layAncestors_30 : decode cX11_layAncestors 30 = .ok (.iload_n 1, 1) := by decide +kernel
theorem dX11_layAncestors_31 : decode cX11_layAncestors 31 = .ok (.iload_n 2, 1) := by decide +kernel
theorem dX11_layAncestors_32 : decode cX11_layAncestors 32 = .ok (.if_icmp .ne 7, 3) := by decide +kernel
theorem dX11_layAncestors_35 : decode cX11_layAncestors 35 = .ok (.iconst 0, 1) := by decide +kernel
theorem dX11_layAncestors_36 : decode cX11_layAncestors 36 = .ok (.goto 4, 3) := by decide +kernel
theorem dX11_layAncestors_39 : decode cX11_layAncestors 39 = .ok (.iconst (-1), 1) := by decide +kernel
theorem dX11_layAncestors_40 : decode cX11_layAncestors 40 = .ok (.iastore, 1) := by decide +kernel
theorem dX11_layAncestors_41 : decode cX11_layAncestors 41 = .ok (.iconst 0, 1) := by decide +kernel
theorem dX11_layAncestors_42 : decode cX11_layAncestors 42 = .ok (.istore_n 3, 1) := by decide +kernel
theorem dX11_layAncestors_43 : decode cX11_layAncestors 43 = .ok (.iload_n 3, 1) := by decide +kernel
theorem dX11_layAncestors_44 : decode cX11_layAncestors 44 = .ok (.iconst 2, 1) := by decide +kernel
theorem dX11_layAncestors_45 : decode cX11_layAncestors 45 = .ok (.if_icmp .ge 108, 3) := by decide +kernel
theorem dX11_layAncestors_48 : decode cX11_layAncestors 48 = .ok (.aload_n 0, 1) := by decide +kernel
theorem dX11_layAncestors_49 : decode cX11_layAncestors 49 = .ok (.getfield 69, 3) := by decide +kernel
theorem dX11_layAncestors_52 : decode cX11_layAncestors 52 = .ok (.iconst 2, 1) := by decide +kernel
theorem dX11_layAncestors_53 : decode cX11_layAncestors 53 = .ok (.iload_n 1, 1) := by decide +kernel
theorem dX11_layAncestors_54 : decode cX11_layAncestors 54 = .ok (.imul, 1) := by decide +kernel
theorem dX11_layAncestors_55 : decode cX11_layAncestors 55 = .ok (.iload_n 3, 1) := by decide +kernel
theorem dX11_layAncestors_56 : decode cX11_layAncestors 56 = .ok (.iadd, 1) := by decide +kernel
theorem dX11_layAncestors_57 : decode cX11_layAncestors 57 = .ok (.iaload, 1) := by decide +kernel
theorem dX11_layAncestors_58 : decode cX11_layAncestors 58 = .ok (.istore 4, 2) := by decide +kernel
theorem dX11_layAncestors_60 : decode cX11_layAncestors 60 = .ok (.iload_n 1, 1) := by decide +kernel
theorem dX11_layAncestors_61 : decode cX11_layAncestors 61 = .ok (.iload_n 2, 1) := by decide +kernel
theorem dX11_layAncestors_62 : decode cX11_layAncestors 62 = .ok (.if_icmp .eq 85, 3) := by decide +kernel
theorem dX11_layAncestors_65 : decode cX11_layAncestors 65 = .ok (.iload 4, 2) := by decide +kernel
theorem dX11_layAncestors_67 : decode cX11_layAncestors 67 = .ok (.ifCond .lt 80, 3) := by decide +kernel
theorem dX11_layAncestors_70 : decode cX11_layAncestors 70 = .ok (.aload_n 0, 1) := by decide +kernel
theorem dX11_layAncestors_71 : decode cX11_layAncestors 71 = .ok (.getfield 100, 3) := by decide +kernel
theorem dX11_layAncestors_74 : decode cX11_layAncestors 74 = .ok (.bipush 8, 2) := by decide +kernel
theorem dX11_layAncestors_76 : decode cX11_layAncestors 76 = .ok (.iload 4, 2) := by decide +kernel
theorem dX11_layAncestors_78 : decode cX11_layAncestors 78 = .ok (.imul, 1) := by decide +kernel
theorem dX11_layAncestors_79 : decode cX11_layAncestors 79 = .ok (.iload_n 2, 1) := by decide +kernel
theorem dX11_layAncestors_80 : decode cX11_layAncestors 80 = .ok (.iadd, 1) := by decide +kernel
theorem dX11_layAncestors_81 : decode cX11_layAncestors 81 = .ok (.iaload, 1) := by decide +kernel
theorem dX11_layAncestors_82 : decode cX11_layAncestors 82 = .ok (.ifCond .ge 6, 3) := by decide +kernel
theorem dX11_layAncestors_85 : decode cX11_layAncestors 85 = .ok (.goto 62, 3) := by decide +kernel
theorem dX11_layAncestors_88 : decode cX11_layAncestors 88 = .ok (.aload_n 0, 1) := by decide +kernel
theorem dX11_layAncestors_89 : decode cX11_layAncestors 89 = .ok (.getfield 100, 3) := by decide +kernel
theorem dX11_layAncestors_92 : decode cX11_layAncestors 92 = .ok (.bipush 8, 2) := by decide +kernel
theorem dX11_layAncestors_94 : decode cX11_layAncestors 94 = .ok (.iload 4, 2) := by decide +kernel
theorem dX11_layAncestors_96 : decode cX11_layAncestors 96 = .ok (.imul, 1) := by decide +kernel
theorem dX11_layAncestors_97 : decode cX11_layAncestors 97 = .ok (.iload_n 2, 1) := by decide +kernel
theorem dX11_layAncestors_98 : decode cX11_layAncestors 98 = .ok (.iadd, 1) := by decide +kernel
theorem dX11_layAncestors_99 : decode cX11_layAncestors 99 = .ok (.iaload, 1) := by decide +kernel
theorem dX11_layAncestors_100 : decode cX11_layAncestors 100 = .ok (.iconst 1, 1) := by decide +kernel
theorem dX11_layAncestors_101 : decode cX11_layAncestors 101 = .ok (.iadd, 1) := by decide +kernel
theorem dX11_layAncestors_102 : decode cX11_layAncestors 102 = .ok (.istore 5, 2) := by decide +kernel
theorem dX11_layAncestors_104 : decode cX11_layAncestors 104 = .ok (.aload_n 0, 1) := by decide +kernel
theorem dX11_layAncestors_105 : decode cX11_layAncestors 105 = .ok (.getfield 100, 3) := by decide +kernel
theorem dX11_layAncestors_108 : decode cX11_layAncestors 108 = .ok (.bipush 8, 2) := by decide +kernel
theorem dX11_layAncestors_110 : decode cX11_layAncestors 110 = .ok (.iload_n 1, 1) := by decide +kernel
theorem dX11_layAncestors_111 : decode cX11_layAncestors 111 = .ok (.imul, 1) := by decide +kernel
theorem dX11_layAncestors_112 : decode cX11_layAncestors 112 = .ok (.iload_n 2, 1) := by decide +kernel
theorem dX11_layAncestors_113 : decode cX11_layAncestors 113 = .ok (.iadd, 1) := by decide +kernel
theorem dX11_layAncestors_114 : decode cX11_layAncestors 114 = .ok (.iaload, 1) := by decide +kernel
theorem dX11_layAncestors_115 : decode cX11_layAncestors 115 = .ok (.ifCond .lt 19, 3) := by decide +kernel
theorem dX11_layAncestors_118 : decode cX11_layAncestors 118 = .ok (.iload 5, 2) := by decide +kernel
theorem dX11_layAncestors_120 : decode cX11_layAncestors 120 = .ok (.aload_n 0, 1) := by decide +kernel
theorem dX11_layAncestors_121 : decode cX11_layAncestors 121 = .ok (.getfield 100, 3) := by decide +kernel
theorem dX11_layAncestors_124 : decode cX11_layAncestors 124 = .ok (.bipush 8, 2) := by decide +kernel
theorem dX11_layAncestors_126 : decode cX11_layAncestors 126 = .ok (.iload_n 1, 1) := by decide +kernel
theorem dX11_layAncestors_127 : decode cX11_layAncestors 127 = .ok (.imul, 1) := by decide +kernel
theorem dX11_layAncestors_128 : decode cX11_layAncestors 128 = .ok (.iload_n 2, 1) := by decide +kernel
theorem dX11_layAncestors_129 : decode cX11_layAncestors 129 = .ok (.iadd, 1) := by decide +kernel
theorem dX11_layAncestors_130 : decode cX11_layAncestors 130 = .ok (.iaload, 1) := by decide +kernel
theorem dX11_layAncestors_131 : decode cX11_layAncestors 131 = .ok (.if_icmp .ge 16, 3) := by decide +kernel
theorem dX11_layAncestors_134 : decode cX11_layAncestors 134 = .ok (.aload_n 0, 1) := by decide +kernel
theorem dX11_layAncestors_135 : decode cX11_layAncestors 135 = .ok (.getfield 100, 3) := by decide +kernel
theorem dX11_layAncestors_138 : decode cX11_layAncestors 138 = .ok (.bipush 8, 2) := by decide +kernel
theorem dX11_layAncestors_140 : decode cX11_layAncestors 140 = .ok (.iload_n 1, 1) := by decide +kernel
theorem dX11_layAncestors_141 : decode cX11_layAncestors 141 = .ok (.imul, 1) := by decide +kernel
theorem dX11_layAncestors_142 : decode cX11_layAncestors 142 = .ok (.iload_n 2, 1) := by decide +kernel
theorem dX11_layAncestors_143 : decode cX11_layAncestors 143 = .ok (.iadd, 1) := by decide +kernel
theorem dX11_layAncestors_144 : decode cX11_layAncestors 144 = .ok (.iload 5, 2) := by decide +kernel
theorem dX11_layAncestors_146 : decode cX11_layAncestors 146 = .ok (.iastore, 1) := by decide +kernel
theorem dX11_layAncestors_147 : decode cX11_layAncestors 147 = .ok (.iinc 3 1, 3) := by decide +kernel
theorem dX11_layAncestors_150 : decode cX11_layAncestors 150 = .ok (.goto (-107), 3) := by decide +kernel
theorem dX11_layAncestors_153 : decode cX11_layAncestors 153 = .ok (.iinc 2 1, 3) := by decide +kernel
theorem dX11_layAncestors_156 : decode cX11_layAncestors 156 = .ok (.goto (-144), 3) := by decide +kernel
theorem dX11_layAncestors_159 : decode cX11_layAncestors 159 = .ok (.iinc 1 1, 3) := by decide +kernel
theorem dX11_layAncestors_162 : decode cX11_layAncestors 162 = .ok (.goto (-160), 3) := by decide +kernel
theorem dX11_layAncestors_165 : decode cX11_layAncestors 165 = .ok (.return_, 1) := by decide +kernel
theorem dX11_degreeOf_0 : decode cX11_degreeOf 0 = .ok (.iconst (-1), 1) := by decide +kernel
theorem dX11_degreeOf_1 : decode cX11_degreeOf 1 = .ok (.istore_n 3, 1) := by decide +kernel
theorem dX11_degreeOf_2 : decode cX11_degreeOf 2 = .ok (.iconst 0, 1) := by decide +kernel
theorem dX11_degreeOf_3 : decode cX11_degreeOf 3 = .ok (.istore 4, 2) := by decide +kernel
theorem dX11_degreeOf_5 : decode cX11_degreeOf 5 = .ok (.iload 4, 2) := by decide +kernel
theorem dX11_degreeOf_7 : decode cX11_degreeOf 7 = .ok (.aload_n 0, 1) := by decide +kernel
theorem dX11_degreeOf_8 : decode cX11_degreeOf 8 = .ok (.getfield 412, 3) := by decide +kernel
theorem dX11_degreeOf_11 : decode cX11_degreeOf 11 = .ok (.if_icmp .ge 66, 3) := by decide +kernel
theorem dX11_degreeOf_14 : decode cX11_degreeOf 14 = .ok (.aload_n 0, 1) := by decide +kernel
theorem dX11_degreeOf_15 : decode cX11_degreeOf 15 = .ok (.getfield 100, 3) := by decide +kernel
theorem dX11_degreeOf_18 : decode cX11_degreeOf 18 = .ok (.bipush 8, 2) := by decide +kernel
theorem dX11_degreeOf_20 : decode cX11_degreeOf 20 = .ok (.iload_n 1, 1) := by decide +kernel
theorem dX11_degreeOf_21 : decode cX11_degreeOf 21 = .ok (.imul, 1) := by decide +kernel
theorem dX11_degreeOf_22 : decode cX11_degreeOf 22 = .ok (.iload 4, 2) := by decide +kernel
theorem dX11_degreeOf_24 : decode cX11_degreeOf 24 = .ok (.iadd, 1) := by decide +kernel
theorem dX11_degreeOf_25 : decode cX11_degreeOf 25 = .ok (.iaload, 1) := by decide +kernel
theorem dX11_degreeOf_26 : decode cX11_degreeOf 26 = .ok (.istore 5, 2) := by decide +kernel
theorem dX11_degreeOf_28 : decode cX11_degreeOf 28 = .ok (.aload_n 0, 1) := by decide +kernel
theorem dX11_degreeOf_29 : decode cX11_degreeOf 29 = .ok (.getfield 100, 3) := by decide +kernel
theorem dX11_degreeOf_32 : decode cX11_degreeOf 32 = .ok (.bipush 8, 2) := by decide +kernel
theorem dX11_degreeOf_34 : decode cX11_degreeOf 34 = .ok (.iload_n 2, 1) := by decide +kernel
theorem dX11_degreeOf_35 : decode cX11_degreeOf 35 = .ok (.imul, 1) := by decide +kernel
theorem dX11_degreeOf_36 : decode cX11_degreeOf 36 = .ok (.iload 4, 2) := by decide +kernel
theorem dX11_degreeOf_38 : decode cX11_degreeOf 38 = .ok (.iadd, 1) := by decide +kernel
theorem dX11_degreeOf_39 : decode cX11_degreeOf 39 = .ok (.iaload, 1) := by decide +kernel
theorem dX11_degreeOf_40 : decode cX11_degreeOf 40 = .ok (.istore 6, 2) := by decide +kernel
theorem dX11_degreeOf_42 : decode cX11_degreeOf 42 = .ok (.iload 5, 2) := by decide +kernel
theorem dX11_degreeOf_44 : decode cX11_degreeOf 44 = .ok (.ifCond .lt 27, 3) := by decide +kernel
theorem dX11_degreeOf_47 : decode cX11_degreeOf 47 = .ok (.iload 6, 2) := by decide +kernel
theorem dX11_degreeOf_49 : decode cX11_degreeOf 49 = .ok (.ifCond .lt 22, 3) := by decide +kernel
theorem dX11_degreeOf_52 : decode cX11_degreeOf 52 = .ok (.iload_n 3, 1) := by decide +kernel
theorem dX11_degreeOf_53 : decode cX11_degreeOf 53 = .ok (.ifCond .lt 12, 3) := by decide +kernel
theorem dX11_degreeOf_56 : decode cX11_degreeOf 56 = .ok (.iload 5, 2) := by decide +kernel
theorem dX11_degreeOf_58 : decode cX11_degreeOf 58 = .ok (.iload 6, 2) := by decide +kernel
theorem dX11_degreeOf_60 : decode cX11_degreeOf 60 = .ok (.iadd, 1) := by decide +kernel
theorem dX11_degreeOf_61 : decode cX11_degreeOf 61 = .ok (.iload_n 3, 1) := by decide +kernel
theorem dX11_degreeOf_62 : decode cX11_degreeOf 62 = .ok (.if_icmp .ge 9, 3) := by decide +kernel
theorem dX11_degreeOf_65 : decode cX11_degreeOf 65 = .ok (.iload 5, 2) := by decide +kernel
theorem dX11_degreeOf_67 : decode cX11_degreeOf 67 = .ok (.iload 6, 2) := by decide +kernel
theorem dX11_degreeOf_69 : decode cX11_degreeOf 69 = .ok (.iadd, 1) := by decide +kernel
theorem dX11_degreeOf_70 : decode cX11_degreeOf 70 = .ok (.istore_n 3, 1) := by decide +kernel
theorem dX11_degreeOf_71 : decode cX11_degreeOf 71 = .ok (.iinc 4 1, 3) := by decide +kernel
theorem dX11_degreeOf_74 : decode cX11_degreeOf 74 = .ok (.goto (-69), 3) := by decide +kernel
theorem dX11_degreeOf_77 : decode cX11_degreeOf 77 = .ok (.iload_n 3, 1) := by decide +kernel
theorem dX11_degreeOf_78 : decode cX11_degreeOf 78 = .ok (.ireturn, 1) := by decide +kernel
theorem dX11_degree_0 : decode cX11_degree 0 = .ok (.aload_n 0, 1) := by decide +kernel
theorem dX11_degree_1 : decode cX11_degree 1 = .ok (.iload_n 1, 1) := by decide +kernel
theorem dX11_degree_2 : decode cX11_degree 2 = .ok (.invokevirtual 437, 3) := by decide +kernel
theorem dX11_degree_5 : decode cX11_degree 5 = .ok (.ifCond .eq 20, 3) := by decide +kernel
theorem dX11_degree_8 : decode cX11_degree 8 = .ok (.aload_n 0, 1) := by decide +kernel
theorem dX11_degree_9 : decode cX11_degree 9 = .ok (.iload_n 2, 1) := by decide +kernel
theorem dX11_degree_10 : decode cX11_degree 10 = .ok (.invokevirtual 437, 3) := by decide +kernel
theorem dX11_degree_13 : decode cX11_degree 13 = .ok (.ifCond .eq 12, 3) := by decide +kernel
theorem dX11_degree_16 : decode cX11_degree 16 = .ok (.aload_n 0, 1) := by decide +kernel
theorem dX11_degree_17 : decode cX11_degree 17 = .ok (.iload_n 1, 1) := by decide +kernel
theorem dX11_degree_18 : decode cX11_degree 18 = .ok (.iload_n 2, 1) := by decide +kernel
theorem dX11_degree_19 : decode cX11_degree 19 = .ok (.invokevirtual 440, 3) := by decide +kernel
theorem dX11_degree_22 : decode cX11_degree 22 = .ok (.goto 4, 3) := by decide +kernel
theorem dX11_degree_25 : decode cX11_degree 25 = .ok (.iconst (-1), 1) := by decide +kernel
theorem dX11_degree_26 : decode cX11_degree 26 = .ok (.ireturn, 1) := by decide +kernel
theorem dX11_ancestors_0 : decode cX11_ancestors 0 = .ok (.aload_n 0, 1) := by decide +kernel
theorem dX11_ancestors_1 : decode cX11_ancestors 1 = .ok (.iload_n 1, 1) := by decide +kernel
theorem dX11_ancestors_2 : decode cX11_ancestors 2 = .ok (.invokevirtual 437, 3) := by decide +kernel
theorem dX11_ancestors_5 : decode cX11_ancestors 5 = .ok (.ifCond .ne 5, 3) := by decide +kernel
theorem dX11_ancestors_8 : decode cX11_ancestors 8 = .ok (.iconst (-1), 1) := by decide +kernel
theorem dX11_ancestors_9 : decode cX11_ancestors 9 = .ok (.ireturn, 1) := by decide +kernel
theorem dX11_ancestors_10 : decode cX11_ancestors 10 = .ok (.iconst 0, 1) := by decide +kernel
theorem dX11_ancestors_11 : decode cX11_ancestors 11 = .ok (.istore_n 2, 1) := by decide +kernel
theorem dX11_ancestors_12 : decode cX11_ancestors 12 = .ok (.iconst 0, 1) := by decide +kernel
theorem dX11_ancestors_13 : decode cX11_ancestors 13 = .ok (.istore_n 3, 1) := by decide +kernel
theorem dX11_ancestors_14 : decode cX11_ancestors 14 = .ok (.iload_n 3, 1) := by decide +kernel
theorem dX11_ancestors_15 : decode cX11_ancestors 15 = .ok (.aload_n 0, 1) := by decide +kernel
theorem dX11_ancestors_16 : decode cX11_ancestors 16 = .ok (.getfield 412, 3) := by decide +kernel
theorem dX11_ancestors_19 : decode cX11_ancestors 19 = .ok (.if_icmp .ge 36, 3) := by decide +kernel
theorem dX11_ancestors_22 : decode cX11_ancestors 22 = .ok (.iload_n 2, 1) := by decide +kernel
theorem dX11_ancestors_23 : decode cX11_ancestors 23 = .ok (.aload_n 0, 1) := by decide +kernel
theorem dX11_ancestors_24 : decode cX11_ancestors 24 = .ok (.getfield 100, 3) := by decide +kernel
theorem dX11_ancestors_27 : decode cX11_ancestors 27 = .ok (.bipush 8, 2) := by decide +kernel
theorem dX11_ancestors_29 : decode cX11_ancestors 29 = .ok (.iload_n 1, 1) := by decide +kernel
theorem dX11_ancestors_30 : decode cX11_ancestors 30 = .ok (.imul, 1) := by decide +kernel
theorem dX11_ancestors_31 : decode cX11_ancestors 31 = .ok (.iload_n 3, 1) := by decide +kernel
theorem dX11_ancestors_32 : decode cX11_ancestors 32 = .ok (.iadd, 1) := by decide +kernel
theorem dX11_ancestors_33 : decode cX11_ancestors 33 = .ok (.iaload, 1) := by decide +kernel
theorem dX11_ancestors_34 : decode cX11_ancestors 34 = .ok (.ifCond .lt 7, 3) := by decide +kernel
theorem dX11_ancestors_37 : decode cX11_ancestors 37 = .ok (.iconst 1, 1) := by decide +kernel
theorem dX11_ancestors_38 : decode cX11_ancestors 38 = .ok (.goto 4, 3) := by decide +kernel
theorem dX11_ancestors_41 : decode cX11_ancestors 41 = .ok (.iconst 0, 1) := by decide +kernel
theorem dX11_ancestors_42 : decode cX11_ancestors 42 = .ok (.invokestatic 320, 3) := by decide +kernel
theorem dX11_ancestors_45 : decode cX11_ancestors 45 = .ok (.iload_n 3, 1) := by decide +kernel
theorem dX11_ancestors_46 : decode cX11_ancestors 46 = .ok (.ishl, 1) := by decide +kernel
theorem dX11_ancestors_47 : decode cX11_ancestors 47 = .ok (.ior, 1) := by decide +kernel
theorem dX11_ancestors_48 : decode cX11_ancestors 48 = .ok (.istore_n 2, 1) := by decide +kernel
theorem dX11_ancestors_49 : decode cX11_ancestors 49 = .ok (.iinc 3 1, 3) := by decide +kernel
theorem dX11_ancestors_52 : decode cX11_ancestors 52 = .ok (.goto (-38), 3) := by decide +kernel
theorem dX11_ancestors_55 : decode cX11_ancestors 55 = .ok (.iload_n 2, 1) := by decide +kernel
theorem dX11_ancestors_56 : decode cX11_ancestors 56 = .ok (.ireturn, 1) := by decide +kernel
theorem dX11_isParent_0 : decode cX11_isParent 0 = .ok (.aload_n 0, 1) := by decide +kernel
theorem dX11_isParent_1 : decode cX11_isParent 1 = .ok (.getfield 69, 3) := by decide +kernel
theorem dX11_isParent_4 : decode cX11_isParent 4 = .ok (.iconst 2, 1) := by decide +kernel
theorem dX11_isParent_5 : decode cX11_isParent 5 = .ok (.iload_n 2, 1) := by decide +kernel
theorem dX11_isParent_6 : decode cX11_isParent 6 = .ok (.imul, 1) := by decide +kernel
theorem dX11_isParent_7 : decode cX11_isParent 7 = .ok (.iaload, 1) := by decide +kernel
theorem dX11_isParent_8 : decode cX11_isParent 8 = .ok (.iload_n 1, 1) := by decide +kernel
theorem dX11_isParent_9 : decode cX11_isParent 9 = .ok (.if_icmp .eq 17, 3) := by decide +kernel
theorem dX11_isParent_12 : decode cX11_isParent 12 = .ok (.aload_n 0, 1) := by decide +kernel
theorem dX11_isParent_13 : decode cX11_isParent 13 = .ok (.getfield 69, 3) := by decide +kernel
theorem dX11_isParent_16 : decode cX11_isParent 16 = .ok (.iconst 2, 1) := by decide +kernel
theorem dX11_isParent_17 : decode cX11_isParent 17 = .ok (.iload_n 2, 1) := by decide +kernel
theorem dX11_isParent_18 : decode cX11_isParent 18 = .ok (.imul, 1) := by decide +kernel
theorem dX11_isParent_19 : decode cX11_isParent 19 = .ok (.iconst 1, 1) := by decide +kernel
theorem dX11_isParent_20 : decode cX11_isParent 20 = .ok (.iadd, 1) := by decide +kernel
theorem dX11_isParent_21 : decode cX11_isParent 21 = .ok (.iaload, 1) := by decide +kernel
theorem dX11_isParent_22 : decode cX11_isParent 22 = .ok (.iload_n 1, 1) := by decide +kernel
theorem dX11_isParent_23 : decode cX11_isParent 23 = .ok (.if_icmp .ne 7, 3) := by decide +kernel
theorem dX11_isParent_26 : decode cX11_isParent 26 = .ok (.iconst 1, 1) := by decide +kernel
theorem dX11_isParent_27 : decode cX11_isParent 27 = .ok (.goto 4, 3) := by decide +kernel
theorem dX11_isParent_30 : decode cX11_isParent 30 = .ok (.iconst 0, 1) := by decide +kernel
theorem dX11_isParent_31 : decode cX11_isParent 31 = .ok (.ireturn, 1) := by decide +kernel
theorem dX11_knownTo_0 : decode cX11_knownTo 0 = .ok (.aload_n 0, 1) := by decide +kernel
theorem dX11_knownTo_1 : decode cX11_knownTo 1 = .ok (.getfield 75, 3) := by decide +kernel
theorem dX11_knownTo_4 : decode cX11_knownTo 4 = .ok (.iload_n 1, 1) := by decide +kernel
theorem dX11_knownTo_5 : decode cX11_knownTo 5 = .ok (.iaload, 1) := by decide +kernel
theorem dX11_knownTo_6 : decode cX11_knownTo 6 = .ok (.istore_n 2, 1) := by decide +kernel
theorem dX11_knownTo_7 : decode cX11_knownTo 7 = .ok (.iconst 0, 1) := by decide +kernel
theorem dX11_knownTo_8 : decode cX11_knownTo 8 = .ok (.istore_n 3, 1) := by decide +kernel
theorem dX11_knownTo_9 : decode cX11_knownTo 9 = .ok (.iload_n 3, 1) := by decide +kernel
theorem dX11_knownTo_10 : decode cX11_knownTo 10 = .ok (.aload_n 0, 1) := by decide +kernel
theorem dX11_knownTo_11 : decode cX11_knownTo 11 = .ok (.getfield 412, 3) := by decide +kernel
theorem dX11_knownTo_14 : decode cX11_knownTo 14 = .ok (.if_icmp .ge 33, 3) := by decide +kernel
theorem dX11_knownTo_17 : decode cX11_knownTo 17 = .ok (.aload_n 0, 1) := by decide +kernel
theorem dX11_knownTo_18 : decode cX11_knownTo 18 = .ok (.iload_n 3, 1) := by decide +kernel
theorem dX11_knownTo_19 : decode cX11_knownTo 19 = .ok (.iload_n 1, 1) := by decide +kernel
theorem dX11_knownTo_20 : decode cX11_knownTo 20 = .ok (.invokevirtual 443, 3) := by decide +kernel
theorem dX11_knownTo_23 : decode cX11_knownTo 23 = .ok (.ifCond .ne 12, 3) := by decide +kernel
theorem dX11_knownTo_26 : decode cX11_knownTo 26 = .ok (.aload_n 0, 1) := by decide +kernel
theorem dX11_knownTo_27 : decode cX11_knownTo 27 = .ok (.iload_n 1, 1) := by decide +kernel
theorem dX11_knownTo_28 : decode cX11_knownTo 28 = .ok (.iload_n 3, 1) := by decide +kernel
theorem dX11_knownTo_29 : decode cX11_knownTo 29 = .ok (.invokevirtual 443, 3) := by decide +kernel
theorem dX11_knownTo_32 : decode cX11_knownTo 32 = .ok (.ifCond .eq 9, 3) := by decide +kernel
theorem dX11_knownTo_35 : decode cX11_knownTo 35 = .ok (.iload_n 2, 1) := by decide +kernel
theorem dX11_knownTo_36 : decode cX11_knownTo 36 = .ok (.iconst 1, 1) := by decide +kernel
theorem dX11_knownTo_37 : decode cX11_knownTo 37 = .ok (.iload_n 3, 1) := by decide +kernel
theorem dX11_knownTo_38 : decode cX11_knownTo 38 = .ok (.ishl, 1) := by decide +kernel
theorem dX11_knownTo_39 : decode cX11_knownTo 39 = .ok (.ior, 1) := by decide +kernel
theorem dX11_knownTo_40 : decode cX11_knownTo 40 = .ok (.istore_n 2, 1) := by decide +kernel
theorem dX11_knownTo_41 : decode cX11_knownTo 41 = .ok (.iinc 3 1, 3) := by decide +kernel
theorem dX11_knownTo_44 : decode cX11_knownTo 44 = .ok (.goto (-35), 3) := by decide +kernel
theorem dX11_knownTo_47 : decode cX11_knownTo 47 = .ok (.iload_n 2, 1) := by decide +kernel
theorem dX11_knownTo_48 : decode cX11_knownTo 48 = .ok (.ireturn, 1) := by decide +kernel
theorem dX11_load_0 : decode cX11_load 0 = .ok (.iconst 0, 1) := by decide +kernel
theorem dX11_load_1 : decode cX11_load 1 = .ok (.istore_n 1, 1) := by decide +kernel
theorem dX11_load_2 : decode cX11_load 2 = .ok (.iload_n 1, 1) := by decide +kernel
theorem dX11_load_3 : decode cX11_load 3 = .ok (.bipush 30, 2) := by decide +kernel
theorem dX11_load_5 : decode cX11_load 5 = .ok (.if_icmp .ge 21, 3) := by decide +kernel
theorem dX11_load_8 : decode cX11_load 8 = .ok (.aload_n 0, 1) := by decide +kernel
theorem dX11_load_9 : decode cX11_load 9 = .ok (.getfield 106, 3) := by decide +kernel
theorem dX11_load_12 : decode cX11_load 12 = .ok (.iload_n 1, 1) := by decide +kernel
theorem dX11_load_13 : decode cX11_load 13 = .ok (.aload_n 0, 1) := by decide +kernel
theorem dX11_load_14 : decode cX11_load 14 = .ok (.getfield 103, 3) := by decide +kernel
theorem dX11_load_17 : decode cX11_load 17 = .ok (.iload_n 1, 1) := by decide +kernel
theorem dX11_load_18 : decode cX11_load 18 = .ok (.iaload, 1) := by decide +kernel
theorem dX11_load_19 : decode cX11_load 19 = .ok (.iastore, 1) := by decide +kernel
theorem dX11_load_20 : decode cX11_load 20 = .ok (.iinc 1 1, 3) := by decide +kernel
theorem dX11_load_23 : decode cX11_load 23 = .ok (.goto (-21), 3) := by decide +kernel
theorem dX11_load_26 : decode cX11_load 26 = .ok (.return_, 1) := by decide +kernel
theorem dX11_stateOf_0 : decode cX11_stateOf 0 = .ok (.aload_n 0, 1) := by decide +kernel
theorem dX11_stateOf_1 : decode cX11_stateOf 1 = .ok (.getfield 106, 3) := by decide +kernel
theorem dX11_stateOf_4 : decode cX11_stateOf 4 = .ok (.bipush 8, 2) := by decide +kernel
theorem dX11_stateOf_6 : decode cX11_stateOf 6 = .ok (.iload_n 1, 1) := by decide +kernel
theorem dX11_stateOf_7 : decode cX11_stateOf 7 = .ok (.iadd, 1) := by decide +kernel
theorem dX11_stateOf_8 : decode cX11_stateOf 8 = .ok (.iaload, 1) := by decide +kernel
theorem dX11_stateOf_9 : decode cX11_stateOf 9 = .ok (.ireturn, 1) := by decide +kernel
theorem dX11_isOf_0 : decode cX11_isOf 0 = .ok (.aload_n 0, 1) := by decide +kernel
theorem dX11_isOf_1 : decode cX11_isOf 1 = .ok (.getfield 81, 3) := by decide +kernel
theorem dX11_isOf_4 : decode cX11_isOf 4 = .ok (.iload_n 1, 1) := by decide +kernel
theorem dX11_isOf_5 : decode cX11_isOf 5 = .ok (.iaload, 1) := by decide +kernel
theorem dX11_isOf_6 : decode cX11_isOf 6 = .ok (.iload_n 2, 1) := by decide +kernel
theorem dX11_isOf_7 : decode cX11_isOf 7 = .ok (.if_icmp .eq 13, 3) := by decide +kernel
theorem dX11_isOf_10 : decode cX11_isOf 10 = .ok (.aload_n 0, 1) := by decide +kernel
theorem dX11_isOf_11 : decode cX11_isOf 11 = .ok (.getfield 84, 3) := by decide +kernel
theorem dX11_isOf_14 : decode cX11_isOf 14 = .ok (.iload_n 1, 1) := by decide +kernel
theorem dX11_isOf_15 : decode cX11_isOf 15 = .ok (.iaload, 1) := by decide +kernel
theorem dX11_isOf_16 : decode cX11_isOf 16 = .ok (.iload_n 2, 1) := by decide +kernel
theorem dX11_isOf_17 : decode cX11_isOf 17 = .ok (.if_icmp .ne 7, 3) := by decide +kernel
theorem dX11_isOf_20 : decode cX11_isOf 20 = .ok (.iconst 1, 1) := by decide +kernel
theorem dX11_isOf_21 : decode cX11_isOf 21 = .ok (.goto 4, 3) := by decide +kernel
theorem dX11_isOf_24 : decode cX11_isOf 24 = .ok (.iconst 0, 1) := by decide +kernel
theorem dX11_isOf_25 : decode cX11_isOf 25 = .ok (.ireturn, 1) := by decide +kernel
theorem dX11_wedWith_0 : decode cX11_wedWith 0 = .ok (.iconst (-1), 1) := by decide +kernel
theorem dX11_wedWith_1 : decode cX11_wedWith 1 = .ok (.istore_n 3, 1) := by decide +kernel
theorem dX11_wedWith_2 : decode cX11_wedWith 2 = .ok (.iconst 0, 1) := by decide +kernel
theorem dX11_wedWith_3 : decode cX11_wedWith 3 = .ok (.istore 4, 2) := by decide +kernel
theorem dX11_wedWith_5 : decode cX11_wedWith 5 = .ok (.iload 4, 2) := by decide +kernel
theorem dX11_wedWith_7 : decode cX11_wedWith 7 = .ok (.aload_n 0, 1) := by decide +kernel
theorem dX11_wedWith_8 : decode cX11_wedWith 8 = .ok (.getfield 415, 3) := by decide +kernel
theorem dX11_wedWith_11 : decode cX11_wedWith 11 = .ok (.if_icmp .ge 64, 3) := by decide +kernel
theorem dX11_wedWith_14 : decode cX11_wedWith 14 = .ok (.iload 4, 2) := by decide +kernel
theorem dX11_wedWith_16 : decode cX11_wedWith 16 = .ok (.iload_n 2, 1) := by decide +kernel
theorem dX11_wedWith_17 : decode cX11_wedWith 17 = .ok (.if_icmp .eq 52, 3) := by decide +kernel
theorem dX11_wedWith_20 : decode cX11_wedWith 20 = .ok (.aload_n 0, 1) := by decide +kernel
theorem dX11_wedWith_21 : decode cX11_wedWith 21 = .ok (.iload 4, 2) := by decide +kernel
theorem dX11_wedWith_23 : decode cX11_wedWith 23 = .ok (.invokevirtual 446, 3) := by decide +kernel
theorem dX11_wedWith_26 : decode cX11_wedWith 26 = .ok (.iconst 1, 1) := by decide +kernel
theorem dX11_wedWith_27 : decode cX11_wedWith 27 = .ok (.if_icmp .ne 42, 3) := by decide +kernel
theorem dX11_wedWith_30 : decode cX11_wedWith 30 = .ok (.aload_n 0, 1) := by decide +kernel
theorem dX11_wedWith_31 : decode cX11_wedWith 31 = .ok (.iload 4, 2) := by decide +kernel
theorem dX11_wedWith_33 : decode cX11_wedWith 33 = .ok (.iload_n 1, 1) := by decide +kernel
theorem dX11_wedWith_34 : decode cX11_wedWith 34 = .ok (.invokevirtual 449, 3) := by decide +kernel
theorem dX11_wedWith_37 : decode cX11_wedWith 37 = .ok (.ifCond .eq 32, 3) := by decide +kernel
theorem dX11_wedWith_40 : decode cX11_wedWith 40 = .ok (.aload_n 0, 1) := by decide +kernel
theorem dX11_wedWith_41 : decode cX11_wedWith 41 = .ok (.getfield 81, 3) := by decide +kernel
theorem dX11_wedWith_44 : decode cX11_wedWith 44 = .ok (.iload 4, 2) := by decide +kernel
theorem dX11_wedWith_46 : decode cX11_wedWith 46 = .ok (.iaload, 1) := by decide +kernel
theorem dX11_wedWith_47 : decode cX11_wedWith 47 = .ok (.iload_n 1, 1) := by decide +kernel
theorem dX11_wedWith_48 : decode cX11_wedWith 48 = .ok (.if_icmp .ne 13, 3) := by decide +kernel
theorem dX11_wedWith_51 : decode cX11_wedWith 51 = .ok (.aload_n 0, 1) := by decide +kernel
theorem dX11_wedWith_52 : decode cX11_wedWith 52 = .ok (.getfield 84, 3) := by decide +kernel
theorem dX11_wedWith_55 : decode cX11_wedWith 55 = .ok (.iload 4, 2) := by decide +kernel
theorem dX11_wedWith_57 : decode cX11_wedWith 57 = .ok (.iaload, 1) := by decide +kernel
theorem dX11_wedWith_58 : decode cX11_wedWith 58 = .ok (.goto 10, 3) := by decide +kernel
theorem dX11_wedWith_61 : decode cX11_wedWith 61 = .ok (.aload_n 0, 1) := by decide +kernel
theorem dX11_wedWith_62 : decode cX11_wedWith 62 = .ok (.getfield 81, 3) := by decide +kernel
theorem dX11_wedWith_65 : decode cX11_wedWith 65 = .ok (.iload 4, 2) := by decide +kernel
theorem dX11_wedWith_67 : decode cX11_wedWith 67 = .ok (.iaload, 1) := by decide +kernel
theorem dX11_wedWith_68 : decode cX11_wedWith 68 = .ok (.istore_n 3, 1) := by decide +kernel
theorem dX11_wedWith_69 : decode cX11_wedWith 69 = .ok (.iinc 4 1, 3) := by decide +kernel
theorem dX11_wedWith_72 : decode cX11_wedWith 72 = .ok (.goto (-67), 3) := by decide +kernel
theorem dX11_wedWith_75 : decode cX11_wedWith 75 = .ok (.iload_n 3, 1) := by decide +kernel
theorem dX11_wedWith_76 : decode cX11_wedWith 76 = .ok (.ireturn, 1) := by decide +kernel
theorem dX11_areKin_0 : decode cX11_areKin 0 = .ok (.aload_n 0, 1) := by decide +kernel
theorem dX11_areKin_1 : decode cX11_areKin 1 = .ok (.iload_n 1, 1) := by decide +kernel
theorem dX11_areKin_2 : decode cX11_areKin 2 = .ok (.iload_n 2, 1) := by decide +kernel
theorem dX11_areKin_3 : decode cX11_areKin 3 = .ok (.invokevirtual 440, 3) := by decide +kernel
theorem dX11_areKin_6 : decode cX11_areKin 6 = .ok (.iconst 0, 1) := by decide +kernel
theorem dX11_areKin_7 : decode cX11_areKin 7 = .ok (.iload_n 3, 1) := by decide +kernel
theorem dX11_areKin_8 : decode cX11_areKin 8 = .ok (.invokestatic 433, 3) := by decide +kernel
theorem dX11_areKin_11 : decode cX11_areKin 11 = .ok (.ireturn, 1) := by decide +kernel
theorem dX11_barOf_0 : decode cX11_barOf 0 = .ok (.aload_n 0, 1) := by decide +kernel
theorem dX11_barOf_1 : decode cX11_barOf 1 = .ok (.getfield 81, 3) := by decide +kernel
theorem dX11_barOf_4 : decode cX11_barOf 4 = .ok (.iload_n 1, 1) := by decide +kernel
theorem dX11_barOf_5 : decode cX11_barOf 5 = .ok (.iaload, 1) := by decide +kernel
theorem dX11_barOf_6 : decode cX11_barOf 6 = .ok (.istore_n 2, 1) := by decide +kernel
theorem dX11_barOf_7 : decode cX11_barOf 7 = .ok (.aload_n 0, 1) := by decide +kernel
theorem dX11_barOf_8 : decode cX11_barOf 8 = .ok (.getfield 84, 3) := by decide +kernel
theorem dX11_barOf_11 : decode cX11_barOf 11 = .ok (.iload_n 1, 1) := by decide +kernel
theorem dX11_barOf_12 : decode cX11_barOf 12 = .ok (.iaload, 1) := by decide +kernel
theorem dX11_barOf_13 : decode cX11_barOf 13 = .ok (.istore_n 3, 1) := by decide +kernel
theorem dX11_barOf_14 : decode cX11_barOf 14 = .ok (.aload_n 0, 1) := by decide +kernel
theorem dX11_barOf_15 : decode cX11_barOf 15 = .ok (.iload_n 2, 1) := by decide +kernel
theorem dX11_barOf_16 : decode cX11_barOf 16 = .ok (.iload_n 3, 1) := by decide +kernel
theorem dX11_barOf_17 : decode cX11_barOf 17 = .ok (.aload_n 0, 1) := by decide +kernel
theorem dX11_barOf_18 : decode cX11_barOf 18 = .ok (.getfield 94, 3) := by decide +kernel
theorem dX11_barOf_21 : decode cX11_barOf 21 = .ok (.invokevirtual 452, 3) := by decide +kernel
theorem dX11_barOf_24 : decode cX11_barOf 24 = .ok (.ifCond .eq 5, 3) := by decide +kernel
theorem dX11_barOf_27 : decode cX11_barOf 27 = .ok (.iconst 1, 1) := by decide +kernel
theorem dX11_barOf_28 : decode cX11_barOf 28 = .ok (.ireturn, 1) := by decide +kernel
theorem dX11_barOf_29 : decode cX11_barOf 29 = .ok (.aload_n 0, 1) := by decide +kernel
theorem dX11_barOf_30 : decode cX11_barOf 30 = .ok (.getfield 91, 3) := by decide +kernel
theorem dX11_barOf_33 : decode cX11_barOf 33 = .ok (.iload_n 2, 1) := by decide +kernel
theorem dX11_barOf_34 : decode cX11_barOf 34 = .ok (.baload, 1) := by decide +kernel
theorem dX11_barOf_35 : decode cX11_barOf 35 = .ok (.ifCond .ne 12, 3) := by decide +kernel
theorem dX11_barOf_38 : decode cX11_barOf 38 = .ok (.aload_n 0, 1) := by decide +kernel
theorem dX11_barOf_39 : decode cX11_barOf 39 = .ok (.getfield 91, 3) := by decide +kernel
theorem dX11_barOf_42 : decode cX11_barOf 42 = .ok (.iload_n 3, 1) := by decide +kernel
theorem dX11_barOf_43 : decode cX11_barOf 43 = .ok (.baload, 1) := by decide +kernel
theorem dX11_barOf_44 : decode cX11_barOf 44 = .ok (.ifCond .eq 5, 3) := by decide +kernel
theorem dX11_barOf_47 : decode cX11_barOf 47 = .ok (.iconst 2, 1) := by decide +kernel
theorem dX11_barOf_48 : decode cX11_barOf 48 = .ok (.ireturn, 1) := by decide +kernel
theorem dX11_barOf_49 : decode cX11_barOf 49 = .ok (.aload_n 0, 1) := by decide +kernel
theorem dX11_barOf_50 : decode cX11_barOf 50 = .ok (.iload_n 2, 1) := by decide +kernel
theorem dX11_barOf_51 : decode cX11_barOf 51 = .ok (.iload_n 1, 1) := by decide +kernel
theorem dX11_barOf_52 : decode cX11_barOf 52 = .ok (.invokevirtual 455, 3) := by decide +kernel
theorem dX11_barOf_55 : decode cX11_barOf 55 = .ok (.ifCond .ge 12, 3) := by decide +kernel
theorem dX11_barOf_58 : decode cX11_barOf 58 = .ok (.aload_n 0, 1) := by decide +kernel
theorem dX11_barOf_59 : decode cX11_barOf 59 = .ok (.iload_n 3, 1) := by decide +kernel
theorem dX11_barOf_60 : decode cX11_barOf 60 = .ok (.iload_n 1, 1) := by decide +kernel
theorem dX11_barOf_61 : decode cX11_barOf 61 = .ok (.invokevirtual 455, 3) := by decide +kernel
theorem dX11_barOf_64 : decode cX11_barOf 64 = .ok (.ifCond .lt 7, 3) := by decide +kernel
theorem dX11_barOf_67 : decode cX11_barOf 67 = .ok (.iconst 3, 1) := by decide +kernel
theorem dX11_barOf_68 : decode cX11_barOf 68 = .ok (.goto 4, 3) := by decide +kernel
theorem dX11_barOf_71 : decode cX11_barOf 71 = .ok (.iconst 0, 1) := by decide +kernel
theorem dX11_barOf_72 : decode cX11_barOf 72 = .ok (.ireturn, 1) := by decide +kernel
theorem dX11_wouldRise_0 : decode cX11_wouldRise 0 = .ok (.iconst 1, 1) := by decide +kernel
theorem dX11_wouldRise_1 : decode cX11_wouldRise 1 = .ok (.aload_n 0, 1) := by decide +kernel
theorem dX11_wouldRise_2 : decode cX11_wouldRise 2 = .ok (.getfield 81, 3) := by decide +kernel
theorem dX11_wouldRise_5 : decode cX11_wouldRise 5 = .ok (.iload_n 2, 1) := by decide +kernel
theorem dX11_wouldRise_6 : decode cX11_wouldRise 6 = .ok (.iaload, 1) := by decide +kernel
theorem dX11_wouldRise_7 : decode cX11_wouldRise 7 = .ok (.ishl, 1) := by decide +kernel
theorem dX11_wouldRise_8 : decode cX11_wouldRise 8 = .ok (.iconst 1, 1) := by decide +kernel
theorem dX11_wouldRise_9 : decode cX11_wouldRise 9 = .ok (.aload_n 0, 1) := by decide +kernel
theorem dX11_wouldRise_10 : decode cX11_wouldRise 10 = .ok (.getfield 84, 3) := by decide +kernel
theorem dX11_wouldRise_13 : decode cX11_wouldRise 13 = .ok (.iload_n 2, 1) := by decide +kernel
theorem dX11_wouldRise_14 : decode cX11_wouldRise 14 = .ok (.iaload, 1) := by decide +kernel
theorem dX11_wouldRise_15 : decode cX11_wouldRise 15 = .ok (.ishl, 1) := by decide +kernel
theorem dX11_wouldRise_16 : decode cX11_wouldRise 16 = .ok (.ior, 1) := by decide +kernel
theorem dX11_wouldRise_17 : decode cX11_wouldRise 17 = .ok (.istore_n 3, 1) := by decide +kernel
theorem dX11_wouldRise_18 : decode cX11_wouldRise 18 = .ok (.aload_n 0, 1) := by decide +kernel
theorem dX11_wouldRise_19 : decode cX11_wouldRise 19 = .ok (.iload_n 2, 1) := by decide +kernel
theorem dX11_wouldRise_20 : decode cX11_wouldRise 20 = .ok (.iload_n 1, 1) := by decide +kernel
theorem dX11_wouldRise_21 : decode cX11_wouldRise 21 = .ok (.invokevirtual 449, 3) := by decide +kernel
theorem dX11_wouldRise_24 : decode cX11_wouldRise 24 = .ok (.ifCond .ne 36, 3) := by decide +kernel
theorem dX11_wouldRise_27 : decode cX11_wouldRise 27 = .ok (.aload_n 0, 1) := by decide +kernel
theorem dX11_wouldRise_28 : decode cX11_wouldRise 28 = .ok (.getfield 78, 3) := by decide +kernel
theorem dX11_wouldRise_31 : decode cX11_wouldRise 31 = .ok (.iload_n 1, 1) := by decide +kernel
theorem dX11_wouldRise_32 : decode cX11_wouldRise 32 = .ok (.iaload, 1) := by decide +kernel
theorem dX11_wouldRise_33 : decode cX11_wouldRise 33 = .ok (.iload_n 3, 1) := by decide +kernel
theorem dX11_wouldRise_34 : decode cX11_wouldRise 34 = .ok (.iand, 1) := by decide +kernel
theorem dX11_wouldRise_35 : decode cX11_wouldRise 35 = .ok (.ifCond .ne 21, 3) := by decide +kernel
theorem dX11_wouldRise_38 : decode cX11_wouldRise 38 = .ok (.aload_n 0, 1) := by decide +kernel
theorem dX11_wouldRise_39 : decode cX11_wouldRise 39 = .ok (.iload_n 2, 1) := by decide +kernel
theorem dX11_wouldRise_40 : decode cX11_wouldRise 40 = .ok (.invokevirtual 458, 3) := by decide +kernel
theorem dX11_wouldRise_43 : decode cX11_wouldRise 43 = .ok (.ifCond .le 17, 3) := by decide +kernel
theorem dX11_wouldRise_46 : decode cX11_wouldRise 46 = .ok (.aload_n 0, 1) := by decide +kernel
theorem dX11_wouldRise_47 : decode cX11_wouldRise 47 = .ok (.iload_n 1, 1) := by decide +kernel
theorem dX11_wouldRise_48 : decode cX11_wouldRise 48 = .ok (.invokevirtual 461, 3) := by decide +kernel
theorem dX11_wouldRise_51 : decode cX11_wouldRise 51 = .ok (.iload_n 3, 1) := by decide +kernel
theorem dX11_wouldRise_52 : decode cX11_wouldRise 52 = .ok (.iand, 1) := by decide +kernel
theorem dX11_wouldRise_53 : decode cX11_wouldRise 53 = .ok (.ifCond .eq 7, 3) := by decide +kernel
theorem dX11_wouldRise_56 : decode cX11_wouldRise 56 = .ok (.iconst 1, 1) := by decide +kernel
theorem dX11_wouldRise_57 : decode cX11_wouldRise 57 = .ok (.goto 4, 3) := by decide +kernel
theorem dX11_wouldRise_60 : decode cX11_wouldRise 60 = .ok (.iconst 0, 1) := by decide +kernel
theorem dX11_wouldRise_61 : decode cX11_wouldRise 61 = .ok (.ireturn, 1) := by decide +kernel
theorem dX11_risersOf_0 : decode cX11_risersOf 0 = .ok (.iconst 0, 1) := by decide +kernel
theorem dX11_risersOf_1 : decode cX11_risersOf 1 = .ok (.istore_n 2, 1) := by decide +kernel
theorem dX11_risersOf_2 : decode cX11_risersOf 2 = .ok (.iconst 0, 1) := by decide +kernel
theorem dX11_risersOf_3 : decode cX11_risersOf 3 = .ok (.istore_n 3, 1) := by decide +kernel
theorem dX11_risersOf_4 : decode cX11_risersOf 4 = .ok (.iload_n 3, 1) := by decide +kernel
theorem dX11_risersOf_5 : decode cX11_risersOf 5 = .ok (.aload_n 0, 1) := by decide +kernel
theorem dX11_risersOf_6 : decode cX11_risersOf 6 = .ok (.getfield 412, 3) := by decide +kernel
theorem dX11_risersOf_9 : decode cX11_risersOf 9 = .ok (.if_icmp .ge 23, 3) := by decide +kernel
theorem dX11_risersOf_12 : decode cX11_risersOf 12 = .ok (.iload_n 2, 1) := by decide +kernel
theorem dX11_risersOf_13 : decode cX11_risersOf 13 = .ok (.aload_n 0, 1) := by decide +kernel
theorem dX11_risersOf_14 : decode cX11_risersOf 14 = .ok (.iload_n 3, 1) := by decide +kernel
theorem dX11_risersOf_15 : decode cX11_risersOf 15 = .ok (.iload_n 1, 1) := by decide +kernel
theorem dX11_risersOf_16 : decode cX11_risersOf 16 = .ok (.invokevirtual 464, 3) := by decide +kernel
theorem dX11_risersOf_19 : decode cX11_risersOf 19 = .ok (.invokestatic 320, 3) := by decide +kernel
theorem dX11_risersOf_22 : decode cX11_risersOf 22 = .ok (.iload_n 3, 1) := by decide +kernel
theorem dX11_risersOf_23 : decode cX11_risersOf 23 = .ok (.ishl, 1) := by decide +kernel
theorem dX11_risersOf_24 : decode cX11_risersOf 24 = .ok (.ior, 1) := by decide +kernel
theorem dX11_risersOf_25 : decode cX11_risersOf 25 = .ok (.istore_n 2, 1) := by decide +kernel
theorem dX11_risersOf_26 : decode cX11_risersOf 26 = .ok (.iinc 3 1, 3) := by decide +kernel
theorem dX11_risersOf_29 : decode cX11_risersOf 29 = .ok (.goto (-25), 3) := by decide +kernel
theorem dX11_risersOf_32 : decode cX11_risersOf 32 = .ok (.iload_n 2, 1) := by decide +kernel
theorem dX11_risersOf_33 : decode cX11_risersOf 33 = .ok (.ireturn, 1) := by decide +kernel
theorem dX11_isAwayOn_0 : decode cX11_isAwayOn 0 = .ok (.aload_n 0, 1) := by decide +kernel
theorem dX11_isAwayOn_1 : decode cX11_isAwayOn 1 = .ok (.getfield 72, 3) := by decide +kernel
theorem dX11_isAwayOn_4 : decode cX11_isAwayOn 4 = .ok (.iload_n 1, 1) := by decide +kernel
theorem dX11_isAwayOn_5 : decode cX11_isAwayOn 5 = .ok (.iaload, 1) := by decide +kernel
theorem dX11_isAwayOn_6 : decode cX11_isAwayOn 6 = .ok (.ifCond .le 17, 3) := by decide +kernel
theorem dX11_isAwayOn_9 : decode cX11_isAwayOn 9 = .ok (.iload_n 2, 1) := by decide +kernel
theorem dX11_isAwayOn_10 : decode cX11_isAwayOn 10 = .ok (.aload_n 0, 1) := by decide +kernel
theorem dX11_isAwayOn_11 : decode cX11_isAwayOn 11 = .ok (.getfield 72, 3) := by decide +kernel
theorem dX11_isAwayOn_14 : decode cX11_isAwayOn 14 = .ok (.iload_n 1, 1) := by decide +kernel
theorem dX11_isAwayOn_15 : decode cX11_isAwayOn 15 = .ok (.iaload, 1) := by decide +kernel
theorem dX11_isAwayOn_16 : decode cX11_isAwayOn 16 = .ok (.if_icmp .lt 7, 3) := by decide +kernel
theorem dX11_isAwayOn_19 : decode cX11_isAwayOn 19 = .ok (.iconst 1, 1) := by decide +kernel
theorem dX11_isAwayOn_20 : decode cX11_isAwayOn 20 = .ok (.goto 4, 3) := by decide +kernel
theorem dX11_isAwayOn_23 : decode cX11_isAwayOn 23 = .ok (.iconst 0, 1) := by decide +kernel
theorem dX11_isAwayOn_24 : decode cX11_isAwayOn 24 = .ok (.ireturn, 1) := by decide +kernel
theorem dX11_nextSunday_0 : decode cX11_nextSunday 0 = .ok (.aload_n 0, 1) := by decide +kernel
theorem dX11_nextSunday_1 : decode cX11_nextSunday 1 = .ok (.getfield 106, 3) := by decide +kernel
theorem dX11_nextSunday_4 : decode cX11_nextSunday 4 = .ok (.bipush 28, 2) := by decide +kernel
theorem dX11_nextSunday_6 : decode cX11_nextSunday 6 = .ok (.iaload, 1) := by decide +kernel
theorem dX11_nextSunday_7 : decode cX11_nextSunday 7 = .ok (.iconst 1, 1) := by decide +kernel
theorem dX11_nextSunday_8 : decode cX11_nextSunday 8 = .ok (.iadd, 1) := by decide +kernel
theorem dX11_nextSunday_9 : decode cX11_nextSunday 9 = .ok (.ireturn, 1) := by decide +kernel
theorem dX11_isAway_0 : decode cX11_isAway 0 = .ok (.aload_n 0, 1) := by decide +kernel
theorem dX11_isAway_1 : decode cX11_isAway 1 = .ok (.iload_n 1, 1) := by decide +kernel
theorem dX11_isAway_2 : decode cX11_isAway 2 = .ok (.aload_n 0, 1) := by decide +kernel
theorem dX11_isAway_3 : decode cX11_isAway 3 = .ok (.invokevirtual 467, 3) := by decide +kernel
theorem dX11_isAway_6 : decode cX11_isAway 6 = .ok (.invokevirtual 470, 3) := by decide +kernel
theorem dX11_isAway_9 : decode cX11_isAway 9 = .ok (.ireturn, 1) := by decide +kernel
theorem dX11_isAt_0 : decode cX11_isAt 0 = .ok (.aload_n 0, 1) := by decide +kernel
theorem dX11_isAt_1 : decode cX11_isAt 1 = .ok (.getfield 106, 3) := by decide +kernel
theorem dX11_isAt_4 : decode cX11_isAt 4 = .ok (.bipush 18, 2) := by decide +kernel
theorem dX11_isAt_6 : decode cX11_isAt 6 = .ok (.iload_n 1, 1) := by decide +kernel
theorem dX11_isAt_7 : decode cX11_isAt 7 = .ok (.iadd, 1) := by decide +kernel
theorem dX11_isAt_8 : decode cX11_isAt 8 = .ok (.iaload, 1) := by decide +kernel
theorem dX11_isAt_9 : decode cX11_isAt 9 = .ok (.iload_n 2, 1) := by decide +kernel
theorem dX11_isAt_10 : decode cX11_isAt 10 = .ok (.if_icmp .eq 16, 3) := by decide +kernel
theorem dX11_isAt_13 : decode cX11_isAt 13 = .ok (.aload_n 0, 1) := by decide +kernel
theorem dX11_isAt_14 : decode cX11_isAt 14 = .ok (.getfield 106, 3) := by decide +kernel
theorem dX11_isAt_17 : decode cX11_isAt 17 = .ok (.bipush 23, 2) := by decide +kernel
theorem dX11_isAt_19 : decode cX11_isAt 19 = .ok (.iload_n 1, 1) := by decide +kernel
theorem dX11_isAt_20 : decode cX11_isAt 20 = .ok (.iadd, 1) := by decide +kernel
theorem dX11_isAt_21 : decode cX11_isAt 21 = .ok (.iaload, 1) := by decide +kernel
theorem dX11_isAt_22 : decode cX11_isAt 22 = .ok (.iload_n 2, 1) := by decide +kernel
theorem dX11_isAt_23 : decode cX11_isAt 23 = .ok (.if_icmp .ne 7, 3) := by decide +kernel
theorem dX11_isAt_26 : decode cX11_isAt 26 = .ok (.iconst 1, 1) := by decide +kernel
theorem dX11_isAt_27 : decode cX11_isAt 27 = .ok (.goto 4, 3) := by decide +kernel
theorem dX11_isAt_30 : decode cX11_isAt 30 = .ok (.iconst 0, 1) := by decide +kernel
theorem dX11_isAt_31 : decode cX11_isAt 31 = .ok (.ireturn, 1) := by decide +kernel
theorem dX11_layRead_0 : decode cX11_layRead 0 = .ok (.aload_n 0, 1) := by decide +kernel
theorem dX11_layRead_1 : decode cX11_layRead 1 = .ok (.iconst 0, 1) := by decide +kernel
theorem dX11_layRead_2 : decode cX11_layRead 2 = .ok (.putfield 473, 3) := by decide +kernel
theorem dX11_layRead_5 : decode cX11_layRead 5 = .ok (.iconst 0, 1) := by decide +kernel
theorem dX11_layRead_6 : decode cX11_layRead 6 = .ok (.istore_n 1, 1) := by decide +kernel
theorem dX11_layRead_7 : decode cX11_layRead 7 = .ok (.iload_n 1, 1) := by decide +kernel
theorem dX11_layRead_8 : decode cX11_layRead 8 = .ok (.iconst 4, 1) := by decide +kernel
theorem dX11_layRead_9 : decode cX11_layRead 9 = .ok (.if_icmp .ge 16, 3) := by decide +kernel
theorem dX11_layRead_12 : decode cX11_layRead 12 = .ok (.aload_n 0, 1) := by decide +kernel
theorem dX11_layRead_13 : decode cX11_layRead 13 = .ok (.getfield 109, 3) := by decide +kernel
theorem dX11_layRead_16 : decode cX11_layRead 16 = .ok (.iload_n 1, 1) := by decide +kernel
theorem dX11_layRead_17 : decode cX11_layRead 17 = .ok (.iconst 0, 1) := by decide +kernel
theorem dX11_layRead_18 : decode cX11_layRead 18 = .ok (.iastore, 1) := by decide +kernel
theorem dX11_layRead_19 : decode cX11_layRead 19 = .ok (.iinc 1 1, 3) := by decide +kernel
theorem dX11_layRead_22 : decode cX11_layRead 22 = .ok (.goto (-15), 3) := by decide +kernel
theorem dX11_layRead_25 : decode cX11_layRead 25 = .ok (.iconst 0, 1) := by decide +kernel
theorem dX11_layRead_26 : decode cX11_layRead 26 = .ok (.istore_n 1, 1) := by decide +kernel
theorem dX11_layRead_27 : decode cX11_layRead 27 = .ok (.iload_n 1, 1) := by decide +kernel
theorem dX11_layRead_28 : decode cX11_layRead 28 = .ok (.aload_n 0, 1) := by decide +kernel
theorem dX11_layRead_29 : decode cX11_layRead 29 = .ok (.getfield 415, 3) := by decide +kernel
theorem dX11_layRead_32 : decode cX11_layRead 32 = .ok (.if_icmp .ge 129, 3) := by decide +kernel
theorem dX11_layRead_35 : decode cX11_layRead 35 = .ok (.aload_n 0, 1) := by decide +kernel
theorem dX11_layRead_36 : decode cX11_layRead 36 = .ok (.getfield 106, 3) := by decide +kernel
theorem dX11_layRead_39 : decode cX11_layRead 39 = .ok (.bipush 18, 2) := by decide +kernel
theorem dX11_layRead_41 : decode cX11_layRead 41 = .ok (.iload_n 1, 1) := by decide +kernel
theorem dX11_layRead_42 : decode cX11_layRead 42 = .ok (.iadd, 1) := by decide +kernel
theorem dX11_layRead_43 : decode cX11_layRead 43 = .ok (.iaload, 1) := by decide +kernel
theorem dX11_layRead_44 : decode cX11_layRead 44 = .ok (.istore_n 2, 1) := by decide +kernel
theorem dX11_layRead_45 : decode cX11_layRead 45 = .ok (.aload_n 0, 1) := by decide +kernel
theorem dX11_layRead_46 : decode cX11_layRead 46 = .ok (.getfield 106, 3) := by decide +kernel
theorem dX11_layRead_49 : decode cX11_layRead 49 = .ok (.bipush 23, 2) := by decide +kernel
theorem dX11_layRead_51 : decode cX11_layRead 51 = .ok (.iload_n 1, 1) := by decide +kernel
theorem dX11_layRead_52 : decode cX11_layRead 52 = .ok (.iadd, 1) := by decide +kernel
theorem dX11_layRead_53 : decode cX11_layRead 53 = .ok (.iaload, 1) := by decide +kernel
theorem dX11_layRead_54 : decode cX11_layRead 54 = .ok (.istore_n 3, 1) := by decide +kernel
theorem dX11_layRead_55 : decode cX11_layRead 55 = .ok (.aload_n 0, 1) := by decide +kernel
theorem dX11_layRead_56 : decode cX11_layRead 56 = .ok (.iload_n 1, 1) := by decide +kernel
theorem dX11_layRead_57 : decode cX11_layRead 57 = .ok (.invokevirtual 446, 3) := by decide +kernel
theorem dX11_layRead_60 : decode cX11_layRead 60 = .ok (.ifCond .ne 95, 3) := by decide +kernel
theorem dX11_layRead_63 : decode cX11_layRead 63 = .ok (.aload_n 0, 1) := by decide +kernel
theorem dX11_layRead_64 : decode cX11_layRead 64 = .ok (.aload_n 0, 1) := by decide +kernel
theorem dX11_layRead_65 : decode cX11_layRead 65 = .ok (.getfield 81, 3) := by decide +kernel
theorem dX11_layRead_68 : decode cX11_layRead 68 = .ok (.iload_n 1, 1) := by decide +kernel
theorem dX11_layRead_69 : decode cX11_layRead 69 = .ok (.iaload, 1) := by decide +kernel
theorem dX11_layRead_70 : decode cX11_layRead 70 = .ok (.invokevirtual 476, 3) := by decide +kernel
theorem dX11_layRead_73 : decode cX11_layRead 73 = .ok (.ifCond .ne 82, 3) := by decide +kernel
theorem dX11_layRead_76 : decode cX11_layRead 76 = .ok (.aload_n 0, 1) := by decide +kernel
theorem dX11_layRead_77 : decode cX11_layRead 77 = .ok (.aload_n 0, 1) := by decide +kernel
theorem dX11_layRead_78 : decode cX11_layRead 78 = .ok (.getfield 84, 3) := by decide +kernel
theorem dX11_layRead_81 : decode cX11_layRead 81 = .ok (.iload_n 1, 1) := by decide +kernel
theorem dX11_layRead_82 : decode cX11_layRead 82 = .ok (.iaload, 1) := by decide +kernel
theorem dX11_layRead_83 : decode cX11_layRead 83 = .ok (.invokevirtual 476, 3) := by decide +kernel
theorem dX11_layRead_86 : decode cX11_layRead 86 = .ok (.ifCond .ne 69, 3) := by decide +kernel
theorem dX11_layRead_89 : decode cX11_layRead 89 = .ok (.aload_n 0, 1) := by decide +kernel
theorem dX11_layRead_90 : decode cX11_layRead 90 = .ok (.getfield 109, 3) := by decide +kernel
theorem dX11_layRead_93 : decode cX11_layRead 93 = .ok (.iload_n 2, 1) := by decide +kernel
theorem dX11_layRead_94 : decode cX11_layRead 94 = .ok (.iaload, 1) := by decide +kernel
theorem dX11_layRead_95 : decode cX11_layRead 95 = .ok (.aload_n 0, 1) := by decide +kernel
theorem dX11_layRead_96 : decode cX11_layRead 96 = .ok (.getfield 97, 3) := by decide +kernel
theorem dX11_layRead_99 : decode cX11_layRead 99 = .ok (.if_icmp .ge 56, 3) := by decide +kernel
theorem dX11_layRead_102 : decode cX11_layRead 102 = .ok (.aload_n 0, 1) := by decide +kernel
theorem dX11_layRead_103 : decode cX11_layRead 103 = .ok (.getfield 109, 3) := by decide +kernel
theorem dX11_layRead_106 : decode cX11_layRead 106 = .ok (.iload_n 3, 1) := by decide +kernel
theorem dX11_layRead_107 : decode cX11_layRead 107 = .ok (.iaload, 1) := by decide +kernel
theorem dX11_layRead_108 : decode cX11_layRead 108 = .ok (.aload_n 0, 1) := by decide +kernel
theorem dX11_layRead_109 : decode cX11_layRead 109 = .ok (.getfield 97, 3) := by decide +kernel
theorem dX11_layRead_112 : decode cX11_layRead 112 = .ok (.if_icmp .lt 6, 3) := by decide +kernel
theorem dX11_layRead_115 : decode cX11_layRead 115 = .ok (.goto 40, 3) := by decide +kernel
theorem dX11_layRead_118 : decode cX11_layRead 118 = .ok (.aload_n 0, 1) := by decide +kernel
theorem dX11_layRead_119 : decode cX11_layRead 119 = .ok (.dup, 1) := by decide +kernel
theorem dX11_layRead_120 : decode cX11_layRead 120 = .ok (.getfield 473, 3) := by decide +kernel
theorem dX11_layRead_123 : decode cX11_layRead 123 = .ok (.iconst 1, 1) := by decide +kernel
theorem dX11_layRead_124 : decode cX11_layRead 124 = .ok (.iload_n 1, 1) := by decide +kernel
theorem dX11_layRead_125 : decode cX11_layRead 125 = .ok (.ishl, 1) := by decide +kernel
theorem dX11_layRead_126 : decode cX11_layRead 126 = .ok (.ior, 1) := by decide +kernel
theorem dX11_layRead_127 : decode cX11_layRead 127 = .ok (.putfield 473, 3) := by decide +kernel
theorem dX11_layRead_130 : decode cX11_layRead 130 = .ok (.aload_n 0, 1) := by decide +kernel
theorem dX11_layRead_131 : decode cX11_layRead 131 = .ok (.getfield 109, 3) := by decide +kernel
theorem dX11_layRead_134 : decode cX11_layRead 134 = .ok (.iload_n 2, 1) := by decide +kernel
theorem dX11_layRead_135 : decode cX11_layRead 135 = .ok (.dup2, 1) := by decide +kernel
theorem dX11_layRead_136 : decode cX11_layRead 136 = .ok (.iaload, 1) := by decide +kernel
theorem dX11_layRead_137 : decode cX11_layRead 137 = .ok (.iconst 1, 1) := by decide +kernel
theorem dX11_layRead_138 : decode cX11_layRead 138 = .ok (.iadd, 1) := by decide +kernel
theorem dX11_layRead_139 : decode cX11_layRead 139 = .ok (.iastore, 1) := by decide +kernel
theorem dX11_layRead_140 : decode cX11_layRead 140 = .ok (.iload_n 2, 1) := by decide +kernel
theorem dX11_layRead_141 : decode cX11_layRead 141 = .ok (.iload_n 3, 1) := by decide +kernel
theorem dX11_layRead_142 : decode cX11_layRead 142 = .ok (.if_icmp .eq 13, 3) := by decide +kernel
theorem dX11_layRead_145 : decode cX11_layRead 145 = .ok (.aload_n 0, 1) := by decide +kernel
theorem dX11_layRead_146 : decode cX11_layRead 146 = .ok (.getfield 109, 3) := by decide +kernel
theorem dX11_layRead_149 : decode cX11_layRead 149 = .ok (.iload_n 3, 1) := by decide +kernel
theorem dX11_layRead_150 : decode cX11_layRead 150 = .ok (.dup2, 1) := by decide +kernel
theorem dX11_layRead_151 : decode cX11_layRead 151 = .ok (.iaload, 1) := by decide +kernel
theorem dX11_layRead_152 : decode cX11_layRead 152 = .ok (.iconst 1, 1) := by decide +kernel
theorem dX11_layRead_153 : decode cX11_layRead 153 = .ok (.iadd, 1) := by decide +kernel
theorem dX11_layRead_154 : decode cX11_layRead 154 = .ok (.iastore, 1) := by decide +kernel
theorem dX11_layRead_155 : decode cX11_layRead 155 = .ok (.iinc 1 1, 3) := by decide +kernel
theorem dX11_layRead_158 : decode cX11_layRead 158 = .ok (.goto (-131), 3) := by decide +kernel
theorem dX11_layRead_161 : decode cX11_layRead 161 = .ok (.return_, 1) := by decide +kernel
theorem dX11_seatedIn_0 : decode cX11_seatedIn 0 = .ok (.iconst 0, 1) := by decide +kernel
theorem dX11_seatedIn_1 : decode cX11_seatedIn 1 = .ok (.istore_n 2, 1) := by decide +kernel
theorem dX11_seatedIn_2 : decode cX11_seatedIn 2 = .ok (.iconst 0, 1) := by decide +kernel
theorem dX11_seatedIn_3 : decode cX11_seatedIn 3 = .ok (.istore_n 3, 1) := by decide +kernel
theorem dX11_seatedIn_4 : decode cX11_seatedIn 4 = .ok (.iload_n 3, 1) := by decide +kernel
theorem dX11_seatedIn_5 : decode cX11_seatedIn 5 = .ok (.aload_n 0, 1) := by decide +kernel
theorem dX11_seatedIn_6 : decode cX11_seatedIn 6 = .ok (.getfield 412, 3) := by decide +kernel
theorem dX11_seatedIn_9 : decode cX11_seatedIn 9 = .ok (.if_icmp .ge 38, 3) := by decide +kernel
theorem dX11_seatedIn_12 : decode cX11_seatedIn 12 = .ok (.iload_n 2, 1) := by decide +kernel
theorem dX11_seatedIn_13 : decode cX11_seatedIn 13 = .ok (.aload_n 0, 1) := by decide +kernel
theorem dX11_seatedIn_14 : decode cX11_seatedIn 14 = .ok (.getfield 106, 3) := by decide +kernel
theorem dX11_seatedIn_17 : decode cX11_seatedIn 17 = .ok (.iload_n 3, 1) := by decide +kernel
theorem dX11_seatedIn_18 : decode cX11_seatedIn 18 = .ok (.iaload, 1) := by decide +kernel
theorem dX11_seatedIn_19 : decode cX11_seatedIn 19 = .ok (.iload_n 1, 1) := by decide +kernel
theorem dX11_seatedIn_20 : decode cX11_seatedIn 20 = .ok (.if_icmp .ne 15, 3) := by decide +kernel
theorem dX11_seatedIn_23 : decode cX11_seatedIn 23 = .ok (.aload_n 0, 1) := by decide +kernel
theorem dX11_seatedIn_24 : decode cX11_seatedIn 24 = .ok (.iload_n 3, 1) := by decide +kernel
theorem dX11_seatedIn_25 : decode cX11_seatedIn 25 = .ok (.invokevirtual 476, 3) := by decide +kernel
theorem dX11_seatedIn_28 : decode cX11_seatedIn 28 = .ok (.ifCond .ne 7, 3) := by decide +kernel
theorem dX11_seatedIn_31 : decode cX11_seatedIn 31 = .ok (.iconst 1, 1) := by decide +kernel
theorem dX11_seatedIn_32 : decode cX11_seatedIn 32 = .ok (.goto 4, 3) := by decide +kernel
theorem dX11_seatedIn_35 : decode cX11_seatedIn 35 = .ok (.iconst 0, 1) := by decide +kernel
theorem dX11_seatedIn_36 : decode cX11_seatedIn 36 = .ok (.invokestatic 320, 3) := by decide +kernel
theorem dX11_seatedIn_39 : decode cX11_seatedIn 39 = .ok (.iadd, 1) := by decide +kernel
theorem dX11_seatedIn_40 : decode cX11_seatedIn 40 = .ok (.istore_n 2, 1) := by decide +kernel
theorem dX11_seatedIn_41 : decode cX11_seatedIn 41 = .ok (.iinc 3 1, 3) := by decide +kernel
theorem dX11_seatedIn_44 : decode cX11_seatedIn 44 = .ok (.goto (-40), 3) := by decide +kernel
theorem dX11_seatedIn_47 : decode cX11_seatedIn 47 = .ok (.iload_n 2, 1) := by decide +kernel
theorem dX11_seatedIn_48 : decode cX11_seatedIn 48 = .ok (.ireturn, 1) := by decide +kernel
theorem dX11_hearingOf_0 : decode cX11_hearingOf 0 = .ok (.aload_n 0, 1) := by decide +kernel
theorem dX11_hearingOf_1 : decode cX11_hearingOf 1 = .ok (.getfield 39, 3) := by decide +kernel
theorem dX11_hearingOf_4 : decode cX11_hearingOf 4 = .ok (.iconst 0, 1) := by decide +kernel
theorem dX11_hearingOf_5 : decode cX11_hearingOf 5 = .ok (.aload_n 0, 1) := by decide +kernel
theorem dX11_hearingOf_6 : decode cX11_hearingOf 6 = .ok (.invokevirtual 467, 3) := by decide +kernel
theorem dX11_hearingOf_9 : decode cX11_hearingOf 9 = .ok (.iastore, 1) := by decide +kernel
theorem dX11_hearingOf_10 : decode cX11_hearingOf 10 = .ok (.aload_n 0, 1) := by decide +kernel
theorem dX11_hearingOf_11 : decode cX11_hearingOf 11 = .ok (.getfield 39, 3) := by decide +kernel
theorem dX11_hearingOf_14 : decode cX11_hearingOf 14 = .ok (.iconst 1, 1) := by decide +kernel
theorem dX11_hearingOf_15 : decode cX11_hearingOf 15 = .ok (.aload_n 0, 1) := by decide +kernel
theorem dX11_hearingOf_16 : decode cX11_hearingOf 16 = .ok (.getfield 109, 3) := by decide +kernel
theorem dX11_hearingOf_19 : decode cX11_hearingOf 19 = .ok (.aload_n 0, 1) := by decide +kernel
theorem dX11_hearingOf_20 : decode cX11_hearingOf 20 = .ok (.getfield 106, 3) := by decide +kernel
theorem dX11_hearingOf_23 : decode cX11_hearingOf 23 = .ok (.iload_n 1, 1) := by decide +kernel
theorem dX11_hearingOf_24 : decode cX11_hearingOf 24 = .ok (.iaload, 1) := by decide +kernel
theorem dX11_hearingOf_25 : decode cX11_hearingOf 25 = .ok (.iaload, 1) := by decide +kernel
theorem dX11_hearingOf_26 : decode cX11_hearingOf 26 = .ok (.iastore, 1) := by decide +kernel
theorem dX11_hearingOf_27 : decode cX11_hearingOf 27 = .ok (.aload_n 0, 1) := by decide +kernel
theorem dX11_hearingOf_28 : decode cX11_hearingOf 28 = .ok (.getfield 39, 3) := by decide +kernel
theorem dX11_hearingOf_31 : decode cX11_hearingOf 31 = .ok (.iconst 2, 1) := by decide +kernel
theorem dX11_hearingOf_32 : decode cX11_hearingOf 32 = .ok (.aload_n 0, 1) := by decide +kernel
theorem dX11_hearingOf_33 : decode cX11_hearingOf 33 = .ok (.aload_n 0, 1) := by decide +kernel
theorem dX11_hearingOf_34 : decode cX11_hearingOf 34 = .ok (.getfield 106, 3) := by decide +kernel
theorem dX11_hearingOf_37 : decode cX11_hearingOf 37 = .ok (.iload_n 1, 1) := by decide +kernel
theorem dX11_hearingOf_38 : decode cX11_hearingOf 38 = .ok (.iaload, 1) := by decide +kernel
theorem dX11_hearingOf_39 : decode cX11_hearingOf 39 = .ok (.invokevirtual 479, 3) := by decide +kernel
theorem dX11_hearingOf_42 : decode cX11_hearingOf 42 = .ok (.iastore, 1) := by decide +kernel
theorem dX11_hearingOf_43 : decode cX11_hearingOf 43 = .ok (.aload_n 0, 1) := by decide +kernel
theorem dX11_hearingOf_44 : decode cX11_hearingOf 44 = .ok (.getfield 39, 3) := by decide +kernel
theorem dX11_hearingOf_47 : decode cX11_hearingOf 47 = .ok (.iconst 3, 1) := by decide +kernel
theorem dX11_hearingOf_48 : decode cX11_hearingOf 48 = .ok (.aload_n 0, 1) := by decide +kernel
theorem dX11_hearingOf_49 : decode cX11_hearingOf 49 = .ok (.getfield 106, 3) := by decide +kernel
theorem dX11_hearingOf_52 : decode cX11_hearingOf 52 = .ok (.iload_n 1, 1) := by decide +kernel
theorem dX11_hearingOf_53 : decode cX11_hearingOf 53 = .ok (.iaload, 1) := by decide +kernel
theorem dX11_hearingOf_54 : decode cX11_hearingOf 54 = .ok (.aload_n 0, 1) := by decide +kernel
theorem dX11_hearingOf_55 : decode cX11_hearingOf 55 = .ok (.getfield 66, 3) := by decide +kernel
theorem dX11_hearingOf_58 : decode cX11_hearingOf 58 = .ok (.iload_n 1, 1) := by decide +kernel
theorem dX11_hearingOf_59 : decode cX11_hearingOf 59 = .ok (.iaload, 1) := by decide +kernel
theorem dX11_hearingOf_60 : decode cX11_hearingOf 60 = .ok (.if_icmp .ne 7, 3) := by decide +kernel
theorem dX11_hearingOf_63 : decode cX11_hearingOf 63 = .ok (.iconst 1, 1) := by decide +kernel
theorem dX11_hearingOf_64 : decode cX11_hearingOf 64 = .ok (.goto 4, 3) := by decide +kernel
theorem dX11_hearingOf_67 : decode cX11_hearingOf 67 = .ok (.iconst 0, 1) := by decide +kernel
theorem dX11_hearingOf_68 : decode cX11_hearingOf 68 = .ok (.invokestatic 320, 3) := by decide +kernel
theorem dX11_hearingOf_71 : decode cX11_hearingOf 71 = .ok (.iastore, 1) := by decide +kernel
theorem dX11_hearingOf_72 : decode cX11_hearingOf 72 = .ok (.aload_n 0, 1) := by decide +kernel
theorem dX11_hearingOf_73 : decode cX11_hearingOf 73 = .ok (.invokevirtual 482, 3) := by decide +kernel
theorem dX11_hearingOf_76 : decode cX11_hearingOf 76 = .ok (.ireturn, 1) := by decide +kernel
theorem dX11_loadRead_0 : decode cX11_loadRead 0 = .ok (.aload_n 0, 1) := by decide +kernel
theorem dX11_loadRead_1 : decode cX11_loadRead 1 = .ok (.invokevirtual 485, 3) := by decide +kernel
theorem dX11_loadRead_4 : decode cX11_loadRead 4 = .ok (.aload_n 0, 1) := by decide +kernel
theorem dX11_loadRead_5 : decode cX11_loadRead 5 = .ok (.invokevirtual 488, 3) := by decide +kernel
theorem dX11_loadRead_8 : decode cX11_loadRead 8 = .ok (.return_, 1) := by decide +kernel
theorem dX11_draw_0 : decode cX11_draw 0 = .ok (.aload_n 0, 1) := by decide +kernel
theorem dX11_draw_1 : decode cX11_draw 1 = .ok (.getfield 106, 3) := by decide +kernel
theorem dX11_draw_4 : decode cX11_draw 4 = .ok (.bipush 29, 2) := by decide +kernel
theorem dX11_draw_6 : decode cX11_draw 6 = .ok (.aload_n 0, 1) := by decide +kernel
theorem dX11_draw_7 : decode cX11_draw 7 = .ok (.getfield 106, 3) := by decide +kernel
theorem dX11_draw_10 : decode cX11_draw 10 = .ok (.bipush 29, 2) := by decide +kernel
theorem dX11_draw_12 : decode cX11_draw 12 = .ok (.iaload, 1) := by decide +kernel
theorem dX11_draw_13 : decode cX11_draw 13 = .ok (.sipush 137, 3) := by decide +kernel
theorem dX11_draw_16 : decode cX11_draw 16 = .ok (.imul, 1) := by decide +kernel
theorem dX11_draw_17 : decode cX11_draw 17 = .ok (.bipush 71, 2) := by decide +kernel
theorem dX11_draw_19 : decode cX11_draw 19 = .ok (.iadd, 1) := by decide +kernel
theorem dX11_draw_20 : decode cX11_draw 20 = .ok (.sipush 1000, 3) := by decide +kernel
theorem dX11_draw_23 : decode cX11_draw 23 = .ok (.irem, 1) := by decide +kernel
theorem dX11_draw_24 : decode cX11_draw 24 = .ok (.iastore, 1) := by decide +kernel
theorem dX11_draw_25 : decode cX11_draw 25 = .ok (.aload_n 0, 1) := by decide +kernel
theorem dX11_draw_26 : decode cX11_draw 26 = .ok (.getfield 106, 3) := by decide +kernel
theorem dX11_draw_29 : decode cX11_draw 29 = .ok (.bipush 29, 2) := by decide +kernel
theorem dX11_draw_31 : decode cX11_draw 31 = .ok (.iaload, 1) := by decide +kernel
theorem dX11_draw_32 : decode cX11_draw 32 = .ok (.bipush 10, 2) := by decide +kernel
theorem dX11_draw_34 : decode cX11_draw 34 = .ok (.irem, 1) := by decide +kernel
theorem dX11_draw_35 : decode cX11_draw 35 = .ok (.ireturn, 1) := by decide +kernel
theorem dX11_isRisen_0 : decode cX11_isRisen 0 = .ok (.aload_n 0, 1) := by decide +kernel
theorem dX11_isRisen_1 : decode cX11_isRisen 1 = .ok (.iload_n 1, 1) := by decide +kernel
theorem dX11_isRisen_2 : decode cX11_isRisen 2 = .ok (.invokevirtual 491, 3) := by decide +kernel
theorem dX11_isRisen_5 : decode cX11_isRisen 5 = .ok (.istore_n 2, 1) := by decide +kernel
theorem dX11_isRisen_6 : decode cX11_isRisen 6 = .ok (.iconst 0, 1) := by decide +kernel
theorem dX11_isRisen_7 : decode cX11_isRisen 7 = .ok (.istore_n 3, 1) := by decide +kernel
theorem dX11_isRisen_8 : decode cX11_isRisen 8 = .ok (.iload_n 3, 1) := by decide +kernel
theorem dX11_isRisen_9 : decode cX11_isRisen 9 = .ok (.aload_n 0, 1) := by decide +kernel
theorem dX11_isRisen_10 : decode cX11_isRisen 10 = .ok (.getfield 412, 3) := by decide +kernel
theorem dX11_isRisen_13 : decode cX11_isRisen 13 = .ok (.if_icmp .ge 56, 3) := by decide +kernel
theorem dX11_isRisen_16 : decode cX11_isRisen 16 = .ok (.iload_n 2, 1) := by decide +kernel
theorem dX11_isRisen_17 : decode cX11_isRisen 17 = .ok (.iload_n 3, 1) := by decide +kernel
theorem dX11_isRisen_18 : decode cX11_isRisen 18 = .ok (.ishr, 1) := by decide +kernel
theorem dX11_isRisen_19 : decode cX11_isRisen 19 = .ok (.iconst 1, 1) := by decide +kernel
theorem dX11_isRisen_20 : decode cX11_isRisen 20 = .ok (.iand, 1) := by decide +kernel
theorem dX11_isRisen_21 : decode cX11_isRisen 21 = .ok (.ifCond .eq 42, 3) := by decide +kernel
theorem dX11_isRisen_24 : decode cX11_isRisen 24 = .ok (.aload_n 0, 1) := by decide +kernel
theorem dX11_isRisen_25 : decode cX11_isRisen 25 = .ok (.iload_n 3, 1) := by decide +kernel
theorem dX11_isRisen_26 : decode cX11_isRisen 26 = .ok (.invokevirtual 476, 3) := by decide +kernel
theorem dX11_isRisen_29 : decode cX11_isRisen 29 = .ok (.ifCond .ne 34, 3) := by decide +kernel
theorem dX11_isRisen_32 : decode cX11_isRisen 32 = .ok (.aload_n 0, 1) := by decide +kernel
theorem dX11_isRisen_33 : decode cX11_isRisen 33 = .ok (.iload_n 1, 1) := by decide +kernel
theorem dX11_isRisen_34 : decode cX11_isRisen 34 = .ok (.aload_n 0, 1) := by decide +kernel
theorem dX11_isRisen_35 : decode cX11_isRisen 35 = .ok (.getfield 106, 3) := by decide +kernel
theorem dX11_isRisen_38 : decode cX11_isRisen 38 = .ok (.iload_n 3, 1) := by decide +kernel
theorem dX11_isRisen_39 : decode cX11_isRisen 39 = .ok (.iaload, 1) := by decide +kernel
theorem dX11_isRisen_40 : decode cX11_isRisen 40 = .ok (.invokevirtual 494, 3) := by decide +kernel
theorem dX11_isRisen_43 : decode cX11_isRisen 43 = .ok (.ifCond .ne 6, 3) := by decide +kernel
theorem dX11_isRisen_46 : decode cX11_isRisen 46 = .ok (.goto 17, 3) := by decide +kernel
theorem dX11_isRisen_49 : decode cX11_isRisen 49 = .ok (.aload_n 0, 1) := by decide +kernel
theorem dX11_isRisen_50 : decode cX11_isRisen 50 = .ok (.invokevirtual 497, 3) := by decide +kernel
theorem dX11_isRisen_53 : decode cX11_isRisen 53 = .ok (.aload_n 0, 1) := by decide +kernel
theorem dX11_isRisen_54 : decode cX11_isRisen 54 = .ok (.iload_n 3, 1) := by decide +kernel
theorem dX11_isRisen_55 : decode cX11_isRisen 55 = .ok (.invokevirtual 500, 3) := by decide +kernel
theorem dX11_isRisen_58 : decode cX11_isRisen 58 = .ok (.if_icmp .ge 5, 3) := by decide +kernel
theorem dX11_isRisen_61 : decode cX11_isRisen 61 = .ok (.iconst 1, 1) := by decide +kernel
theorem dX11_isRisen_62 : decode cX11_isRisen 62 = .ok (.ireturn, 1) := by decide +kernel
theorem dX11_isRisen_63 : decode cX11_isRisen 63 = .ok (.iinc 3 1, 3) := by decide +kernel
theorem dX11_isRisen_66 : decode cX11_isRisen 66 = .ok (.goto (-58), 3) := by decide +kernel
theorem dX11_isRisen_69 : decode cX11_isRisen 69 = .ok (.iconst 0, 1) := by decide +kernel
theorem dX11_isRisen_70 : decode cX11_isRisen 70 = .ok (.ireturn, 1) := by decide +kernel
theorem dX11_goSunday_0 : decode cX11_goSunday 0 = .ok (.aload_n 0, 1) := by decide +kernel
theorem dX11_goSunday_1 : decode cX11_goSunday 1 = .ok (.invokevirtual 488, 3) := by decide +kernel
theorem dX11_goSunday_4 : decode cX11_goSunday 4 = .ok (.iconst 0, 1) := by decide +kernel
theorem dX11_goSunday_5 : decode cX11_goSunday 5 = .ok (.istore_n 1, 1) := by decide +kernel
theorem dX11_goSunday_6 : decode cX11_goSunday 6 = .ok (.iconst 0, 1) := by decide +kernel
theorem dX11_goSunday_7 : decode cX11_goSunday 7 = .ok (.istore_n 2, 1) := by decide +kernel
theorem dX11_goSunday_8 : decode cX11_goSunday 8 = .ok (.iload_n 2, 1) := by decide +kernel
theorem dX11_goSunday_9 : decode cX11_goSunday 9 = .ok (.aload_n 0, 1) := by decide +kernel
theorem dX11_goSunday_10 : decode cX11_goSunday 10 = .ok (.getfield 415, 3) := by decide +kernel
theorem dX11_goSunday_13 : decode cX11_goSunday 13 = .ok (.if_icmp .ge 117, 3) := by decide +kernel
theorem dX11_goSunday_16 : decode cX11_goSunday 16 = .ok (.aload_n 0, 1) := by decide +kernel
theorem dX11_goSunday_17 : decode cX11_goSunday 17 = .ok (.getfield 473, 3) := by decide +kernel
theorem dX11_goSunday_20 : decode cX11_goSunday 20 = .ok (.iload_n 2, 1) := by decide +kernel
theorem dX11_goSunday_21 : decode cX11_goSunday 21 = .ok (.ishr, 1) := by decide +kernel
theorem dX11_goSunday_22 : decode cX11_goSunday 22 = .ok (.iconst 1, 1) := by decide +kernel
theorem dX11_goSunday_23 : decode cX11_goSunday 23 = .ok (.iand, 1) := by decide +kernel
theorem dX11_goSunday_24 : decode cX11_goSunday 24 = .ok (.ifCond .ne 6, 3) := by decide +kernel
theorem dX11_goSunday_27 : decode cX11_goSunday 27 = .ok (.goto 97, 3) := by decide +kernel
theorem dX11_goSunday_30 : decode cX11_goSunday 30 = .ok (.aload_n 0, 1) := by decide +kernel
theorem dX11_goSunday_31 : decode cX11_goSunday 31 = .ok (.iload_n 2, 1) := by decide +kernel
theorem dX11_goSunday_32 : decode cX11_goSunday 32 = .ok (.invokevirtual 503, 3) := by decide +kernel
theorem dX11_goSunday_35 : decode cX11_goSunday 35 = .ok (.ifCond .eq 16, 3) := by decide +kernel
theorem dX11_goSunday_38 : decode cX11_goSunday 38 = .ok (.aload_n 0, 1) := by decide +kernel
theorem dX11_goSunday_39 : decode cX11_goSunday 39 = .ok (.getfield 106, 3) := by decide +kernel
theorem dX11_goSunday_42 : decode cX11_goSunday 42 = .ok (.bipush 8, 2) := by decide +kernel
theorem dX11_goSunday_44 : decode cX11_goSunday 44 = .ok (.iload_n 2, 1) := by decide +kernel
theorem dX11_goSunday_45 : decode cX11_goSunday 45 = .ok (.iadd, 1) := by decide +kernel
theorem dX11_goSunday_46 : decode cX11_goSunday 46 = .ok (.iconst 2, 1) := by decide +kernel
theorem dX11_goSunday_47 : decode cX11_goSunday 47 = .ok (.iastore, 1) := by decide +kernel
theorem dX11_goSunday_48 : decode cX11_goSunday 48 = .ok (.goto 76, 3) := by decide +kernel
theorem dX11_goSunday_51 : decode cX11_goSunday 51 = .ok (.aload_n 0, 1) := by decide +kernel
theorem dX11_goSunday_52 : decode cX11_goSunday 52 = .ok (.getfield 106, 3) := by decide +kernel
theorem dX11_goSunday_55 : decode cX11_goSunday 55 = .ok (.bipush 13, 2) := by decide +kernel
theorem dX11_goSunday_57 : decode cX11_goSunday 57 = .ok (.iload_n 2, 1) := by decide +kernel
theorem dX11_goSunday_58 : decode cX11_goSunday 58 = .ok (.iadd, 1) := by decide +kernel
theorem dX11_goSunday_59 : decode cX11_goSunday 59 = .ok (.dup2, 1) := by decide +kernel
theorem dX11_goSunday_60 : decode cX11_goSunday 60 = .ok (.iaload, 1) := by decide +kernel
theorem dX11_goSunday_61 : decode cX11_goSunday 61 = .ok (.iconst 1, 1) := by decide +kernel
theorem dX11_goSunday_62 : decode cX11_goSunday 62 = .ok (.iadd, 1) := by decide +kernel
theorem dX11_goSunday_63 : decode cX11_goSunday 63 = .ok (.iastore, 1) := by decide +kernel
theorem dX11_goSunday_64 : decode cX11_goSunday 64 = .ok (.aload_n 0, 1) := by decide +kernel
theorem dX11_goSunday_65 : decode cX11_goSunday 65 = .ok (.getfield 106, 3) := by decide +kernel
theorem dX11_goSunday_68 : decode cX11_goSunday 68 = .ok (.bipush 13, 2) := by decide +kernel
theorem dX11_goSunday_70 : decode cX11_goSunday 70 = .ok (.iload_n 2, 1) := by decide +kernel
theorem dX11_goSunday_71 : decode cX11_goSunday 71 = .ok (.iadd, 1) := by decide +kernel
theorem dX11_goSunday_72 : decode cX11_goSunday 72 = .ok (.iaload, 1) := by decide +kernel
theorem dX11_goSunday_73 : decode cX11_goSunday 73 = .ok (.iconst 3, 1) := by decide +kernel
theorem dX11_goSunday_74 : decode cX11_goSunday 74 = .ok (.if_icmp .lt 50, 3) := by decide +kernel
theorem dX11_goSunday_77 : decode cX11_goSunday 77 = .ok (.aload_n 0, 1) := by decide +kernel
theorem dX11_goSunday_78 : decode cX11_goSunday 78 = .ok (.aload_n 0, 1) := by decide +kernel
theorem dX11_goSunday_79 : decode cX11_goSunday 79 = .ok (.getfield 81, 3) := by decide +kernel
theorem dX11_goSunday_82 : decode cX11_goSunday 82 = .ok (.iload_n 2, 1) := by decide +kernel
theorem dX11_goSunday_83 : decode cX11_goSunday 83 = .ok (.iaload, 1) := by decide +kernel
theorem dX11_goSunday_84 : decode cX11_goSunday 84 = .ok (.iload_n 2, 1) := by decide +kernel
theorem dX11_goSunday_85 : decode cX11_goSunday 85 = .ok (.invokevirtual 455, 3) := by decide +kernel
theorem dX11_goSunday_88 : decode cX11_goSunday 88 = .ok (.ifCond .ge 36, 3) := by decide +kernel
theorem dX11_goSunday_91 : decode cX11_goSunday 91 = .ok (.aload_n 0, 1) := by decide +kernel
theorem dX11_goSunday_92 : decode cX11_goSunday 92 = .ok (.aload_n 0, 1) := by decide +kernel
theorem dX11_goSunday_93 : decode cX11_goSunday 93 = .ok (.getfield 84, 3) := by decide +kernel
theorem dX11_goSunday_96 : decode cX11_goSunday 96 = .ok (.iload_n 2, 1) := by decide +kernel
theorem dX11_goSunday_97 : decode cX11_goSunday 97 = .ok (.iaload, 1) := by decide +kernel
theorem dX11_goSunday_98 : decode cX11_goSunday 98 = .ok (.iload_n 2, 1) := by decide +kernel
theorem dX11_goSunday_99 : decode cX11_goSunday 99 = .ok (.invokevirtual 455, 3) := by decide +kernel
theorem dX11_goSunday_102 : decode cX11_goSunday 102 = .ok (.ifCond .lt 6, 3) := by decide +kernel
theorem dX11_goSunday_105 : decode cX11_goSunday 105 = .ok (.goto 19, 3) := by decide +kernel
theorem dX11_goSunday_108 : decode cX11_goSunday 108 = .ok (.aload_n 0, 1) := by decide +kernel
theorem dX11_goSunday_109 : decode cX11_goSunday 109 = .ok (.getfield 106, 3) := by decide +kernel
theorem dX11_goSunday_112 : decode cX11_goSunday 112 = .ok (.bipush 8, 2) := by decide +kernel
theorem dX11_goSunday_114 : decode cX11_goSunday 114 = .ok (.iload_n 2, 1) := by decide +kernel
theorem dX11_goSunday_115 : decode cX11_goSunday 115 = .ok (.iadd, 1) := by decide +kernel
theorem dX11_goSunday_116 : decode cX11_goSunday 116 = .ok (.iconst 1, 1) := by decide +kernel
theorem dX11_goSunday_117 : decode cX11_goSunday 117 = .ok (.iastore, 1) := by decide +kernel
theorem dX11_goSunday_118 : decode cX11_goSunday 118 = .ok (.iload_n 1, 1) := by decide +kernel
theorem dX11_goSunday_119 : decode cX11_goSunday 119 = .ok (.iconst 1, 1) := by decide +kernel
theorem dX11_goSunday_120 : decode cX11_goSunday 120 = .ok (.iload_n 2, 1) := by decide +kernel
theorem dX11_goSunday_121 : decode cX11_goSunday 121 = .ok (.ishl, 1) := by decide +kernel
theorem dX11_goSunday_122 : decode cX11_goSunday 122 = .ok (.ior, 1) := by decide +kernel
theorem dX11_goSunday_123 : decode cX11_goSunday 123 = .ok (.istore_n 1, 1) := by decide +kernel
theorem dX11_goSunday_124 : decode cX11_goSunday 124 = .ok (.iinc 2 1, 3) := by decide +kernel
theorem dX11_goSunday_127 : decode cX11_goSunday 127 = .ok (.goto (-119), 3) := by decide +kernel
theorem dX11_goSunday_130 : decode cX11_goSunday 130 = .ok (.aload_n 0, 1) := by decide +kernel
theorem dX11_goSunday_131 : decode cX11_goSunday 131 = .ok (.getfield 106, 3) := by decide +kernel
theorem dX11_goSunday_134 : decode cX11_goSunday 134 = .ok (.bipush 28, 2) := by decide +kernel
theorem dX11_goSunday_136 : decode cX11_goSunday 136 = .ok (.dup2, 1) := by decide +kernel
theorem dX11_goSunday_137 : decode cX11_goSunday 137 = .ok (.iaload, 1) := by decide +kernel
theorem dX11_goSunday_138 : decode cX11_goSunday 138 = .ok (.iconst 1, 1) := by decide +kernel
theorem dX11_goSunday_139 : decode cX11_goSunday 139 = .ok (.iadd, 1) := by decide +kernel
theorem dX11_goSunday_140 : decode cX11_goSunday 140 = .ok (.iastore, 1) := by decide +kernel
theorem dX11_goSunday_141 : decode cX11_goSunday 141 = .ok (.iload_n 1, 1) := by decide +kernel
theorem dX11_goSunday_142 : decode cX11_goSunday 142 = .ok (.ireturn, 1) := by decide +kernel
theorem dX11_person_0 : decode cX11_person 0 = .ok (.aload_n 0, 1) := by decide +kernel
theorem dX11_person_1 : decode cX11_person 1 = .ok (.iload_n 1, 1) := by decide +kernel
theorem dX11_person_2 : decode cX11_person 2 = .ok (.invokevirtual 437, 3) := by decide +kernel
theorem dX11_person_5 : decode cX11_person 5 = .ok (.ifCond .ne 6, 3) := by decide +kernel
theorem dX11_person_8 : decode cX11_person 8 = .ok (.bipush (-2), 2) := by decide +kernel
theorem dX11_person_10 : decode cX11_person 10 = .ok (.ireturn, 1) := by decide +kernel
theorem dX11_person_11 : decode cX11_person 11 = .ok (.aload_n 0, 1) := by decide +kernel
theorem dX11_person_12 : decode cX11_person 12 = .ok (.invokevirtual 485, 3) := by decide +kernel
theorem dX11_person_15 : decode cX11_person 15 = .ok (.iload_n 2, 1) := by decide +kernel
theorem dX11_person_16 : decode cX11_person 16 = .ok (.tableswitch 136 0 9 #[56, 63, 70, 79, 90, 100, 107, 116, 123, 129], 56) := by decide +kernel
theorem dX11_person_72 : decode cX11_person 72 = .ok (.aload_n 0, 1) := by decide +kernel
theorem dX11_person_73 : decode cX11_person 73 = .ok (.getfield 106, 3) := by decide +kernel
theorem dX11_person_76 : decode cX11_person 76 = .ok (.iload_n 1, 1) := by decide +kernel
theorem dX11_person_77 : decode cX11_person 77 = .ok (.iaload, 1) := by decide +kernel
theorem dX11_person_78 : decode cX11_person 78 = .ok (.ireturn, 1) := by decide +kernel
theorem dX11_person_79 : decode cX11_person 79 = .ok (.aload_n 0, 1) := by decide +kernel
theorem dX11_person_80 : decode cX11_person 80 = .ok (.getfield 66, 3) := by decide +kernel
theorem dX11_person_83 : decode cX11_person 83 = .ok (.iload_n 1, 1) := by decide +kernel
theorem dX11_person_84 : decode cX11_person 84 = .ok (.iaload, 1) := by decide +kernel
theorem dX11_person_85 : decode cX11_person 85 = .ok (.ireturn, 1) := by decide +kernel
theorem dX11_person_86 : decode cX11_person 86 = .ok (.aload_n 0, 1) := by decide +kernel
theorem dX11_person_87 : decode cX11_person 87 = .ok (.getfield 69, 3) := by decide +kernel
theorem dX11_person_90 : decode cX11_person 90 = .ok (.iconst 2, 1) := by decide +kernel
theorem dX11_person_91 : decode cX11_person 91 = .ok (.iload_n 1, 1) := by decide +kernel
theorem dX11_person_92 : decode cX11_person 92 = .ok (.imul, 1) := by decide +kernel
theorem dX11_person_93 : decode cX11_person 93 = .ok (.iaload, 1) := by decide +kernel
theorem dX11_person_94 : decode cX11_person 94 = .ok (.ireturn, 1) := by decide +kernel
theorem dX11_person_95 : decode cX11_person 95 = .ok (.aload_n 0, 1) := by decide +kernel
theorem dX11_person_96 : decode cX11_person 96 = .ok (.getfield 69, 3) := by decide +kernel
theorem dX11_person_99 : decode cX11_person 99 = .ok (.iconst 2, 1) := by decide +kernel
theorem dX11_person_100 : decode cX11_person 100 = .ok (.iload_n 1, 1) := by decide +kernel
theorem dX11_person_101 : decode cX11_person 101 = .ok (.imul, 1) := by decide +kernel
theorem dX11_person_102 : decode cX11_person 102 = .ok (.iconst 1, 1) := by decide +kernel
theorem dX11_person_103 : decode cX11_person 103 = .ok (.iadd, 1) := by decide +kernel
theorem dX11_person_104 : decode cX11_person 104 = .ok (.iaload, 1) := by decide +kernel
theorem dX11_person_105 : decode cX11_person 105 = .ok (.ireturn, 1) := by decide +kernel
theorem dX11_person_106 : decode cX11_person 106 = .ok (.aload_n 0, 1) := by decide +kernel
theorem dX11_person_107 : decode cX11_person 107 = .ok (.getfield 91, 3) := by decide +kernel
theorem dX11_person_110 : decode cX11_person 110 = .ok (.iload_n 1, 1) := by decide +kernel
theorem dX11_person_111 : decode cX11_person 111 = .ok (.baload, 1) := by decide +kernel
theorem dX11_person_112 : decode cX11_person 112 = .ok (.invokestatic 320, 3) := by decide +kernel
theorem dX11_person_115 : decode cX11_person 115 = .ok (.ireturn, 1) := by decide +kernel
theorem dX11_person_116 : decode cX11_person 116 = .ok (.aload_n 0, 1) := by decide +kernel
theorem dX11_person_117 : decode cX11_person 117 = .ok (.getfield 72, 3) := by decide +kernel
theorem dX11_person_120 : decode cX11_person 120 = .ok (.iload_n 1, 1) := by decide +kernel
theorem dX11_person_121 : decode cX11_person 121 = .ok (.iaload, 1) := by decide +kernel
theorem dX11_person_122 : decode cX11_person 122 = .ok (.ireturn, 1) := by decide +kernel
theorem dX11_person_123 : decode cX11_person 123 = .ok (.aload_n 0, 1) := by decide +kernel
theorem dX11_person_124 : decode cX11_person 124 = .ok (.iload_n 1, 1) := by decide +kernel
theorem dX11_person_125 : decode cX11_person 125 = .ok (.invokevirtual 476, 3) := by decide +kernel
theorem dX11_person_128 : decode cX11_person 128 = .ok (.invokestatic 320, 3) := by decide +kernel
theorem dX11_person_131 : decode cX11_person 131 = .ok (.ireturn, 1) := by decide +kernel
theorem dX11_person_132 : decode cX11_person 132 = .ok (.aload_n 0, 1) := by decide +kernel
theorem dX11_person_133 : decode cX11_person 133 = .ok (.iload_n 1, 1) := by decide +kernel
theorem dX11_person_134 : decode cX11_person 134 = .ok (.iconst (-1), 1) := by decide +kernel
theorem dX11_person_135 : decode cX11_person 135 = .ok (.invokevirtual 455, 3) := by decide +kernel
theorem dX11_person_138 : decode cX11_person 138 = .ok (.ireturn, 1) := by decide +kernel
theorem dX11_person_139 : decode cX11_person 139 = .ok (.aload_n 0, 1) := by decide +kernel
theorem dX11_person_140 : decode cX11_person 140 = .ok (.iload_n 1, 1) := by decide +kernel
theorem dX11_person_141 : decode cX11_person 141 = .ok (.invokevirtual 461, 3) := by decide +kernel
theorem dX11_person_144 : decode cX11_person 144 = .ok (.ireturn, 1) := by decide +kernel
theorem dX11_person_145 : decode cX11_person 145 = .ok (.aload_n 0, 1) := by decide +kernel
theorem dX11_person_146 : decode cX11_person 146 = .ok (.getfield 78, 3) := by decide +kernel
theorem dX11_person_149 : decode cX11_person 149 = .ok (.iload_n 1, 1) := by decide +kernel
theorem dX11_person_150 : decode cX11_person 150 = .ok (.iaload, 1) := by decide +kernel
theorem dX11_person_151 : decode cX11_person 151 = .ok (.ireturn, 1) := by decide +kernel
theorem dX11_person_152 : decode cX11_person 152 = .ok (.bipush (-2), 2) := by decide +kernel
theorem dX11_person_154 : decode cX11_person 154 = .ok (.ireturn, 1) := by decide +kernel
theorem dX11_pair_0 : decode cX11_pair 0 = .ok (.aload_n 0, 1) := by decide +kernel
theorem dX11_pair_1 : decode cX11_pair 1 = .ok (.iload_n 1, 1) := by decide +kernel
theorem dX11_pair_2 : decode cX11_pair 2 = .ok (.invokevirtual 506, 3) := by decide +kernel
theorem dX11_pair_5 : decode cX11_pair 5 = .ok (.ifCond .ne 5, 3) := by decide +kernel
theorem dX11_pair_8 : decode cX11_pair 8 = .ok (.iconst (-1), 1) := by decide +kernel
theorem dX11_pair_9 : decode cX11_pair 9 = .ok (.ireturn, 1) := by decide +kernel
theorem dX11_pair_10 : decode cX11_pair 10 = .ok (.aload_n 0, 1) := by decide +kernel
theorem dX11_pair_11 : decode cX11_pair 11 = .ok (.invokevirtual 509, 3) := by decide +kernel
theorem dX11_pair_14 : decode cX11_pair 14 = .ok (.iload_n 2, 1) := by decide +kernel
theorem dX11_pair_15 : decode cX11_pair 15 = .ok (.tableswitch 120 0 8 #[49, 56, 63, 73, 83, 93, 99, 105, 111], 49) := by decide +kernel
theorem dX11_pair_64 : decode cX11_pair 64 = .ok (.aload_n 0, 1) := by decide +kernel
theorem dX11_pair_65 : decode cX11_pair 65 = .ok (.getfield 81, 3) := by decide +kernel
theorem dX11_pair_68 : decode cX11_pair 68 = .ok (.iload_n 1, 1) := by decide +kernel
theorem dX11_pair_69 : decode cX11_pair 69 = .ok (.iaload, 1) := by decide +kernel
theorem dX11_pair_70 : decode cX11_pair 70 = .ok (.ireturn, 1) := by decide +kernel
theorem dX11_pair_71 : decode cX11_pair 71 = .ok (.aload_n 0, 1) := by decide +kernel
theorem dX11_pair_72 : decode cX11_pair 72 = .ok (.getfield 84, 3) := by decide +kernel
theorem dX11_pair_75 : decode cX11_pair 75 = .ok (.iload_n 1, 1) := by decide +kernel
theorem dX11_pair_76 : decode cX11_pair 76 = .ok (.iaload, 1) := by decide +kernel
theorem dX11_pair_77 : decode cX11_pair 77 = .ok (.ireturn, 1) := by decide +kernel
theorem dX11_pair_78 : decode cX11_pair 78 = .ok (.aload_n 0, 1) := by decide +kernel
theorem dX11_pair_79 : decode cX11_pair 79 = .ok (.getfield 106, 3) := by decide +kernel
theorem dX11_pair_82 : decode cX11_pair 82 = .ok (.bipush 18, 2) := by decide +kernel
theorem dX11_pair_84 : decode cX11_pair 84 = .ok (.iload_n 1, 1) := by decide +kernel
theorem dX11_pair_85 : decode cX11_pair 85 = .ok (.iadd, 1) := by decide +kernel
theorem dX11_pair_86 : decode cX11_pair 86 = .ok (.iaload, 1) := by decide +kernel
theorem dX11_pair_87 : decode cX11_pair 87 = .ok (.ireturn, 1) := by decide +kernel
theorem dX11_pair_88 : decode cX11_pair 88 = .ok (.aload_n 0, 1) := by decide +kernel
theorem dX11_pair_89 : decode cX11_pair 89 = .ok (.getfield 106, 3) := by decide +kernel
theorem dX11_pair_92 : decode cX11_pair 92 = .ok (.bipush 23, 2) := by decide +kernel
theorem dX11_pair_94 : decode cX11_pair 94 = .ok (.iload_n 1, 1) := by decide +kernel
theorem dX11_pair_95 : decode cX11_pair 95 = .ok (.iadd, 1) := by decide +kernel
theorem dX11_pair_96 : decode cX11_pair 96 = .ok (.iaload, 1) := by decide +kernel
theorem dX11_pair_97 : decode cX11_pair 97 = .ok (.ireturn, 1) := by decide +kernel
theorem dX11_pair_98 : decode cX11_pair 98 = .ok (.aload_n 0, 1) := by decide +kernel
theorem dX11_pair_99 : decode cX11_pair 99 = .ok (.getfield 106, 3) := by decide +kernel
theorem dX11_pair_102 : decode cX11_pair 102 = .ok (.bipush 13, 2) := by decide +kernel
theorem dX11_pair_104 : decode cX11_pair 104 = .ok (.iload_n 1, 1) := by decide +kernel
theorem dX11_pair_105 : decode cX11_pair 105 = .ok (.iadd, 1) := by decide +kernel
theorem dX11_pair_106 : decode cX11_pair 106 = .ok (.iaload, 1) := by decide +kernel
theorem dX11_pair_107 : decode cX11_pair 107 = .ok (.ireturn, 1) := by decide +kernel
theorem dX11_pair_108 : decode cX11_pair 108 = .ok (.aload_n 0, 1) := by decide +kernel
theorem dX11_pair_109 : decode cX11_pair 109 = .ok (.iload_n 1, 1) := by decide +kernel
theorem dX11_pair_110 : decode cX11_pair 110 = .ok (.invokevirtual 446, 3) := by decide +kernel
theorem dX11_pair_113 : decode cX11_pair 113 = .ok (.ireturn, 1) := by decide +kernel
theorem dX11_pair_114 : decode cX11_pair 114 = .ok (.aload_n 0, 1) := by decide +kernel
theorem dX11_pair_115 : decode cX11_pair 115 = .ok (.iload_n 1, 1) := by decide +kernel
theorem dX11_pair_116 : decode cX11_pair 116 = .ok (.invokevirtual 458, 3) := by decide +kernel
theorem dX11_pair_119 : decode cX11_pair 119 = .ok (.ireturn, 1) := by decide +kernel
theorem dX11_pair_120 : decode cX11_pair 120 = .ok (.aload_n 0, 1) := by decide +kernel
theorem dX11_pair_121 : decode cX11_pair 121 = .ok (.iload_n 1, 1) := by decide +kernel
theorem dX11_pair_122 : decode cX11_pair 122 = .ok (.invokevirtual 491, 3) := by decide +kernel
theorem dX11_pair_125 : decode cX11_pair 125 = .ok (.ireturn, 1) := by decide +kernel
theorem dX11_pair_126 : decode cX11_pair 126 = .ok (.aload_n 0, 1) := by decide +kernel
theorem dX11_pair_127 : decode cX11_pair 127 = .ok (.getfield 473, 3) := by decide +kernel
theorem dX11_pair_130 : decode cX11_pair 130 = .ok (.iload_n 1, 1) := by decide +kernel
theorem dX11_pair_131 : decode cX11_pair 131 = .ok (.ishr, 1) := by decide +kernel
theorem dX11_pair_132 : decode cX11_pair 132 = .ok (.iconst 1, 1) := by decide +kernel
theorem dX11_pair_133 : decode cX11_pair 133 = .ok (.iand, 1) := by decide +kernel
theorem dX11_pair_134 : decode cX11_pair 134 = .ok (.ireturn, 1) := by decide +kernel
theorem dX11_pair_135 : decode cX11_pair 135 = .ok (.iconst (-1), 1) := by decide +kernel
theorem dX11_pair_136 : decode cX11_pair 136 = .ok (.ireturn, 1) := by decide +kernel
theorem dX11_hearing_0 : decode cX11_hearing 0 = .ok (.aload_n 0, 1) := by decide +kernel
theorem dX11_hearing_1 : decode cX11_hearing 1 = .ok (.iload_n 1, 1) := by decide +kernel
theorem dX11_hearing_2 : decode cX11_hearing 2 = .ok (.invokevirtual 437, 3) := by decide +kernel
theorem dX11_hearing_5 : decode cX11_hearing 5 = .ok (.ifCond .ne 5, 3) := by decide +kernel
theorem dX11_hearing_8 : decode cX11_hearing 8 = .ok (.iconst (-1), 1) := by decide +kernel
theorem dX11_hearing_9 : decode cX11_hearing 9 = .ok (.ireturn, 1) := by decide +kernel
theorem dX11_hearing_10 : decode cX11_hearing 10 = .ok (.aload_n 0, 1) := by decide +kernel
theorem dX11_hearing_11 : decode cX11_hearing 11 = .ok (.invokevirtual 509, 3) := by decide +kernel
theorem dX11_hearing_14 : decode cX11_hearing 14 = .ok (.aload_n 0, 1) := by decide +kernel
theorem dX11_hearing_15 : decode cX11_hearing 15 = .ok (.iload_n 1, 1) := by decide +kernel
theorem dX11_hearing_16 : decode cX11_hearing 16 = .ok (.invokevirtual 500, 3) := by decide +kernel
theorem dX11_hearing_19 : decode cX11_hearing 19 = .ok (.ireturn, 1) := by decide +kernel
theorem dX11_church__0 : decode cX11_church_ 0 = .ok (.aload_n 0, 1) := by decide +kernel
theorem dX11_church__1 : decode cX11_church_ 1 = .ok (.iload_n 1, 1) := by decide +kernel
theorem dX11_church__2 : decode cX11_church_ 2 = .ok (.invokevirtual 512, 3) := by decide +kernel
theorem dX11_church__5 : decode cX11_church_ 5 = .ok (.ifCond .eq 12, 3) := by decide +kernel
theorem dX11_church__8 : decode cX11_church_ 8 = .ok (.iload_n 2, 1) := by decide +kernel
theorem dX11_church__9 : decode cX11_church_ 9 = .ok (.iconst 0, 1) := by decide +kernel
theorem dX11_church__10 : decode cX11_church_ 10 = .ok (.iconst 1, 1) := by decide +kernel
theorem dX11_church__11 : decode cX11_church_ 11 = .ok (.invokestatic 433, 3) := by decide +kernel
theorem dX11_church__14 : decode cX11_church_ 14 = .ok (.ifCond .ne 5, 3) := by decide +kernel
theorem dX11_church__17 : decode cX11_church_ 17 = .ok (.iconst (-1), 1) := by decide +kernel
theorem dX11_church__18 : decode cX11_church_ 18 = .ok (.ireturn, 1) := by decide +kernel
theorem dX11_church__19 : decode cX11_church_ 19 = .ok (.aload_n 0, 1) := by decide +kernel
theorem dX11_church__20 : decode cX11_church_ 20 = .ok (.invokevirtual 509, 3) := by decide +kernel
theorem dX11_church__23 : decode cX11_church_ 23 = .ok (.iconst 0, 1) := by decide +kernel
theorem dX11_church__24 : decode cX11_church_ 24 = .ok (.istore_n 3, 1) := by decide +kernel
theorem dX11_church__25 : decode cX11_church_ 25 = .ok (.iconst 0, 1) := by decide +kernel
theorem dX11_church__26 : decode cX11_church_ 26 = .ok (.istore 4, 2) := by decide +kernel
theorem dX11_church__28 : decode cX11_church_ 28 = .ok (.iload 4, 2) := by decide +kernel
theorem dX11_church__30 : decode cX11_church_ 30 = .ok (.aload_n 0, 1) := by decide +kernel
theorem dX11_church__31 : decode cX11_church_ 31 = .ok (.getfield 412, 3) := by decide +kernel
theorem dX11_church__34 : decode cX11_church_ 34 = .ok (.if_icmp .ge 38, 3) := by decide +kernel
theorem dX11_church__37 : decode cX11_church_ 37 = .ok (.iload_n 2, 1) := by decide +kernel
theorem dX11_church__38 : decode cX11_church_ 38 = .ok (.ifCond .ne 34, 3) := by decide +kernel
theorem dX11_church__41 : decode cX11_church_ 41 = .ok (.iload_n 3, 1) := by decide +kernel
theorem dX11_church__42 : decode cX11_church_ 42 = .ok (.aload_n 0, 1) := by decide +kernel
theorem dX11_church__43 : decode cX11_church_ 43 = .ok (.getfield 106, 3) := by decide +kernel
theorem dX11_church__46 : decode cX11_church_ 46 = .ok (.iload 4, 2) := by decide +kernel
theorem dX11_church__48 : decode cX11_church_ 48 = .ok (.iaload, 1) := by decide +kernel
theorem dX11_church__49 : decode cX11_church_ 49 = .ok (.iload_n 1, 1) := by decide +kernel
theorem dX11_church__50 : decode cX11_church_ 50 = .ok (.if_icmp .ne 7, 3) := by decide +kernel
theorem dX11_church__53 : decode cX11_church_ 53 = .ok (.iconst 1, 1) := by decide +kernel
theorem dX11_church__54 : decode cX11_church_ 54 = .ok (.goto 4, 3) := by decide +kernel
theorem dX11_church__57 : decode cX11_church_ 57 = .ok (.iconst 0, 1) := by decide +kernel
theorem dX11_church__58 : decode cX11_church_ 58 = .ok (.invokestatic 320, 3) := by decide +kernel
theorem dX11_church__61 : decode cX11_church_ 61 = .ok (.iload 4, 2) := by decide +kernel
theorem dX11_church__63 : decode cX11_church_ 63 = .ok (.ishl, 1) := by decide +kernel
theorem dX11_church__64 : decode cX11_church_ 64 = .ok (.ior, 1) := by decide +kernel
theorem dX11_church__65 : decode cX11_church_ 65 = .ok (.istore_n 3, 1) := by decide +kernel
theorem dX11_church__66 : decode cX11_church_ 66 = .ok (.iinc 4 1, 3) := by decide +kernel
theorem dX11_church__69 : decode cX11_church_ 69 = .ok (.goto (-41), 3) := by decide +kernel
theorem dX11_church__72 : decode cX11_church_ 72 = .ok (.iconst 0, 1) := by decide +kernel
theorem dX11_church__73 : decode cX11_church_ 73 = .ok (.istore 4, 2) := by decide +kernel
theorem dX11_church__75 : decode cX11_church_ 75 = .ok (.iload 4, 2) := by decide +kernel
theorem dX11_church__77 : decode cX11_church_ 77 = .ok (.aload_n 0, 1) := by decide +kernel
theorem dX11_church__78 : decode cX11_church_ 78 = .ok (.getfield 415, 3) := by decide +kernel
theorem dX11_church__81 : decode cX11_church_ 81 = .ok (.if_icmp .ge 40, 3) := by decide +kernel
theorem dX11_church__84 : decode cX11_church_ 84 = .ok (.iload_n 2, 1) := by decide +kernel
theorem dX11_church__85 : decode cX11_church_ 85 = .ok (.iconst 1, 1) := by decide +kernel
theorem dX11_church__86 : decode cX11_church_ 86 = .ok (.if_icmp .ne 35, 3) := by decide +kernel
theorem dX11_church__89 : decode cX11_church_ 89 = .ok (.iload_n 3, 1) := by decide +kernel
theorem dX11_church__90 : decode cX11_church_ 90 = .ok (.aload_n 0, 1) := by decide +kernel
theorem dX11_church__91 : decode cX11_church_ 91 = .ok (.getfield 473, 3) := by decide +kernel
theorem dX11_church__94 : decode cX11_church_ 94 = .ok (.iload 4, 2) := by decide +kernel
theorem dX11_church__96 : decode cX11_church_ 96 = .ok (.ishr, 1) := by decide +kernel
theorem dX11_church__97 : decode cX11_church_ 97 = .ok (.iconst 1, 1) := by decide +kernel
theorem dX11_church__98 : decode cX11_church_ 98 = .ok (.iand, 1) := by decide +kernel
theorem dX11_church__99 : decode cX11_church_ 99 = .ok (.aload_n 0, 1) := by decide +kernel
theorem dX11_church__100 : decode cX11_church_ 100 = .ok (.iload 4, 2) := by decide +kernel
theorem dX11_church__102 : decode cX11_church_ 102 = .ok (.iload_n 1, 1) := by decide +kernel
theorem dX11_church__103 : decode cX11_church_ 103 = .ok (.invokevirtual 494, 3) := by decide +kernel
theorem dX11_church__106 : decode cX11_church_ 106 = .ok (.invokestatic 320, 3) := by decide +kernel
theorem dX11_church__109 : decode cX11_church_ 109 = .ok (.iand, 1) := by decide +kernel
theorem dX11_church__110 : decode cX11_church_ 110 = .ok (.iload 4, 2) := by decide +kernel
theorem dX11_church__112 : decode cX11_church_ 112 = .ok (.ishl, 1) := by decide +kernel
theorem dX11_church__113 : decode cX11_church_ 113 = .ok (.ior, 1) := by decide +kernel
theorem dX11_church__114 : decode cX11_church_ 114 = .ok (.istore_n 3, 1) := by decide +kernel
theorem dX11_church__115 : decode cX11_church_ 115 = .ok (.iinc 4 1, 3) := by decide +kernel
theorem dX11_church__118 : decode cX11_church_ 118 = .ok (.goto (-43), 3) := by decide +kernel
theorem dX11_church__121 : decode cX11_church_ 121 = .ok (.iload_n 3, 1) := by decide +kernel
theorem dX11_church__122 : decode cX11_church_ 122 = .ok (.ireturn, 1) := by decide +kernel
theorem dX11_act_0 : decode cX11_act 0 = .ok (.aload_n 0, 1) := by decide +kernel
theorem dX11_act_1 : decode cX11_act 1 = .ok (.getfield 424, 3) := by decide +kernel
theorem dX11_act_4 : decode cX11_act 4 = .ok (.bipush 40, 2) := by decide +kernel
theorem dX11_act_6 : decode cX11_act 6 = .ok (.if_icmp .ne 43, 3) := by decide +kernel
theorem dX11_act_9 : decode cX11_act 9 = .ok (.iconst 0, 1) := by decide +kernel
theorem dX11_act_10 : decode cX11_act 10 = .ok (.istore_n 1, 1) := by decide +kernel
theorem dX11_act_11 : decode cX11_act 11 = .ok (.iload_n 1, 1) := by decide +kernel
theorem dX11_act_12 : decode cX11_act 12 = .ok (.sipush 1170, 3) := by decide +kernel
theorem dX11_act_15 : decode cX11_act 15 = .ok (.if_icmp .ge 24, 3) := by decide +kernel
theorem dX11_act_18 : decode cX11_act 18 = .ok (.aload_n 0, 1) := by decide +kernel
theorem dX11_act_19 : decode cX11_act 19 = .ok (.getfield 112, 3) := by decide +kernel
theorem dX11_act_22 : decode cX11_act 22 = .ok (.iload_n 1, 1) := by decide +kernel
theorem dX11_act_23 : decode cX11_act 23 = .ok (.aload_n 0, 1) := by decide +kernel
theorem dX11_act_24 : decode cX11_act 24 = .ok (.getfield 112, 3) := by decide +kernel
theorem dX11_act_27 : decode cX11_act 27 = .ok (.bipush 30, 2) := by decide +kernel
theorem dX11_act_29 : decode cX11_act 29 = .ok (.iload_n 1, 1) := by decide +kernel
theorem dX11_act_30 : decode cX11_act 30 = .ok (.iadd, 1) := by decide +kernel
theorem dX11_act_31 : decode cX11_act 31 = .ok (.iaload, 1) := by decide +kernel
theorem dX11_act_32 : decode cX11_act 32 = .ok (.iastore, 1) := by decide +kernel
theorem dX11_act_33 : decode cX11_act 33 = .ok (.iinc 1 1, 3) := by decide +kernel
theorem dX11_act_36 : decode cX11_act 36 = .ok (.goto (-25), 3) := by decide +kernel
theorem dX11_act_39 : decode cX11_act 39 = .ok (.aload_n 0, 1) := by decide +kernel
theorem dX11_act_40 : decode cX11_act 40 = .ok (.dup, 1) := by decide +kernel
theorem dX11_act_41 : decode cX11_act 41 = .ok (.getfield 424, 3) := by decide +kernel
theorem dX11_act_44 : decode cX11_act 44 = .ok (.iconst 1, 1) := by decide +kernel
theorem dX11_act_45 : decode cX11_act 45 = .ok (.isub, 1) := by decide +kernel
theorem dX11_act_46 : decode cX11_act 46 = .ok (.putfield 424, 3) := by decide +kernel
theorem dX11_act_49 : decode cX11_act 49 = .ok (.iconst 0, 1) := by decide +kernel
theorem dX11_act_50 : decode cX11_act 50 = .ok (.istore_n 1, 1) := by decide +kernel
theorem dX11_act_51 : decode cX11_act 51 = .ok (.iload_n 1, 1) := by decide +kernel
theorem dX11_act_52 : decode cX11_act 52 = .ok (.bipush 30, 2) := by decide +kernel
theorem dX11_act_54 : decode cX11_act 54 = .ok (.if_icmp .ge 29, 3) := by decide +kernel
theorem dX11_act_57 : decode cX11_act 57 = .ok (.aload_n 0, 1) := by decide +kernel
theorem dX11_act_58 : decode cX11_act 58 = .ok (.getfield 112, 3) := by decide +kernel
theorem dX11_act_61 : decode cX11_act 61 = .ok (.bipush 30, 2) := by decide +kernel
theorem dX11_act_63 : decode cX11_act 63 = .ok (.aload_n 0, 1) := by decide +kernel
theorem dX11_act_64 : decode cX11_act 64 = .ok (.getfield 424, 3) := by decide +kernel
theorem dX11_act_67 : decode cX11_act 67 = .ok (.imul, 1) := by decide +kernel
theorem dX11_act_68 : decode cX11_act 68 = .ok (.iload_n 1, 1) := by decide +kernel
theorem dX11_act_69 : decode cX11_act 69 = .ok (.iadd, 1) := by decide +kernel
theorem dX11_act_70 : decode cX11_act 70 = .ok (.aload_n 0, 1) := by decide +kernel
theorem dX11_act_71 : decode cX11_act 71 = .ok (.getfield 103, 3) := by decide +kernel
theorem dX11_act_74 : decode cX11_act 74 = .ok (.iload_n 1, 1) := by decide +kernel
theorem dX11_act_75 : decode cX11_act 75 = .ok (.iaload, 1) := by decide +kernel
theorem dX11_act_76 : decode cX11_act 76 = .ok (.iastore, 1) := by decide +kernel
theorem dX11_act_77 : decode cX11_act 77 = .ok (.iinc 1 1, 3) := by decide +kernel
theorem dX11_act_80 : decode cX11_act 80 = .ok (.goto (-29), 3) := by decide +kernel
theorem dX11_act_83 : decode cX11_act 83 = .ok (.aload_n 0, 1) := by decide +kernel
theorem dX11_act_84 : decode cX11_act 84 = .ok (.dup, 1) := by decide +kernel
theorem dX11_act_85 : decode cX11_act 85 = .ok (.getfield 424, 3) := by decide +kernel
theorem dX11_act_88 : decode cX11_act 88 = .ok (.iconst 1, 1) := by decide +kernel
theorem dX11_act_89 : decode cX11_act 89 = .ok (.iadd, 1) := by decide +kernel
theorem dX11_act_90 : decode cX11_act 90 = .ok (.putfield 424, 3) := by decide +kernel
theorem dX11_act_93 : decode cX11_act 93 = .ok (.aload_n 0, 1) := by decide +kernel
theorem dX11_act_94 : decode cX11_act 94 = .ok (.iconst 0, 1) := by decide +kernel
theorem dX11_act_95 : decode cX11_act 95 = .ok (.putfield 427, 3) := by decide +kernel
theorem dX11_act_98 : decode cX11_act 98 = .ok (.return_, 1) := by decide +kernel
theorem dX11_exchange_0 : decode cX11_exchange 0 = .ok (.iconst 0, 1) := by decide +kernel
theorem dX11_exchange_1 : decode cX11_exchange 1 = .ok (.istore_n 2, 1) := by decide +kernel
theorem dX11_exchange_2 : decode cX11_exchange 2 = .ok (.iload_n 2, 1) := by decide +kernel
theorem dX11_exchange_3 : decode cX11_exchange 3 = .ok (.bipush 30, 2) := by decide +kernel
theorem dX11_exchange_5 : decode cX11_exchange 5 = .ok (.if_icmp .ge 39, 3) := by decide +kernel
theorem dX11_exchange_8 : decode cX11_exchange 8 = .ok (.aload_n 0, 1) := by decide +kernel
theorem dX11_exchange_9 : decode cX11_exchange 9 = .ok (.getfield 112, 3) := by decide +kernel
theorem dX11_exchange_12 : decode cX11_exchange 12 = .ok (.iload_n 1, 1) := by decide +kernel
theorem dX11_exchange_13 : decode cX11_exchange 13 = .ok (.iload_n 2, 1) := by decide +kernel
theorem dX11_exchange_14 : decode cX11_exchange 14 = .ok (.iadd, 1) := by decide +kernel
theorem dX11_exchange_15 : decode cX11_exchange 15 = .ok (.iaload, 1) := by decide +kernel
theorem dX11_exchange_16 : decode cX11_exchange 16 = .ok (.istore_n 3, 1) := by decide +kernel
theorem dX11_exchange_17 : decode cX11_exchange 17 = .ok (.aload_n 0, 1) := by decide +kernel
theorem dX11_exchange_18 : decode cX11_exchange 18 = .ok (.getfield 112, 3) := by decide +kernel
theorem dX11_exchange_21 : decode cX11_exchange 21 = .ok (.iload_n 1, 1) := by decide +kernel
theorem dX11_exchange_22 : decode cX11_exchange 22 = .ok (.iload_n 2, 1) := by decide +kernel
theorem dX11_exchange_23 : decode cX11_exchange 23 = .ok (.iadd, 1) := by decide +kernel
theorem dX11_exchange_24 : decode cX11_exchange 24 = .ok (.aload_n 0, 1) := by decide +kernel
theorem dX11_exchange_25 : decode cX11_exchange 25 = .ok (.getfield 103, 3) := by decide +kernel
theorem dX11_exchange_28 : decode cX11_exchange 28 = .ok (.iload_n 2, 1) := by decide +kernel
theorem dX11_exchange_29 : decode cX11_exchange 29 = .ok (.iaload, 1) := by decide +kernel
theorem dX11_exchange_30 : decode cX11_exchange 30 = .ok (.iastore, 1) := by decide +kernel
theorem dX11_exchange_31 : decode cX11_exchange 31 = .ok (.aload_n 0, 1) := by decide +kernel
theorem dX11_exchange_32 : decode cX11_exchange 32 = .ok (.getfield 103, 3) := by decide +kernel
theorem dX11_exchange_35 : decode cX11_exchange 35 = .ok (.iload_n 2, 1) := by decide +kernel
theorem dX11_exchange_36 : decode cX11_exchange 36 = .ok (.iload_n 3, 1) := by decide +kernel
theorem dX11_exchange_37 : decode cX11_exchange 37 = .ok (.iastore, 1) := by decide +kernel
theorem dX11_exchange_38 : decode cX11_exchange 38 = .ok (.iinc 2 1, 3) := by decide +kernel
theorem dX11_exchange_41 : decode cX11_exchange 41 = .ok (.goto (-39), 3) := by decide +kernel
theorem dX11_exchange_44 : decode cX11_exchange 44 = .ok (.return_, 1) := by decide +kernel
theorem dX11_sit_0 : decode cX11_sit 0 = .ok (.aload_n 0, 1) := by decide +kernel
theorem dX11_sit_1 : decode cX11_sit 1 = .ok (.iload_n 1, 1) := by decide +kernel
theorem dX11_sit_2 : decode cX11_sit 2 = .ok (.invokevirtual 437, 3) := by decide +kernel
theorem dX11_sit_5 : decode cX11_sit 5 = .ok (.ifCond .eq 21, 3) := by decide +kernel
theorem dX11_sit_8 : decode cX11_sit 8 = .ok (.aload_n 0, 1) := by decide +kernel
theorem dX11_sit_9 : decode cX11_sit 9 = .ok (.iload_n 2, 1) := by decide +kernel
theorem dX11_sit_10 : decode cX11_sit 10 = .ok (.invokevirtual 512, 3) := by decide +kernel
theorem dX11_sit_13 : decode cX11_sit 13 = .ok (.ifCond .eq 13, 3) := by decide +kernel
theorem dX11_sit_16 : decode cX11_sit 16 = .ok (.aload_n 0, 1) := by decide +kernel
theorem dX11_sit_17 : decode cX11_sit 17 = .ok (.getfield 103, 3) := by decide +kernel
theorem dX11_sit_20 : decode cX11_sit 20 = .ok (.iload_n 1, 1) := by decide +kernel
theorem dX11_sit_21 : decode cX11_sit 21 = .ok (.iaload, 1) := by decide +kernel
theorem dX11_sit_22 : decode cX11_sit 22 = .ok (.iload_n 2, 1) := by decide +kernel
theorem dX11_sit_23 : decode cX11_sit 23 = .ok (.if_icmp .ne 5, 3) := by decide +kernel
theorem dX11_sit_26 : decode cX11_sit 26 = .ok (.iconst (-1), 1) := by decide +kernel
theorem dX11_sit_27 : decode cX11_sit 27 = .ok (.ireturn, 1) := by decide +kernel
theorem dX11_sit_28 : decode cX11_sit 28 = .ok (.aload_n 0, 1) := by decide +kernel
theorem dX11_sit_29 : decode cX11_sit 29 = .ok (.invokevirtual 515, 3) := by decide +kernel
theorem dX11_sit_32 : decode cX11_sit 32 = .ok (.aload_n 0, 1) := by decide +kernel
theorem dX11_sit_33 : decode cX11_sit 33 = .ok (.getfield 103, 3) := by decide +kernel
theorem dX11_sit_36 : decode cX11_sit 36 = .ok (.iload_n 1, 1) := by decide +kernel
theorem dX11_sit_37 : decode cX11_sit 37 = .ok (.iaload, 1) := by decide +kernel
theorem dX11_sit_38 : decode cX11_sit 38 = .ok (.istore_n 3, 1) := by decide +kernel
theorem dX11_sit_39 : decode cX11_sit 39 = .ok (.aload_n 0, 1) := by decide +kernel
theorem dX11_sit_40 : decode cX11_sit 40 = .ok (.getfield 103, 3) := by decide +kernel
theorem dX11_sit_43 : decode cX11_sit 43 = .ok (.iload_n 1, 1) := by decide +kernel
theorem dX11_sit_44 : decode cX11_sit 44 = .ok (.iload_n 2, 1) := by decide +kernel
theorem dX11_sit_45 : decode cX11_sit 45 = .ok (.iastore, 1) := by decide +kernel
theorem dX11_sit_46 : decode cX11_sit 46 = .ok (.iload_n 3, 1) := by decide +kernel
theorem dX11_sit_47 : decode cX11_sit 47 = .ok (.ireturn, 1) := by decide +kernel
theorem dX11_isOpen_0 : decode cX11_isOpen 0 = .ok (.aload_n 0, 1) := by decide +kernel
theorem dX11_isOpen_1 : decode cX11_isOpen 1 = .ok (.iload_n 1, 1) := by decide +kernel
theorem dX11_isOpen_2 : decode cX11_isOpen 2 = .ok (.invokevirtual 506, 3) := by decide +kernel
theorem dX11_isOpen_5 : decode cX11_isOpen 5 = .ok (.ifCond .eq 19, 3) := by decide +kernel
theorem dX11_isOpen_8 : decode cX11_isOpen 8 = .ok (.aload_n 0, 1) := by decide +kernel
theorem dX11_isOpen_9 : decode cX11_isOpen 9 = .ok (.getfield 103, 3) := by decide +kernel
theorem dX11_isOpen_12 : decode cX11_isOpen 12 = .ok (.bipush 8, 2) := by decide +kernel
theorem dX11_isOpen_14 : decode cX11_isOpen 14 = .ok (.iload_n 1, 1) := by decide +kernel
theorem dX11_isOpen_15 : decode cX11_isOpen 15 = .ok (.iadd, 1) := by decide +kernel
theorem dX11_isOpen_16 : decode cX11_isOpen 16 = .ok (.iaload, 1) := by decide +kernel
theorem dX11_isOpen_17 : decode cX11_isOpen 17 = .ok (.ifCond .ne 7, 3) := by decide +kernel
theorem dX11_isOpen_20 : decode cX11_isOpen 20 = .ok (.iconst 1, 1) := by decide +kernel
theorem dX11_isOpen_21 : decode cX11_isOpen 21 = .ok (.goto 4, 3) := by decide +kernel
theorem dX11_isOpen_24 : decode cX11_isOpen 24 = .ok (.iconst 0, 1) := by decide +kernel
theorem dX11_isOpen_25 : decode cX11_isOpen 25 = .ok (.ireturn, 1) := by decide +kernel
theorem dX11_move_0 : decode cX11_move 0 = .ok (.aload_n 0, 1) := by decide +kernel
theorem dX11_move_1 : decode cX11_move 1 = .ok (.iload_n 1, 1) := by decide +kernel
theorem dX11_move_2 : decode cX11_move 2 = .ok (.invokevirtual 518, 3) := by decide +kernel
theorem dX11_move_5 : decode cX11_move 5 = .ok (.ifCond .eq 19, 3) := by decide +kernel
theorem dX11_move_8 : decode cX11_move 8 = .ok (.aload_n 0, 1) := by decide +kernel
theorem dX11_move_9 : decode cX11_move 9 = .ok (.iload_n 2, 1) := by decide +kernel
theorem dX11_move_10 : decode cX11_move 10 = .ok (.invokevirtual 512, 3) := by decide +kernel
theorem dX11_move_13 : decode cX11_move 13 = .ok (.ifCond .eq 11, 3) := by decide +kernel
theorem dX11_move_16 : decode cX11_move 16 = .ok (.aload_n 0, 1) := by decide +kernel
theorem dX11_move_17 : decode cX11_move 17 = .ok (.iload_n 3, 1) := by decide +kernel
theorem dX11_move_18 : decode cX11_move 18 = .ok (.invokevirtual 512, 3) := by decide +kernel
theorem dX11_move_21 : decode cX11_move 21 = .ok (.ifCond .ne 5, 3) := by decide +kernel
theorem dX11_move_24 : decode cX11_move 24 = .ok (.iconst (-1), 1) := by decide +kernel
theorem dX11_move_25 : decode cX11_move 25 = .ok (.ireturn, 1) := by decide +kernel
theorem dX11_move_26 : decode cX11_move 26 = .ok (.aload_n 0, 1) := by decide +kernel
theorem dX11_move_27 : decode cX11_move 27 = .ok (.invokevirtual 515, 3) := by decide +kernel
theorem dX11_move_30 : decode cX11_move 30 = .ok (.aload_n 0, 1) := by decide +kernel
theorem dX11_move_31 : decode cX11_move 31 = .ok (.getfield 103, 3) := by decide +kernel
theorem dX11_move_34 : decode cX11_move 34 = .ok (.bipush 18, 2) := by decide +kernel
theorem dX11_move_36 : decode cX11_move 36 = .ok (.iload_n 1, 1) := by decide +kernel
theorem dX11_move_37 : decode cX11_move 37 = .ok (.iadd, 1) := by decide +kernel
theorem dX11_move_38 : decode cX11_move 38 = .ok (.iload_n 2, 1) := by decide +kernel
theorem dX11_move_39 : decode cX11_move 39 = .ok (.iastore, 1) := by decide +kernel
theorem dX11_move_40 : decode cX11_move 40 = .ok (.aload_n 0, 1) := by decide +kernel
theorem dX11_move_41 : decode cX11_move 41 = .ok (.getfield 103, 3) := by decide +kernel
theorem dX11_move_44 : decode cX11_move 44 = .ok (.bipush 23, 2) := by decide +kernel
theorem dX11_move_46 : decode cX11_move 46 = .ok (.iload_n 1, 1) := by decide +kernel
theorem dX11_move_47 : decode cX11_move 47 = .ok (.iadd, 1) := by decide +kernel
theorem dX11_move_48 : decode cX11_move 48 = .ok (.iload_n 3, 1) := by decide +kernel
theorem dX11_move_49 : decode cX11_move 49 = .ok (.iastore, 1) := by decide +kernel
theorem dX11_move_50 : decode cX11_move 50 = .ok (.aload_n 0, 1) := by decide +kernel
theorem dX11_move_51 : decode cX11_move 51 = .ok (.getfield 103, 3) := by decide +kernel
theorem dX11_move_54 : decode cX11_move 54 = .ok (.bipush 13, 2) := by decide +kernel
theorem dX11_move_56 : decode cX11_move 56 = .ok (.iload_n 1, 1) := by decide +kernel
theorem dX11_move_57 : decode cX11_move 57 = .ok (.iadd, 1) := by decide +kernel
theorem dX11_move_58 : decode cX11_move 58 = .ok (.iaload, 1) := by decide +kernel
theorem dX11_move_59 : decode cX11_move 59 = .ok (.ireturn, 1) := by decide +kernel
theorem dX11_licence_0 : decode cX11_licence 0 = .ok (.aload_n 0, 1) := by decide +kernel
theorem dX11_licence_1 : decode cX11_licence 1 = .ok (.iload_n 1, 1) := by decide +kernel
theorem dX11_licence_2 : decode cX11_licence 2 = .ok (.invokevirtual 518, 3) := by decide +kernel
theorem dX11_licence_5 : decode cX11_licence 5 = .ok (.ifCond .ne 5, 3) := by decide +kernel
theorem dX11_licence_8 : decode cX11_licence 8 = .ok (.iconst 0, 1) := by decide +kernel
theorem dX11_licence_9 : decode cX11_licence 9 = .ok (.ireturn, 1) := by decide +kernel
theorem dX11_licence_10 : decode cX11_licence 10 = .ok (.aload_n 0, 1) := by decide +kernel
theorem dX11_licence_11 : decode cX11_licence 11 = .ok (.invokevirtual 485, 3) := by decide +kernel
theorem dX11_licence_14 : decode cX11_licence 14 = .ok (.aload_n 0, 1) := by decide +kernel
theorem dX11_licence_15 : decode cX11_licence 15 = .ok (.iload_n 1, 1) := by decide +kernel
theorem dX11_licence_16 : decode cX11_licence 16 = .ok (.invokevirtual 458, 3) := by decide +kernel
theorem dX11_licence_19 : decode cX11_licence 19 = .ok (.ifCond .le 5, 3) := by decide +kernel
theorem dX11_licence_22 : decode cX11_licence 22 = .ok (.iconst 0, 1) := by decide +kernel
theorem dX11_licence_23 : decode cX11_licence 23 = .ok (.ireturn, 1) := by decide +kernel
theorem dX11_licence_24 : decode cX11_licence 24 = .ok (.aload_n 0, 1) := by decide +kernel
theorem dX11_licence_25 : decode cX11_licence 25 = .ok (.invokevirtual 515, 3) := by decide +kernel
theorem dX11_licence_28 : decode cX11_licence 28 = .ok (.aload_n 0, 1) := by decide +kernel
theorem dX11_licence_29 : decode cX11_licence 29 = .ok (.getfield 103, 3) := by decide +kernel
theorem dX11_licence_32 : decode cX11_licence 32 = .ok (.bipush 8, 2) := by decide +kernel
theorem dX11_licence_34 : decode cX11_licence 34 = .ok (.iload_n 1, 1) := by decide +kernel
theorem dX11_licence_35 : decode cX11_licence 35 = .ok (.iadd, 1) := by decide +kernel
theorem dX11_licence_36 : decode cX11_licence 36 = .ok (.iconst 1, 1) := by decide +kernel
theorem dX11_licence_37 : decode cX11_licence 37 = .ok (.iastore, 1) := by decide +kernel
theorem dX11_licence_38 : decode cX11_licence 38 = .ok (.iconst 1, 1) := by decide +kernel
theorem dX11_licence_39 : decode cX11_licence 39 = .ok (.ireturn, 1) := by decide +kernel
theorem dX11_sunday_0 : decode cX11_sunday 0 = .ok (.aload_n 0, 1) := by decide +kernel
theorem dX11_sunday_1 : decode cX11_sunday 1 = .ok (.getfield 103, 3) := by decide +kernel
theorem dX11_sunday_4 : decode cX11_sunday 4 = .ok (.bipush 28, 2) := by decide +kernel
theorem dX11_sunday_6 : decode cX11_sunday 6 = .ok (.iaload, 1) := by decide +kernel
theorem dX11_sunday_7 : decode cX11_sunday 7 = .ok (.sipush 999, 3) := by decide +kernel
theorem dX11_sunday_10 : decode cX11_sunday 10 = .ok (.if_icmp .ne 5, 3) := by decide +kernel
theorem dX11_sunday_13 : decode cX11_sunday 13 = .ok (.iconst (-1), 1) := by decide +kernel
theorem dX11_sunday_14 : decode cX11_sunday 14 = .ok (.ireturn, 1) := by decide +kernel
theorem dX11_sunday_15 : decode cX11_sunday 15 = .ok (.aload_n 0, 1) := by decide +kernel
theorem dX11_sunday_16 : decode cX11_sunday 16 = .ok (.invokevirtual 515, 3) := by decide +kernel
theorem dX11_sunday_19 : decode cX11_sunday 19 = .ok (.aload_n 0, 1) := by decide +kernel
theorem dX11_sunday_20 : decode cX11_sunday 20 = .ok (.invokevirtual 485, 3) := by decide +kernel
theorem dX11_sunday_23 : decode cX11_sunday 23 = .ok (.aload_n 0, 1) := by decide +kernel
theorem dX11_sunday_24 : decode cX11_sunday 24 = .ok (.invokevirtual 521, 3) := by decide +kernel
theorem dX11_sunday_27 : decode cX11_sunday 27 = .ok (.istore_n 1, 1) := by decide +kernel
theorem dX11_sunday_28 : decode cX11_sunday 28 = .ok (.iconst 0, 1) := by decide +kernel
theorem dX11_sunday_29 : decode cX11_sunday 29 = .ok (.istore_n 2, 1) := by decide +kernel
theorem dX11_sunday_30 : decode cX11_sunday 30 = .ok (.iload_n 2, 1) := by decide +kernel
theorem dX11_sunday_31 : decode cX11_sunday 31 = .ok (.bipush 30, 2) := by decide +kernel
theorem dX11_sunday_33 : decode cX11_sunday 33 = .ok (.if_icmp .ge 21, 3) := by decide +kernel
theorem dX11_sunday_36 : decode cX11_sunday 36 = .ok (.aload_n 0, 1) := by decide +kernel
theorem dX11_sunday_37 : decode cX11_sunday 37 = .ok (.getfield 103, 3) := by decide +kernel
theorem dX11_sunday_40 : decode cX11_sunday 40 = .ok (.iload_n 2, 1) := by decide +kernel
theorem dX11_sunday_41 : decode cX11_sunday 41 = .ok (.aload_n 0, 1) := by decide +kernel
theorem dX11_sunday_42 : decode cX11_sunday 42 = .ok (.getfield 106, 3) := by decide +kernel
theorem dX11_sunday_45 : decode cX11_sunday 45 = .ok (.iload_n 2, 1) := by decide +kernel
theorem dX11_sunday_46 : decode cX11_sunday 46 = .ok (.iaload, 1) := by decide +kernel
theorem dX11_sunday_47 : decode cX11_sunday 47 = .ok (.iastore, 1) := by decide +kernel
theorem dX11_sunday_48 : decode cX11_sunday 48 = .ok (.iinc 2 1, 3) := by decide +kernel
theorem dX11_sunday_51 : decode cX11_sunday 51 = .ok (.goto (-21), 3) := by decide +kernel
theorem dX11_sunday_54 : decode cX11_sunday 54 = .ok (.iload_n 1, 1) := by decide +kernel
theorem dX11_sunday_55 : decode cX11_sunday 55 = .ok (.ireturn, 1) := by decide +kernel
theorem dX11_undo_0 : decode cX11_undo 0 = .ok (.aload_n 0, 1) := by decide +kernel
theorem dX11_undo_1 : decode cX11_undo 1 = .ok (.getfield 424, 3) := by decide +kernel
theorem dX11_undo_4 : decode cX11_undo 4 = .ok (.ifCond .ne 5, 3) := by decide +kernel
theorem dX11_undo_7 : decode cX11_undo 7 = .ok (.iconst 0, 1) := by decide +kernel
theorem dX11_undo_8 : decode cX11_undo 8 = .ok (.ireturn, 1) := by decide +kernel
theorem dX11_undo_9 : decode cX11_undo 9 = .ok (.aload_n 0, 1) := by decide +kernel
theorem dX11_undo_10 : decode cX11_undo 10 = .ok (.dup, 1) := by decide +kernel
theorem dX11_undo_11 : decode cX11_undo 11 = .ok (.getfield 424, 3) := by decide +kernel
theorem dX11_undo_14 : decode cX11_undo 14 = .ok (.iconst 1, 1) := by decide +kernel
theorem dX11_undo_15 : decode cX11_undo 15 = .ok (.isub, 1) := by decide +kernel
theorem dX11_undo_16 : decode cX11_undo 16 = .ok (.putfield 424, 3) := by decide +kernel
theorem dX11_undo_19 : decode cX11_undo 19 = .ok (.aload_n 0, 1) := by decide +kernel
theorem dX11_undo_20 : decode cX11_undo 20 = .ok (.dup, 1) := by decide +kernel
theorem dX11_undo_21 : decode cX11_undo 21 = .ok (.getfield 427, 3) := by decide +kernel
theorem dX11_undo_24 : decode cX11_undo 24 = .ok (.iconst 1, 1) := by decide +kernel
theorem dX11_undo_25 : decode cX11_undo 25 = .ok (.iadd, 1) := by decide +kernel
theorem dX11_undo_26 : decode cX11_undo 26 = .ok (.putfield 427, 3) := by decide +kernel
theorem dX11_undo_29 : decode cX11_undo 29 = .ok (.aload_n 0, 1) := by decide +kernel
theorem dX11_undo_30 : decode cX11_undo 30 = .ok (.bipush 30, 2) := by decide +kernel
theorem dX11_undo_32 : decode cX11_undo 32 = .ok (.aload_n 0, 1) := by decide +kernel
theorem dX11_undo_33 : decode cX11_undo 33 = .ok (.getfield 424, 3) := by decide +kernel
theorem dX11_undo_36 : decode cX11_undo 36 = .ok (.imul, 1) := by decide +kernel
theorem dX11_undo_37 : decode cX11_undo 37 = .ok (.invokevirtual 524, 3) := by decide +kernel
theorem dX11_undo_40 : decode cX11_undo 40 = .ok (.iconst 1, 1) := by decide +kernel
theorem dX11_undo_41 : decode cX11_undo 41 = .ok (.ireturn, 1) := by decide +kernel
theorem dX11_redo_0 : decode cX11_redo 0 = .ok (.aload_n 0, 1) := by decide +kernel
theorem dX11_redo_1 : decode cX11_redo 1 = .ok (.getfield 427, 3) := by decide +kernel
theorem dX11_redo_4 : decode cX11_redo 4 = .ok (.ifCond .ne 5, 3) := by decide +kernel
theorem dX11_redo_7 : decode cX11_redo 7 = .ok (.iconst 0, 1) := by decide +kernel
theorem dX11_redo_8 : decode cX11_redo 8 = .ok (.ireturn, 1) := by decide +kernel
theorem dX11_redo_9 : decode cX11_redo 9 = .ok (.aload_n 0, 1) := by decide +kernel
theorem dX11_redo_10 : decode cX11_redo 10 = .ok (.bipush 30, 2) := by decide +kernel
theorem dX11_redo_12 : decode cX11_redo 12 = .ok (.aload_n 0, 1) := by decide +kernel
theorem dX11_redo_13 : decode cX11_redo 13 = .ok (.getfield 424, 3) := by decide +kernel
theorem dX11_redo_16 : decode cX11_redo 16 = .ok (.imul, 1) := by decide +kernel
theorem dX11_redo_17 : decode cX11_redo 17 = .ok (.invokevirtual 524, 3) := by decide +kernel
theorem dX11_redo_20 : decode cX11_redo 20 = .ok (.aload_n 0, 1) := by decide +kernel
theorem dX11_redo_21 : decode cX11_redo 21 = .ok (.dup, 1) := by decide +kernel
theorem dX11_redo_22 : decode cX11_redo 22 = .ok (.getfield 424, 3) := by decide +kernel
theorem dX11_redo_25 : decode cX11_redo 25 = .ok (.iconst 1, 1) := by decide +kernel
theorem dX11_redo_26 : decode cX11_redo 26 = .ok (.iadd, 1) := by decide +kernel
theorem dX11_redo_27 : decode cX11_redo 27 = .ok (.putfield 424, 3) := by decide +kernel
theorem dX11_redo_30 : decode cX11_redo 30 = .ok (.aload_n 0, 1) := by decide +kernel
theorem dX11_redo_31 : decode cX11_redo 31 = .ok (.dup, 1) := by decide +kernel
theorem dX11_redo_32 : decode cX11_redo 32 = .ok (.getfield 427, 3) := by decide +kernel
theorem dX11_redo_35 : decode cX11_redo 35 = .ok (.iconst 1, 1) := by decide +kernel
theorem dX11_redo_36 : decode cX11_redo 36 = .ok (.isub, 1) := by decide +kernel
theorem dX11_redo_37 : decode cX11_redo 37 = .ok (.putfield 427, 3) := by decide +kernel
theorem dX11_redo_40 : decode cX11_redo 40 = .ok (.iconst 1, 1) := by decide +kernel
theorem dX11_redo_41 : decode cX11_redo 41 = .ok (.ireturn, 1) := by decide +kernel
theorem dX11_divisor_0 : decode cX11_divisor 0 = .ok (.iload_n 0, 1) := by decide +kernel
theorem dX11_divisor_1 : decode cX11_divisor 1 = .ok (.istore_n 2, 1) := by decide +kernel
theorem dX11_divisor_2 : decode cX11_divisor 2 = .ok (.iload_n 1, 1) := by decide +kernel
theorem dX11_divisor_3 : decode cX11_divisor 3 = .ok (.istore_n 3, 1) := by decide +kernel
theorem dX11_divisor_4 : decode cX11_divisor 4 = .ok (.iload_n 3, 1) := by decide +kernel
theorem dX11_divisor_5 : decode cX11_divisor 5 = .ok (.ifCond .le 16, 3) := by decide +kernel
theorem dX11_divisor_8 : decode cX11_divisor 8 = .ok (.iload_n 2, 1) := by decide +kernel
theorem dX11_divisor_9 : decode cX11_divisor 9 = .ok (.iload_n 3, 1) := by decide +kernel
theorem dX11_divisor_10 : decode cX11_divisor 10 = .ok (.irem, 1) := by decide +kernel
theorem dX11_divisor_11 : decode cX11_divisor 11 = .ok (.istore 4, 2) := by decide +kernel
theorem dX11_divisor_13 : decode cX11_divisor 13 = .ok (.iload_n 3, 1) := by decide +kernel
theorem dX11_divisor_14 : decode cX11_divisor 14 = .ok (.istore_n 2, 1) := by decide +kernel
theorem dX11_divisor_15 : decode cX11_divisor 15 = .ok (.iload 4, 2) := by decide +kernel
theorem dX11_divisor_17 : decode cX11_divisor 17 = .ok (.istore_n 3, 1) := by decide +kernel
theorem dX11_divisor_18 : decode cX11_divisor 18 = .ok (.goto (-14), 3) := by decide +kernel
theorem dX11_divisor_21 : decode cX11_divisor 21 = .ok (.iload_n 2, 1) := by decide +kernel
theorem dX11_divisor_22 : decode cX11_divisor 22 = .ok (.ireturn, 1) := by decide +kernel
theorem dX11_layQuiet_0 : decode cX11_layQuiet 0 = .ok (.aload_n 0, 1) := by decide +kernel
theorem dX11_layQuiet_1 : decode cX11_layQuiet 1 = .ok (.iconst 1, 1) := by decide +kernel
theorem dX11_layQuiet_2 : decode cX11_layQuiet 2 = .ok (.putfield 527, 3) := by decide +kernel
theorem dX11_layQuiet_5 : decode cX11_layQuiet 5 = .ok (.aload_n 0, 1) := by decide +kernel
theorem dX11_layQuiet_6 : decode cX11_layQuiet 6 = .ok (.iconst 1, 1) := by decide +kernel
theorem dX11_layQuiet_7 : decode cX11_layQuiet 7 = .ok (.putfield 530, 3) := by decide +kernel
theorem dX11_layQuiet_10 : decode cX11_layQuiet 10 = .ok (.aload_n 0, 1) := by decide +kernel
theorem dX11_layQuiet_11 : decode cX11_layQuiet 11 = .ok (.iload_n 1, 1) := by decide +kernel
theorem dX11_layQuiet_12 : decode cX11_layQuiet 12 = .ok (.invokevirtual 491, 3) := by decide +kernel
theorem dX11_layQuiet_15 : decode cX11_layQuiet 15 = .ok (.istore 4, 2) := by decide +kernel
theorem dX11_layQuiet_17 : decode cX11_layQuiet 17 = .ok (.iconst 0, 1) := by decide +kernel
theorem dX11_layQuiet_18 : decode cX11_layQuiet 18 = .ok (.istore 5, 2) := by decide +kernel
theorem dX11_layQuiet_20 : decode cX11_layQuiet 20 = .ok (.iload 5, 2) := by decide +kernel
theorem dX11_layQuiet_22 : decode cX11_layQuiet 22 = .ok (.aload_n 0, 1) := by decide +kernel
theorem dX11_layQuiet_23 : decode cX11_layQuiet 23 = .ok (.getfield 412, 3) := by decide +kernel
theorem dX11_layQuiet_26 : decode cX11_layQuiet 26 = .ok (.if_icmp .ge 82, 3) := by decide +kernel
theorem dX11_layQuiet_29 : decode cX11_layQuiet 29 = .ok (.iload 4, 2) := by decide +kernel
theorem dX11_layQuiet_31 : decode cX11_layQuiet 31 = .ok (.iload 5, 2) := by decide +kernel
theorem dX11_layQuiet_33 : decode cX11_layQuiet 33 = .ok (.ishr, 1) := by decide +kernel
theorem dX11_layQuiet_34 : decode cX11_layQuiet 34 = .ok (.iconst 1, 1) := by decide +kernel
theorem dX11_layQuiet_35 : decode cX11_layQuiet 35 = .ok (.iand, 1) := by decide +kernel
theorem dX11_layQuiet_36 : decode cX11_layQuiet 36 = .ok (.ifCond .eq 66, 3) := by decide +kernel
theorem dX11_layQuiet_39 : decode cX11_layQuiet 39 = .ok (.aload_n 0, 1) := by decide +kernel
theorem dX11_layQuiet_40 : decode cX11_layQuiet 40 = .ok (.iload 5, 2) := by decide +kernel
theorem dX11_layQuiet_42 : decode cX11_layQuiet 42 = .ok (.invokevirtual 476, 3) := by decide +kernel
theorem dX11_layQuiet_45 : decode cX11_layQuiet 45 = .ok (.ifCond .ne 57, 3) := by decide +kernel
theorem dX11_layQuiet_48 : decode cX11_layQuiet 48 = .ok (.aload_n 0, 1) := by decide +kernel
theorem dX11_layQuiet_49 : decode cX11_layQuiet 49 = .ok (.getfield 106, 3) := by decide +kernel
theorem dX11_layQuiet_52 : decode cX11_layQuiet 52 = .ok (.iload 5, 2) := by decide +kernel
theorem dX11_layQuiet_54 : decode cX11_layQuiet 54 = .ok (.iaload, 1) := by decide +kernel
theorem dX11_layQuiet_55 : decode cX11_layQuiet 55 = .ok (.iload_n 2, 1) := by decide +kernel
theorem dX11_layQuiet_56 : decode cX11_layQuiet 56 = .ok (.if_icmp .eq 17, 3) := by decide +kernel
theorem dX11_layQuiet_59 : decode cX11_layQuiet 59 = .ok (.aload_n 0, 1) := by decide +kernel
theorem dX11_layQuiet_60 : decode cX11_layQuiet 60 = .ok (.getfield 106, 3) := by decide +kernel
theorem dX11_layQuiet_63 : decode cX11_layQuiet 63 = .ok (.iload 5, 2) := by decide +kernel
theorem dX11_layQuiet_65 : decode cX11_layQuiet 65 = .ok (.iaload, 1) := by decide +kernel
theorem dX11_layQuiet_66 : decode cX11_layQuiet 66 = .ok (.iload_n 3, 1) := by decide +kernel
theorem dX11_layQuiet_67 : decode cX11_layQuiet 67 = .ok (.if_icmp .eq 6, 3) := by decide +kernel
theorem dX11_layQuiet_70 : decode cX11_layQuiet 70 = .ok (.goto 32, 3) := by decide +kernel
theorem dX11_layQuiet_73 : decode cX11_layQuiet 73 = .ok (.aload_n 0, 1) := by decide +kernel
theorem dX11_layQuiet_74 : decode cX11_layQuiet 74 = .ok (.dup, 1) := by decide +kernel
theorem dX11_layQuiet_75 : decode cX11_layQuiet 75 = .ok (.getfield 527, 3) := by decide +kernel
theorem dX11_layQuiet_78 : decode cX11_layQuiet 78 = .ok (.bipush 10, 2) := by decide +kernel
theorem dX11_layQuiet_80 : decode cX11_layQuiet 80 = .ok (.aload_n 0, 1) := by decide +kernel
theorem dX11_layQuiet_81 : decode cX11_layQuiet 81 = .ok (.iload 5, 2) := by decide +kernel
theorem dX11_layQuiet_83 : decode cX11_layQuiet 83 = .ok (.invokevirtual 500, 3) := by decide +kernel
theorem dX11_layQuiet_86 : decode cX11_layQuiet 86 = .ok (.isub, 1) := by decide +kernel
theorem dX11_layQuiet_87 : decode cX11_layQuiet 87 = .ok (.imul, 1) := by decide +kernel
theorem dX11_layQuiet_88 : decode cX11_layQuiet 88 = .ok (.putfield 527, 3) := by decide +kernel
theorem dX11_layQuiet_91 : decode cX11_layQuiet 91 = .ok (.aload_n 0, 1) := by decide +kernel
theorem dX11_layQuiet_92 : decode cX11_layQuiet 92 = .ok (.dup, 1) := by decide +kernel
theorem dX11_layQuiet_93 : decode cX11_layQuiet 93 = .ok (.getfield 530, 3) := by decide +kernel
theorem dX11_layQuiet_96 : decode cX11_layQuiet 96 = .ok (.bipush 10, 2) := by decide +kernel
theorem dX11_layQuiet_98 : decode cX11_layQuiet 98 = .ok (.imul, 1) := by decide +kernel
theorem dX11_layQuiet_99 : decode cX11_layQuiet 99 = .ok (.putfield 530, 3) := by decide +kernel
theorem dX11_layQuiet_102 : decode cX11_layQuiet 102 = .ok (.iinc 5 1, 3) := by decide +kernel
theorem dX11_layQuiet_105 : decode cX11_layQuiet 105 = .ok (.goto (-85), 3) := by decide +kernel
theorem dX11_layQuiet_108 : decode cX11_layQuiet 108 = .ok (.return_, 1) := by decide +kernel
theorem dX11_quiet_0 : decode cX11_quiet 0 = .ok (.aload_n 0, 1) := by decide +kernel
theorem dX11_quiet_1 : decode cX11_quiet 1 = .ok (.iload_n 1, 1) := by decide +kernel
theorem dX11_quiet_2 : decode cX11_quiet 2 = .ok (.invokevirtual 518, 3) := by decide +kernel
theorem dX11_quiet_5 : decode cX11_quiet 5 = .ok (.ifCond .eq 29, 3) := by decide +kernel
theorem dX11_quiet_8 : decode cX11_quiet 8 = .ok (.aload_n 0, 1) := by decide +kernel
theorem dX11_quiet_9 : decode cX11_quiet 9 = .ok (.iload_n 2, 1) := by decide +kernel
theorem dX11_quiet_10 : decode cX11_quiet 10 = .ok (.invokevirtual 512, 3) := by decide +kernel
theorem dX11_quiet_13 : decode cX11_quiet 13 = .ok (.ifCond .eq 21, 3) := by decide +kernel
theorem dX11_quiet_16 : decode cX11_quiet 16 = .ok (.aload_n 0, 1) := by decide +kernel
theorem dX11_quiet_17 : decode cX11_quiet 17 = .ok (.iload_n 3, 1) := by decide +kernel
theorem dX11_quiet_18 : decode cX11_quiet 18 = .ok (.invokevirtual 512, 3) := by decide +kernel
theorem dX11_quiet_21 : decode cX11_quiet 21 = .ok (.ifCond .eq 13, 3) := by decide +kernel
theorem dX11_quiet_24 : decode cX11_quiet 24 = .ok (.iload 4, 2) := by decide +kernel
theorem dX11_quiet_26 : decode cX11_quiet 26 = .ok (.iconst 0, 1) := by decide +kernel
theorem dX11_quiet_27 : decode cX11_quiet 27 = .ok (.iconst 1, 1) := by decide +kernel
theorem dX11_quiet_28 : decode cX11_quiet 28 = .ok (.invokestatic 433, 3) := by decide +kernel
theorem dX11_quiet_31 : decode cX11_quiet 31 = .ok (.ifCond .ne 5, 3) := by decide +kernel
theorem dX11_quiet_34 : decode cX11_quiet 34 = .ok (.iconst (-1), 1) := by decide +kernel
theorem dX11_quiet_35 : decode cX11_quiet 35 = .ok (.ireturn, 1) := by decide +kernel
theorem dX11_quiet_36 : decode cX11_quiet 36 = .ok (.aload_n 0, 1) := by decide +kernel
theorem dX11_quiet_37 : decode cX11_quiet 37 = .ok (.invokevirtual 509, 3) := by decide +kernel
theorem dX11_quiet_40 : decode cX11_quiet 40 = .ok (.aload_n 0, 1) := by decide +kernel
theorem dX11_quiet_41 : decode cX11_quiet 41 = .ok (.iload_n 1, 1) := by decide +kernel
theorem dX11_quiet_42 : decode cX11_quiet 42 = .ok (.iload_n 2, 1) := by decide +kernel
theorem dX11_quiet_43 : decode cX11_quiet 43 = .ok (.iload_n 3, 1) := by decide +kernel
theorem dX11_quiet_44 : decode cX11_quiet 44 = .ok (.invokevirtual 533, 3) := by decide +kernel
theorem dX11_quiet_47 : decode cX11_quiet 47 = .ok (.aload_n 0, 1) := by decide +kernel
theorem dX11_quiet_48 : decode cX11_quiet 48 = .ok (.getfield 530, 3) := by decide +kernel
theorem dX11_quiet_51 : decode cX11_quiet 51 = .ok (.aload_n 0, 1) := by decide +kernel
theorem dX11_quiet_52 : decode cX11_quiet 52 = .ok (.getfield 527, 3) := by decide +kernel
theorem dX11_quiet_55 : decode cX11_quiet 55 = .ok (.invokestatic 537, 3) := by decide +kernel
theorem dX11_quiet_58 : decode cX11_quiet 58 = .ok (.istore 5, 2) := by decide +kernel
theorem dX11_quiet_60 : decode cX11_quiet 60 = .ok (.iload 4, 2) := by decide +kernel
theorem dX11_quiet_62 : decode cX11_quiet 62 = .ok (.ifCond .ne 13, 3) := by decide +kernel
theorem dX11_quiet_65 : decode cX11_quiet 65 = .ok (.aload_n 0, 1) := by decide +kernel
theorem dX11_quiet_66 : decode cX11_quiet 66 = .ok (.getfield 527, 3) := by decide +kernel
theorem dX11_quiet_69 : decode cX11_quiet 69 = .ok (.iload 5, 2) := by decide +kernel
theorem dX11_quiet_71 : decode cX11_quiet 71 = .ok (.idiv, 1) := by decide +kernel
theorem dX11_quiet_72 : decode cX11_quiet 72 = .ok (.goto 10, 3) := by decide +kernel
theorem dX11_quiet_75 : decode cX11_quiet 75 = .ok (.aload_n 0, 1) := by decide +kernel
theorem dX11_quiet_76 : decode cX11_quiet 76 = .ok (.getfield 530, 3) := by decide +kernel
theorem dX11_quiet_79 : decode cX11_quiet 79 = .ok (.iload 5, 2) := by decide +kernel
theorem dX11_quiet_81 : decode cX11_quiet 81 = .ok (.idiv, 1) := by decide +kernel
theorem dX11_quiet_82 : decode cX11_quiet 82 = .ok (.ireturn, 1) := by decide +kernel
theorem dX11_quietest_0 : decode cX11_quietest 0 = .ok (.aload_n 0, 1) := by decide +kernel
theorem dX11_quietest_1 : decode cX11_quietest 1 = .ok (.iload_n 1, 1) := by decide +kernel
theorem dX11_quietest_2 : decode cX11_quietest 2 = .ok (.invokevirtual 518, 3) := by decide +kernel
theorem dX11_quietest_5 : decode cX11_quietest 5 = .ok (.ifCond .eq 12, 3) := by decide +kernel
theorem dX11_quietest_8 : decode cX11_quietest 8 = .ok (.iload_n 2, 1) := by decide +kernel
theorem dX11_quietest_9 : decode cX11_quietest 9 = .ok (.iconst 0, 1) := by decide +kernel
theorem dX11_quietest_10 : decode cX11_quietest 10 = .ok (.iconst 1, 1) := by decide +kernel
theorem dX11_quietest_11 : decode cX11_quietest 11 = .ok (.invokestatic 433, 3) := by decide +kernel
theorem dX11_quietest_14 : decode cX11_quietest 14 = .ok (.ifCond .ne 5, 3) := by decide +kernel
theorem dX11_quietest_17 : decode cX11_quietest 17 = .ok (.iconst (-1), 1) := by decide +kernel
theorem dX11_quietest_18 : decode cX11_quietest 18 = .ok (.ireturn, 1) := by decide +kernel
theorem dX11_quietest_19 : decode cX11_quietest 19 = .ok (.aload_n 0, 1) := by decide +kernel
theorem dX11_quietest_20 : decode cX11_quietest 20 = .ok (.invokevirtual 509, 3) := by decide +kernel
theorem dX11_quietest_23 : decode cX11_quietest 23 = .ok (.iconst (-1), 1) := by decide +kernel
theorem dX11_quietest_24 : decode cX11_quietest 24 = .ok (.istore_n 3, 1) := by decide +kernel
theorem dX11_quietest_25 : decode cX11_quietest 25 = .ok (.lconst 0, 1) := by decide +kernel
theorem dX11_quietest_26 : decode cX11_quietest 26 = .ok (.lstore 4, 2) := by decide +kernel
theorem dX11_quietest_28 : decode cX11_quietest 28 = .ok (.lconst 1, 1) := by decide +kernel
theorem dX11_quietest_29 : decode cX11_quietest 29 = .ok (.lstore 6, 2) := by decide +kernel
theorem dX11_quietest_31 : decode cX11_quietest 31 = .ok (.iconst 0, 1) := by decide +kernel
theorem dX11_quietest_32 : decode cX11_quietest 32 = .ok (.istore 8, 2) := by decide +kernel
theorem dX11_quietest_34 : decode cX11_quietest 34 = .ok (.iload 8, 2) := by decide +kernel
theorem dX11_quietest_36 : decode cX11_quietest 36 = .ok (.aload_n 0, 1) := by decide +kernel
theorem dX11_quietest_37 : decode cX11_quietest 37 = .ok (.getfield 409, 3) := by decide +kernel
theorem dX11_quietest_40 : decode cX11_quietest 40 = .ok (.if_icmp .ge 86, 3) := by decide +kernel
theorem dX11_quietest_43 : decode cX11_quietest 43 = .ok (.iload 8, 2) := by decide +kernel
theorem dX11_quietest_45 : decode cX11_quietest 45 = .ok (.istore 9, 2) := by decide +kernel
theorem dX11_quietest_47 : decode cX11_quietest 47 = .ok (.iload 9, 2) := by decide +kernel
theorem dX11_quietest_49 : decode cX11_quietest 49 = .ok (.aload_n 0, 1) := by decide +kernel
theorem dX11_quietest_50 : decode cX11_quietest 50 = .ok (.getfield 409, 3) := by decide +kernel
theorem dX11_quietest_53 : decode cX11_quietest 53 = .ok (.if_icmp .ge 67, 3) := by decide +kernel
theorem dX11_quietest_56 : decode cX11_quietest 56 = .ok (.aload_n 0, 1) := by decide +kernel
theorem dX11_quietest_57 : decode cX11_quietest 57 = .ok (.iload_n 1, 1) := by decide +kernel
theorem dX11_quietest_58 : decode cX11_quietest 58 = .ok (.iload 8, 2) := by decide +kernel
theorem dX11_quietest_60 : decode cX11_quietest 60 = .ok (.iload 9, 2) := by decide +kernel
theorem dX11_quietest_62 : decode cX11_quietest 62 = .ok (.invokevirtual 533, 3) := by decide +kernel
theorem dX11_quietest_65 : decode cX11_quietest 65 = .ok (.iload_n 3, 1) := by decide +kernel
theorem dX11_quietest_66 : decode cX11_quietest 66 = .ok (.ifCond .lt 26, 3) := by decide +kernel
theorem dX11_quietest_69 : decode cX11_quietest 69 = .ok (.aload_n 0, 1) := by decide +kernel
theorem dX11_quietest_70 : decode cX11_quietest 70 = .ok (.getfield 527, 3) := by decide +kernel
theorem dX11_quietest_73 : decode cX11_quietest 73 = .ok (.i2l, 1) := by decide +kernel
theorem dX11_quietest_74 : decode cX11_quietest 74 = .ok (.lload 6, 2) := by decide +kernel
theorem dX11_quietest_76 : decode cX11_quietest 76 = .ok (.lmul, 1) := by decide +kernel
theorem dX11_quietest_77 : decode cX11_quietest 77 = .ok (.lload 4, 2) := by decide +kernel
theorem dX11_quietest_79 : decode cX11_quietest 79 = .ok (.aload_n 0, 1) := by decide +kernel
theorem dX11_quietest_80 : decode cX11_quietest 80 = .ok (.getfield 530, 3) := by decide +kernel
theorem dX11_quietest_83 : decode cX11_quietest 83 = .ok (.i2l, 1) := by decide +kernel
theorem dX11_quietest_84 : decode cX11_quietest 84 = .ok (.lmul, 1) := by decide +kernel
theorem dX11_quietest_85 : decode cX11_quietest 85 = .ok (.lcmp, 1) := by decide +kernel
theorem dX11_quietest_86 : decode cX11_quietest 86 = .ok (.ifCond .gt 6, 3) := by decide +kernel
theorem dX11_quietest_89 : decode cX11_quietest 89 = .ok (.goto 25, 3) := by decide +kernel
theorem dX11_quietest_92 : decode cX11_quietest 92 = .ok (.iconst 4, 1) := by decide +kernel
theorem dX11_quietest_93 : decode cX11_quietest 93 = .ok (.iload 8, 2) := by decide +kernel
theorem dX11_quietest_95 : decode cX11_quietest 95 = .ok (.imul, 1) := by decide +kernel
theorem dX11_quietest_96 : decode cX11_quietest 96 = .ok (.iload 9, 2) := by decide +kernel
theorem dX11_quietest_98 : decode cX11_quietest 98 = .ok (.iadd, 1) := by decide +kernel
theorem dX11_quietest_99 : decode cX11_quietest 99 = .ok (.istore_n 3, 1) := by decide +kernel
theorem dX11_quietest_100 : decode cX11_quietest 100 = .ok (.aload_n 0, 1) := by decide +kernel
theorem dX11_quietest_101 : decode cX11_quietest 101 = .ok (.getfield 527, 3) := by decide +kernel
theorem dX11_quietest_104 : decode cX11_quietest 104 = .ok (.i2l, 1) := by decide +kernel
theorem dX11_quietest_105 : decode cX11_quietest 105 = .ok (.lstore 4, 2) := by decide +kernel
theorem dX11_quietest_107 : decode cX11_quietest 107 = .ok (.aload_n 0, 1) := by decide +kernel
theorem dX11_quietest_108 : decode cX11_quietest 108 = .ok (.getfield 530, 3) := by decide +kernel
theorem dX11_quietest_111 : decode cX11_quietest 111 = .ok (.i2l, 1) := by decide +kernel
theorem dX11_quietest_112 : decode cX11_quietest 112 = .ok (.lstore 6, 2) := by decide +kernel
theorem dX11_quietest_114 : decode cX11_quietest 114 = .ok (.iinc 9 1, 3) := by decide +kernel
theorem dX11_quietest_117 : decode cX11_quietest 117 = .ok (.goto (-70), 3) := by decide +kernel
theorem dX11_quietest_120 : decode cX11_quietest 120 = .ok (.iinc 8 1, 3) := by decide +kernel
theorem dX11_quietest_123 : decode cX11_quietest 123 = .ok (.goto (-89), 3) := by decide +kernel
theorem dX11_quietest_126 : decode cX11_quietest 126 = .ok (.iload_n 3, 1) := by decide +kernel
theorem dX11_quietest_127 : decode cX11_quietest 127 = .ok (.ifCond .ge 7, 3) := by decide +kernel
theorem dX11_quietest_130 : decode cX11_quietest 130 = .ok (.iconst (-1), 1) := by decide +kernel
theorem dX11_quietest_131 : decode cX11_quietest 131 = .ok (.goto 16, 3) := by decide +kernel
theorem dX11_quietest_134 : decode cX11_quietest 134 = .ok (.iload_n 2, 1) := by decide +kernel
theorem dX11_quietest_135 : decode cX11_quietest 135 = .ok (.ifCond .ne 9, 3) := by decide +kernel
theorem dX11_quietest_138 : decode cX11_quietest 138 = .ok (.iload_n 3, 1) := by decide +kernel
theorem dX11_quietest_139 : decode cX11_quietest 139 = .ok (.iconst 4, 1) := by decide +kernel
theorem dX11_quietest_140 : decode cX11_quietest 140 = .ok (.idiv, 1) := by decide +kernel
theorem dX11_quietest_141 : decode cX11_quietest 141 = .ok (.goto 6, 3) := by decide +kernel
theorem dX11_quietest_144 : decode cX11_quietest 144 = .ok (.iload_n 3, 1) := by decide +kernel
theorem dX11_quietest_145 : decode cX11_quietest 145 = .ok (.iconst 4, 1) := by decide +kernel
theorem dX11_quietest_146 : decode cX11_quietest 146 = .ok (.irem, 1) := by decide +kernel
theorem dX11_quietest_147 : decode cX11_quietest 147 = .ok (.ireturn, 1) := by decide +kernel
theorem dX11_members_0 : decode cX11_members 0 = .ok (.iconst 0, 1) := by decide +kernel
theorem dX11_members_1 : decode cX11_members 1 = .ok (.istore_n 1, 1) := by decide +kernel
theorem dX11_members_2 : decode cX11_members 2 = .ok (.iconst 0, 1) := by decide +kernel
theorem dX11_members_3 : decode cX11_members 3 = .ok (.istore_n 2, 1) := by decide +kernel
theorem dX11_members_4 : decode cX11_members 4 = .ok (.iload_n 2, 1) := by decide +kernel
theorem dX11_members_5 : decode cX11_members 5 = .ok (.bipush 8, 2) := by decide +kernel
theorem dX11_members_7 : decode cX11_members 7 = .ok (.if_icmp .ge 17, 3) := by decide +kernel
theorem dX11_members_10 : decode cX11_members 10 = .ok (.iload_n 1, 1) := by decide +kernel
theorem dX11_members_11 : decode cX11_members 11 = .ok (.iload_n 0, 1) := by decide +kernel
theorem dX11_members_12 : decode cX11_members 12 = .ok (.iload_n 2, 1) := by decide +kernel
theorem dX11_members_13 : decode cX11_members 13 = .ok (.ishr, 1) := by decide +kernel
theorem dX11_members_14 : decode cX11_members 14 = .ok (.iconst 1, 1) := by decide +kernel
theorem dX11_members_15 : decode cX11_members 15 = .ok (.iand, 1) := by decide +kernel
theorem dX11_members_16 : decode cX11_members 16 = .ok (.iadd, 1) := by decide +kernel
theorem dX11_members_17 : decode cX11_members 17 = .ok (.istore_n 1, 1) := by decide +kernel
theorem dX11_members_18 : decode cX11_members 18 = .ok (.iinc 2 1, 3) := by decide +kernel
theorem dX11_members_21 : decode cX11_members 21 = .ok (.goto (-17), 3) := by decide +kernel
theorem dX11_members_24 : decode cX11_members 24 = .ok (.iload_n 1, 1) := by decide +kernel
theorem dX11_members_25 : decode cX11_members 25 = .ok (.ireturn, 1) := by decide +kernel
theorem dX11_hush_0 : decode cX11_hush 0 = .ok (.aload_n 0, 1) := by decide +kernel
theorem dX11_hush_1 : decode cX11_hush 1 = .ok (.iload_n 1, 1) := by decide +kernel
theorem dX11_hush_2 : decode cX11_hush 2 = .ok (.invokevirtual 518, 3) := by decide +kernel
theorem dX11_hush_5 : decode cX11_hush 5 = .ok (.ifCond .eq 12, 3) := by decide +kernel
theorem dX11_hush_8 : decode cX11_hush 8 = .ok (.iload_n 2, 1) := by decide +kernel
theorem dX11_hush_9 : decode cX11_hush 9 = .ok (.iconst 0, 1) := by decide +kernel
theorem dX11_hush_10 : decode cX11_hush 10 = .ok (.iconst 1, 1) := by decide +kernel
theorem dX11_hush_11 : decode cX11_hush 11 = .ok (.invokestatic 433, 3) := by decide +kernel
theorem dX11_hush_14 : decode cX11_hush 14 = .ok (.ifCond .ne 5, 3) := by decide +kernel
theorem dX11_hush_17 : decode cX11_hush 17 = .ok (.iconst (-1), 1) := by decide +kernel
theorem dX11_hush_18 : decode cX11_hush 18 = .ok (.ireturn, 1) := by decide +kernel
theorem dX11_hush_19 : decode cX11_hush 19 = .ok (.aload_n 0, 1) := by decide +kernel
theorem dX11_hush_20 : decode cX11_hush 20 = .ok (.invokevirtual 509, 3) := by decide +kernel
theorem dX11_hush_23 : decode cX11_hush 23 = .ok (.aload_n 0, 1) := by decide +kernel
theorem dX11_hush_24 : decode cX11_hush 24 = .ok (.iload_n 1, 1) := by decide +kernel
theorem dX11_hush_25 : decode cX11_hush 25 = .ok (.invokevirtual 491, 3) := by decide +kernel
theorem dX11_hush_28 : decode cX11_hush 28 = .ok (.istore_n 3, 1) := by decide +kernel
theorem dX11_hush_29 : decode cX11_hush 29 = .ok (.iconst 0, 1) := by decide +kernel
theorem dX11_hush_30 : decode cX11_hush 30 = .ok (.istore 4, 2) := by decide +kernel
theorem dX11_hush_32 : decode cX11_hush 32 = .ok (.iconst 0, 1) := by decide +kernel
theorem dX11_hush_33 : decode cX11_hush 33 = .ok (.istore 5, 2) := by decide +kernel
theorem dX11_hush_35 : decode cX11_hush 35 = .ok (.iload 5, 2) := by decide +kernel
theorem dX11_hush_37 : decode cX11_hush 37 = .ok (.aload_n 0, 1) := by decide +kernel
theorem dX11_hush_38 : decode cX11_hush 38 = .ok (.getfield 412, 3) := by decide +kernel
theorem dX11_hush_41 : decode cX11_hush 41 = .ok (.if_icmp .ge 61, 3) := by decide +kernel
theorem dX11_hush_44 : decode cX11_hush 44 = .ok (.iload_n 3, 1) := by decide +kernel
theorem dX11_hush_45 : decode cX11_hush 45 = .ok (.iload 5, 2) := by decide +kernel
theorem dX11_hush_47 : decode cX11_hush 47 = .ok (.ishr, 1) := by decide +kernel
theorem dX11_hush_48 : decode cX11_hush 48 = .ok (.iconst 1, 1) := by decide +kernel
theorem dX11_hush_49 : decode cX11_hush 49 = .ok (.iand, 1) := by decide +kernel
theorem dX11_hush_50 : decode cX11_hush 50 = .ok (.iconst 1, 1) := by decide +kernel
theorem dX11_hush_51 : decode cX11_hush 51 = .ok (.if_icmp .ne 45, 3) := by decide +kernel
theorem dX11_hush_54 : decode cX11_hush 54 = .ok (.aload_n 0, 1) := by decide +kernel
theorem dX11_hush_55 : decode cX11_hush 55 = .ok (.iload 5, 2) := by decide +kernel
theorem dX11_hush_57 : decode cX11_hush 57 = .ok (.invokevirtual 476, 3) := by decide +kernel
theorem dX11_hush_60 : decode cX11_hush 60 = .ok (.ifCond .ne 36, 3) := by decide +kernel
theorem dX11_hush_63 : decode cX11_hush 63 = .ok (.aload_n 0, 1) := by decide +kernel
theorem dX11_hush_64 : decode cX11_hush 64 = .ok (.iload_n 1, 1) := by decide +kernel
theorem dX11_hush_65 : decode cX11_hush 65 = .ok (.aload_n 0, 1) := by decide +kernel
theorem dX11_hush_66 : decode cX11_hush 66 = .ok (.getfield 106, 3) := by decide +kernel
theorem dX11_hush_69 : decode cX11_hush 69 = .ok (.iload 5, 2) := by decide +kernel
theorem dX11_hush_71 : decode cX11_hush 71 = .ok (.iaload, 1) := by decide +kernel
theorem dX11_hush_72 : decode cX11_hush 72 = .ok (.invokevirtual 494, 3) := by decide +kernel
theorem dX11_hush_75 : decode cX11_hush 75 = .ok (.ifCond .eq 21, 3) := by decide +kernel
theorem dX11_hush_78 : decode cX11_hush 78 = .ok (.aload_n 0, 1) := by decide +kernel
theorem dX11_hush_79 : decode cX11_hush 79 = .ok (.iload 5, 2) := by decide +kernel
theorem dX11_hush_81 : decode cX11_hush 81 = .ok (.invokevirtual 500, 3) := by decide +kernel
theorem dX11_hush_84 : decode cX11_hush 84 = .ok (.ifCond .le 12, 3) := by decide +kernel
theorem dX11_hush_87 : decode cX11_hush 87 = .ok (.iload 4, 2) := by decide +kernel
theorem dX11_hush_89 : decode cX11_hush 89 = .ok (.iconst 1, 1) := by decide +kernel
theorem dX11_hush_90 : decode cX11_hush 90 = .ok (.iload 5, 2) := by decide +kernel
theorem dX11_hush_92 : decode cX11_hush 92 = .ok (.ishl, 1) := by decide +kernel
theorem dX11_hush_93 : decode cX11_hush 93 = .ok (.ior, 1) := by decide +kernel
theorem dX11_hush_94 : decode cX11_hush 94 = .ok (.istore 4, 2) := by decide +kernel
theorem dX11_hush_96 : decode cX11_hush 96 = .ok (.iinc 5 1, 3) := by decide +kernel
theorem dX11_hush_99 : decode cX11_hush 99 = .ok (.goto (-64), 3) := by decide +kernel
theorem dX11_hush_102 : decode cX11_hush 102 = .ok (.iload_n 2, 1) := by decide +kernel
theorem dX11_hush_103 : decode cX11_hush 103 = .ok (.ifCond .ne 11, 3) := by decide +kernel
theorem dX11_hush_106 : decode cX11_hush 106 = .ok (.iload 4, 2) := by decide +kernel
theorem dX11_hush_108 : decode cX11_hush 108 = .ok (.invokestatic 540, 3) := by decide +kernel
theorem dX11_hush_111 : decode cX11_hush 111 = .ok (.goto 5, 3) := by decide +kernel
theorem dX11_hush_114 : decode cX11_hush 114 = .ok (.iload 4, 2) := by decide +kernel
theorem dX11_hush_116 : decode cX11_hush 116 = .ok (.ireturn, 1) := by decide +kernel
theorem dX11_will_0 : decode cX11_will 0 = .ok (.aload_n 0, 1) := by decide +kernel
theorem dX11_will_1 : decode cX11_will 1 = .ok (.iload_n 1, 1) := by decide +kernel
theorem dX11_will_2 : decode cX11_will 2 = .ok (.invokevirtual 506, 3) := by decide +kernel
theorem dX11_will_5 : decode cX11_will 5 = .ok (.ifCond .eq 22, 3) := by decide +kernel
theorem dX11_will_8 : decode cX11_will 8 = .ok (.iload_n 2, 1) := by decide +kernel
theorem dX11_will_9 : decode cX11_will 9 = .ok (.iconst 0, 1) := by decide +kernel
theorem dX11_will_10 : decode cX11_will 10 = .ok (.bipush 60, 2) := by decide +kernel
theorem dX11_will_12 : decode cX11_will 12 = .ok (.invokestatic 433, 3) := by decide +kernel
theorem dX11_will_15 : decode cX11_will 15 = .ok (.ifCond .eq 12, 3) := by decide +kernel
theorem dX11_will_18 : decode cX11_will 18 = .ok (.iload_n 3, 1) := by decide +kernel
theorem dX11_will_19 : decode cX11_will 19 = .ok (.iconst 0, 1) := by decide +kernel
theorem dX11_will_20 : decode cX11_will 20 = .ok (.iconst 1, 1) := by decide +kernel
theorem dX11_will_21 : decode cX11_will 21 = .ok (.invokestatic 433, 3) := by decide +kernel
theorem dX11_will_24 : decode cX11_will 24 = .ok (.ifCond .ne 5, 3) := by decide +kernel
theorem dX11_will_27 : decode cX11_will 27 = .ok (.iconst (-1), 1) := by decide +kernel
theorem dX11_will_28 : decode cX11_will 28 = .ok (.ireturn, 1) := by decide +kernel
theorem dX11_will_29 : decode cX11_will 29 = .ok (.aload_n 0, 1) := by decide +kernel
theorem dX11_will_30 : decode cX11_will 30 = .ok (.invokevirtual 485, 3) := by decide +kernel
theorem dX11_will_33 : decode cX11_will 33 = .ok (.iconst 0, 1) := by decide +kernel
theorem dX11_will_34 : decode cX11_will 34 = .ok (.istore 4, 2) := by decide +kernel
theorem dX11_will_36 : decode cX11_will 36 = .ok (.iload 4, 2) := by decide +kernel
theorem dX11_will_38 : decode cX11_will 38 = .ok (.iload_n 2, 1) := by decide +kernel
theorem dX11_will_39 : decode cX11_will 39 = .ok (.if_icmp .ge 14, 3) := by decide +kernel
theorem dX11_will_42 : decode cX11_will 42 = .ok (.aload_n 0, 1) := by decide +kernel
theorem dX11_will_43 : decode cX11_will 43 = .ok (.invokevirtual 521, 3) := by decide +kernel
theorem dX11_will_46 : decode cX11_will 46 = .ok (.pop, 1) := by decide +kernel
theorem dX11_will_47 : decode cX11_will 47 = .ok (.iinc 4 1, 3) := by decide +kernel
theorem dX11_will_50 : decode cX11_will 50 = .ok (.goto (-14), 3) := by decide +kernel
theorem dX11_will_53 : decode cX11_will 53 = .ok (.iload_n 3, 1) := by decide +kernel
theorem dX11_will_54 : decode cX11_will 54 = .ok (.ifCond .ne 11, 3) := by decide +kernel
theorem dX11_will_57 : decode cX11_will 57 = .ok (.aload_n 0, 1) := by decide +kernel
theorem dX11_will_58 : decode cX11_will 58 = .ok (.iload_n 1, 1) := by decide +kernel
theorem dX11_will_59 : decode cX11_will 59 = .ok (.invokevirtual 446, 3) := by decide +kernel
theorem dX11_will_62 : decode cX11_will 62 = .ok (.goto 12, 3) := by decide +kernel
theorem dX11_will_65 : decode cX11_will 65 = .ok (.aload_n 0, 1) := by decide +kernel
theorem dX11_will_66 : decode cX11_will 66 = .ok (.getfield 106, 3) := by decide +kernel
theorem dX11_will_69 : decode cX11_will 69 = .ok (.bipush 13, 2) := by decide +kernel
theorem dX11_will_71 : decode cX11_will 71 = .ok (.iload_n 1, 1) := by decide +kernel
theorem dX11_will_72 : decode cX11_will 72 = .ok (.iadd, 1) := by decide +kernel
theorem dX11_will_73 : decode cX11_will 73 = .ok (.iaload, 1) := by decide +kernel
theorem dX11_will_74 : decode cX11_will 74 = .ok (.ireturn, 1) := by decide +kernel
theorem dX11_settles_0 : decode cX11_settles 0 = .ok (.aload_n 0, 1) := by decide +kernel
theorem dX11_settles_1 : decode cX11_settles 1 = .ok (.iload_n 1, 1) := by decide +kernel
theorem dX11_settles_2 : decode cX11_settles 2 = .ok (.invokevirtual 506, 3) := by decide +kernel
theorem dX11_settles_5 : decode cX11_settles 5 = .ok (.ifCond .ne 5, 3) := by decide +kernel
theorem dX11_settles_8 : decode cX11_settles 8 = .ok (.iconst (-1), 1) := by decide +kernel
theorem dX11_settles_9 : decode cX11_settles 9 = .ok (.ireturn, 1) := by decide +kernel
theorem dX11_settles_10 : decode cX11_settles 10 = .ok (.aload_n 0, 1) := by decide +kernel
theorem dX11_settles_11 : decode cX11_settles 11 = .ok (.invokevirtual 485, 3) := by decide +kernel
theorem dX11_settles_14 : decode cX11_settles 14 = .ok (.iconst 0, 1) := by decide +kernel
theorem dX11_settles_15 : decode cX11_settles 15 = .ok (.istore_n 2, 1) := by decide +kernel
theorem dX11_settles_16 : decode cX11_settles 16 = .ok (.iload_n 2, 1) := by decide +kernel
theorem dX11_settles_17 : decode cX11_settles 17 = .ok (.bipush 60, 2) := by decide +kernel
theorem dX11_settles_19 : decode cX11_settles 19 = .ok (.if_icmp .gt 24, 3) := by decide +kernel
theorem dX11_settles_22 : decode cX11_settles 22 = .ok (.aload_n 0, 1) := by decide +kernel
theorem dX11_settles_23 : decode cX11_settles 23 = .ok (.iload_n 1, 1) := by decide +kernel
theorem dX11_settles_24 : decode cX11_settles 24 = .ok (.invokevirtual 446, 3) := by decide +kernel
theorem dX11_settles_27 : decode cX11_settles 27 = .ok (.ifCond .eq 5, 3) := by decide +kernel
theorem dX11_settles_30 : decode cX11_settles 30 = .ok (.iload_n 2, 1) := by decide +kernel
theorem dX11_settles_31 : decode cX11_settles 31 = .ok (.ireturn, 1) := by decide +kernel
theorem dX11_settles_32 : decode cX11_settles 32 = .ok (.aload_n 0, 1) := by decide +kernel
theorem dX11_settles_33 : decode cX11_settles 33 = .ok (.invokevirtual 521, 3) := by decide +kernel
theorem dX11_settles_36 : decode cX11_settles 36 = .ok (.pop, 1) := by decide +kernel
theorem dX11_settles_37 : decode cX11_settles 37 = .ok (.iinc 2 1, 3) := by decide +kernel
theorem dX11_settles_40 : decode cX11_settles 40 = .ok (.goto (-24), 3) := by decide +kernel
theorem dX11_settles_43 : decode cX11_settles 43 = .ok (.iconst (-1), 1) := by decide +kernel
theorem dX11_settles_44 : decode cX11_settles 44 = .ok (.ireturn, 1) := by decide +kernel
theorem dX11_dueOf_0 : decode cX11_dueOf 0 = .ok (.iload_n 0, 1) := by decide +kernel
theorem dX11_dueOf_1 : decode cX11_dueOf 1 = .ok (.iconst 2, 1) := by decide +kernel
theorem dX11_dueOf_2 : decode cX11_dueOf 2 = .ok (.iload_n 1, 1) := by decide +kernel
theorem dX11_dueOf_3 : decode cX11_dueOf 3 = .ok (.imul, 1) := by decide +kernel
theorem dX11_dueOf_4 : decode cX11_dueOf 4 = .ok (.ishr, 1) := by decide +kernel
theorem dX11_dueOf_5 : decode cX11_dueOf 5 = .ok (.iconst 3, 1) := by decide +kernel
theorem dX11_dueOf_6 : decode cX11_dueOf 6 = .ok (.iand, 1) := by decide +kernel
theorem dX11_dueOf_7 : decode cX11_dueOf 7 = .ok (.ireturn, 1) := by decide +kernel
theorem dX11_firstRow_0 : decode cX11_firstRow 0 = .ok (.iconst 0, 1) := by decide +kernel
theorem dX11_firstRow_1 : decode cX11_firstRow 1 = .ok (.istore_n 1, 1) := by decide +kernel
theorem dX11_firstRow_2 : decode cX11_firstRow 2 = .ok (.iconst 0, 1) := by decide +kernel
theorem dX11_firstRow_3 : decode cX11_firstRow 3 = .ok (.istore_n 2, 1) := by decide +kernel
theorem dX11_firstRow_4 : decode cX11_firstRow 4 = .ok (.iload_n 2, 1) := by decide +kernel
theorem dX11_firstRow_5 : decode cX11_firstRow 5 = .ok (.aload_n 0, 1) := by decide +kernel
theorem dX11_firstRow_6 : decode cX11_firstRow 6 = .ok (.getfield 415, 3) := by decide +kernel
theorem dX11_firstRow_9 : decode cX11_firstRow 9 = .ok (.if_icmp .ge 46, 3) := by decide +kernel
theorem dX11_firstRow_12 : decode cX11_firstRow 12 = .ok (.aload_n 0, 1) := by decide +kernel
theorem dX11_firstRow_13 : decode cX11_firstRow 13 = .ok (.getfield 103, 3) := by decide +kernel
theorem dX11_firstRow_16 : decode cX11_firstRow 16 = .ok (.bipush 13, 2) := by decide +kernel
theorem dX11_firstRow_18 : decode cX11_firstRow 18 = .ok (.iload_n 2, 1) := by decide +kernel
theorem dX11_firstRow_19 : decode cX11_firstRow 19 = .ok (.iadd, 1) := by decide +kernel
theorem dX11_firstRow_20 : decode cX11_firstRow 20 = .ok (.iaload, 1) := by decide +kernel
theorem dX11_firstRow_21 : decode cX11_firstRow 21 = .ok (.iconst 3, 1) := by decide +kernel
theorem dX11_firstRow_22 : decode cX11_firstRow 22 = .ok (.if_icmp .ge 17, 3) := by decide +kernel
theorem dX11_firstRow_25 : decode cX11_firstRow 25 = .ok (.iconst 3, 1) := by decide +kernel
theorem dX11_firstRow_26 : decode cX11_firstRow 26 = .ok (.aload_n 0, 1) := by decide +kernel
theorem dX11_firstRow_27 : decode cX11_firstRow 27 = .ok (.getfield 103, 3) := by decide +kernel
theorem dX11_firstRow_30 : decode cX11_firstRow 30 = .ok (.bipush 13, 2) := by decide +kernel
theorem dX11_firstRow_32 : decode cX11_firstRow 32 = .ok (.iload_n 2, 1) := by decide +kernel
theorem dX11_firstRow_33 : decode cX11_firstRow 33 = .ok (.iadd, 1) := by decide +kernel
theorem dX11_firstRow_34 : decode cX11_firstRow 34 = .ok (.iaload, 1) := by decide +kernel
theorem dX11_firstRow_35 : decode cX11_firstRow 35 = .ok (.isub, 1) := by decide +kernel
theorem dX11_firstRow_36 : decode cX11_firstRow 36 = .ok (.goto 4, 3) := by decide +kernel
theorem dX11_firstRow_39 : decode cX11_firstRow 39 = .ok (.iconst 0, 1) := by decide +kernel
theorem dX11_firstRow_40 : decode cX11_firstRow 40 = .ok (.istore_n 3, 1) := by decide +kernel
theorem dX11_firstRow_41 : decode cX11_firstRow 41 = .ok (.iload_n 1, 1) := by decide +kernel
theorem dX11_firstRow_42 : decode cX11_firstRow 42 = .ok (.iload_n 3, 1) := by decide +kernel
theorem dX11_firstRow_43 : decode cX11_firstRow 43 = .ok (.iconst 2, 1) := by decide +kernel
theorem dX11_firstRow_44 : decode cX11_firstRow 44 = .ok (.iload_n 2, 1) := by decide +kernel
theorem dX11_firstRow_45 : decode cX11_firstRow 45 = .ok (.imul, 1) := by decide +kernel
theorem dX11_firstRow_46 : decode cX11_firstRow 46 = .ok (.ishl, 1) := by decide +kernel
theorem dX11_firstRow_47 : decode cX11_firstRow 47 = .ok (.ior, 1) := by decide +kernel
theorem dX11_firstRow_48 : decode cX11_firstRow 48 = .ok (.istore_n 1, 1) := by decide +kernel
theorem dX11_firstRow_49 : decode cX11_firstRow 49 = .ok (.iinc 2 1, 3) := by decide +kernel
theorem dX11_firstRow_52 : decode cX11_firstRow 52 = .ok (.goto (-48), 3) := by decide +kernel
theorem dX11_firstRow_55 : decode cX11_firstRow 55 = .ok (.iload_n 1, 1) := by decide +kernel
theorem dX11_firstRow_56 : decode cX11_firstRow 56 = .ok (.ireturn, 1) := by decide +kernel
theorem dX11_mayRead_0 : decode cX11_mayRead 0 = .ok (.aload_n 0, 1) := by decide +kernel
theorem dX11_mayRead_1 : decode cX11_mayRead 1 = .ok (.getfield 103, 3) := by decide +kernel
theorem dX11_mayRead_4 : decode cX11_mayRead 4 = .ok (.bipush 8, 2) := by decide +kernel
theorem dX11_mayRead_6 : decode cX11_mayRead 6 = .ok (.iload_n 2, 1) := by decide +kernel
theorem dX11_mayRead_7 : decode cX11_mayRead 7 = .ok (.iadd, 1) := by decide +kernel
theorem dX11_mayRead_8 : decode cX11_mayRead 8 = .ok (.iaload, 1) := by decide +kernel
theorem dX11_mayRead_9 : decode cX11_mayRead 9 = .ok (.ifCond .ne 43, 3) := by decide +kernel
theorem dX11_mayRead_12 : decode cX11_mayRead 12 = .ok (.iload_n 1, 1) := by decide +kernel
theorem dX11_mayRead_13 : decode cX11_mayRead 13 = .ok (.iload_n 2, 1) := by decide +kernel
theorem dX11_mayRead_14 : decode cX11_mayRead 14 = .ok (.invokestatic 543, 3) := by decide +kernel
theorem dX11_mayRead_17 : decode cX11_mayRead 17 = .ok (.ifCond .le 35, 3) := by decide +kernel
theorem dX11_mayRead_20 : decode cX11_mayRead 20 = .ok (.aload_n 0, 1) := by decide +kernel
theorem dX11_mayRead_21 : decode cX11_mayRead 21 = .ok (.aload_n 0, 1) := by decide +kernel
theorem dX11_mayRead_22 : decode cX11_mayRead 22 = .ok (.getfield 81, 3) := by decide +kernel
theorem dX11_mayRead_25 : decode cX11_mayRead 25 = .ok (.iload_n 2, 1) := by decide +kernel
theorem dX11_mayRead_26 : decode cX11_mayRead 26 = .ok (.iaload, 1) := by decide +kernel
theorem dX11_mayRead_27 : decode cX11_mayRead 27 = .ok (.iload_n 3, 1) := by decide +kernel
theorem dX11_mayRead_28 : decode cX11_mayRead 28 = .ok (.invokevirtual 470, 3) := by decide +kernel
theorem dX11_mayRead_31 : decode cX11_mayRead 31 = .ok (.ifCond .ne 21, 3) := by decide +kernel
theorem dX11_mayRead_34 : decode cX11_mayRead 34 = .ok (.aload_n 0, 1) := by decide +kernel
theorem dX11_mayRead_35 : decode cX11_mayRead 35 = .ok (.aload_n 0, 1) := by decide +kernel
theorem dX11_mayRead_36 : decode cX11_mayRead 36 = .ok (.getfield 84, 3) := by decide +kernel
theorem dX11_mayRead_39 : decode cX11_mayRead 39 = .ok (.iload_n 2, 1) := by decide +kernel
theorem dX11_mayRead_40 : decode cX11_mayRead 40 = .ok (.iaload, 1) := by decide +kernel
theorem dX11_mayRead_41 : decode cX11_mayRead 41 = .ok (.iload_n 3, 1) := by decide +kernel
theorem dX11_mayRead_42 : decode cX11_mayRead 42 = .ok (.invokevirtual 470, 3) := by decide +kernel
theorem dX11_mayRead_45 : decode cX11_mayRead 45 = .ok (.ifCond .ne 7, 3) := by decide +kernel
theorem dX11_mayRead_48 : decode cX11_mayRead 48 = .ok (.iconst 1, 1) := by decide +kernel
theorem dX11_mayRead_49 : decode cX11_mayRead 49 = .ok (.goto 4, 3) := by decide +kernel
theorem dX11_mayRead_52 : decode cX11_mayRead 52 = .ok (.iconst 0, 1) := by decide +kernel
theorem dX11_mayRead_53 : decode cX11_mayRead 53 = .ok (.ireturn, 1) := by decide +kernel
theorem dX11_readOn_0 : decode cX11_readOn 0 = .ok (.iconst 0, 1) := by decide +kernel
theorem dX11_readOn_1 : decode cX11_readOn 1 = .ok (.istore 4, 2) := by decide +kernel
theorem dX11_readOn_3 : decode cX11_readOn 3 = .ok (.iload 4, 2) := by decide +kernel
theorem dX11_readOn_5 : decode cX11_readOn 5 = .ok (.iconst 4, 1) := by decide +kernel
theorem dX11_readOn_6 : decode cX11_readOn 6 = .ok (.if_icmp .ge 17, 3) := by decide +kernel
theorem dX11_readOn_9 : decode cX11_readOn 9 = .ok (.aload_n 0, 1) := by decide +kernel
theorem dX11_readOn_10 : decode cX11_readOn 10 = .ok (.getfield 109, 3) := by decide +kernel
theorem dX11_readOn_13 : decode cX11_readOn 13 = .ok (.iload 4, 2) := by decide +kernel
theorem dX11_readOn_15 : decode cX11_readOn 15 = .ok (.iconst 0, 1) := by decide +kernel
theorem dX11_readOn_16 : decode cX11_readOn 16 = .ok (.iastore, 1) := by decide +kernel
theorem dX11_readOn_17 : decode cX11_readOn 17 = .ok (.iinc 4 1, 3) := by decide +kernel
theorem dX11_readOn_20 : decode cX11_readOn 20 = .ok (.goto (-17), 3) := by decide +kernel
theorem dX11_readOn_23 : decode cX11_readOn 23 = .ok (.iload_n 1, 1) := by decide +kernel
theorem dX11_readOn_24 : decode cX11_readOn 24 = .ok (.istore 4, 2) := by decide +kernel
theorem dX11_readOn_26 : decode cX11_readOn 26 = .ok (.iconst 0, 1) := by decide +kernel
theorem dX11_readOn_27 : decode cX11_readOn 27 = .ok (.istore 5, 2) := by decide +kernel
theorem dX11_readOn_29 : decode cX11_readOn 29 = .ok (.iload 5, 2) := by decide +kernel
theorem dX11_readOn_31 : decode cX11_readOn 31 = .ok (.aload_n 0, 1) := by decide +kernel
theorem dX11_readOn_32 : decode cX11_readOn 32 = .ok (.getfield 415, 3) := by decide +kernel
theorem dX11_readOn_35 : decode cX11_readOn 35 = .ok (.if_icmp .ge 128, 3) := by decide +kernel
theorem dX11_readOn_38 : decode cX11_readOn 38 = .ok (.iload_n 2, 1) := by decide +kernel
theorem dX11_readOn_39 : decode cX11_readOn 39 = .ok (.iload 5, 2) := by decide +kernel
theorem dX11_readOn_41 : decode cX11_readOn 41 = .ok (.ishr, 1) := by decide +kernel
theorem dX11_readOn_42 : decode cX11_readOn 42 = .ok (.iconst 1, 1) := by decide +kernel
theorem dX11_readOn_43 : decode cX11_readOn 43 = .ok (.iand, 1) := by decide +kernel
theorem dX11_readOn_44 : decode cX11_readOn 44 = .ok (.ifCond .ne 6, 3) := by decide +kernel
theorem dX11_readOn_47 : decode cX11_readOn 47 = .ok (.goto 110, 3) := by decide +kernel
theorem dX11_readOn_50 : decode cX11_readOn 50 = .ok (.aload_n 0, 1) := by decide +kernel
theorem dX11_readOn_51 : decode cX11_readOn 51 = .ok (.iload_n 1, 1) := by decide +kernel
theorem dX11_readOn_52 : decode cX11_readOn 52 = .ok (.iload 5, 2) := by decide +kernel
theorem dX11_readOn_54 : decode cX11_readOn 54 = .ok (.iload_n 3, 1) := by decide +kernel
theorem dX11_readOn_55 : decode cX11_readOn 55 = .ok (.invokevirtual 546, 3) := by decide +kernel
theorem dX11_readOn_58 : decode cX11_readOn 58 = .ok (.ifCond .ne 5, 3) := by decide +kernel
theorem dX11_readOn_61 : decode cX11_readOn 61 = .ok (.iconst (-1), 1) := by decide +kernel
theorem dX11_readOn_62 : decode cX11_readOn 62 = .ok (.ireturn, 1) := by decide +kernel
theorem dX11_readOn_63 : decode cX11_readOn 63 = .ok (.aload_n 0, 1) := by decide +kernel
theorem dX11_readOn_64 : decode cX11_readOn 64 = .ok (.getfield 103, 3) := by decide +kernel
theorem dX11_readOn_67 : decode cX11_readOn 67 = .ok (.bipush 18, 2) := by decide +kernel
theorem dX11_readOn_69 : decode cX11_readOn 69 = .ok (.iload 5, 2) := by decide +kernel
theorem dX11_readOn_71 : decode cX11_readOn 71 = .ok (.iadd, 1) := by decide +kernel
theorem dX11_readOn_72 : decode cX11_readOn 72 = .ok (.iaload, 1) := by decide +kernel
theorem dX11_readOn_73 : decode cX11_readOn 73 = .ok (.istore 6, 2) := by decide +kernel
theorem dX11_readOn_75 : decode cX11_readOn 75 = .ok (.aload_n 0, 1) := by decide +kernel
theorem dX11_readOn_76 : decode cX11_readOn 76 = .ok (.getfield 103, 3) := by decide +kernel
theorem dX11_readOn_79 : decode cX11_readOn 79 = .ok (.bipush 23, 2) := by decide +kernel
theorem dX11_readOn_81 : decode cX11_readOn 81 = .ok (.iload 5, 2) := by decide +kernel
theorem dX11_readOn_83 : decode cX11_readOn 83 = .ok (.iadd, 1) := by decide +kernel
theorem dX11_readOn_84 : decode cX11_readOn 84 = .ok (.iaload, 1) := by decide +kernel
theorem dX11_readOn_85 : decode cX11_readOn 85 = .ok (.istore 7, 2) := by decide +kernel
theorem dX11_readOn_87 : decode cX11_readOn 87 = .ok (.aload_n 0, 1) := by decide +kernel
theorem dX11_readOn_88 : decode cX11_readOn 88 = .ok (.getfield 109, 3) := by decide +kernel
theorem dX11_readOn_91 : decode cX11_readOn 91 = .ok (.iload 6, 2) := by decide +kernel
theorem dX11_readOn_93 : decode cX11_readOn 93 = .ok (.dup2, 1) := by decide +kernel
theorem dX11_readOn_94 : decode cX11_readOn 94 = .ok (.iaload, 1) := by decide +kernel
theorem dX11_readOn_95 : decode cX11_readOn 95 = .ok (.iconst 1, 1) := by decide +kernel
theorem dX11_readOn_96 : decode cX11_readOn 96 = .ok (.iadd, 1) := by decide +kernel
theorem dX11_readOn_97 : decode cX11_readOn 97 = .ok (.iastore, 1) := by decide +kernel
theorem dX11_readOn_98 : decode cX11_readOn 98 = .ok (.iload 6, 2) := by decide +kernel
theorem dX11_readOn_100 : decode cX11_readOn 100 = .ok (.iload 7, 2) := by decide +kernel
theorem dX11_readOn_102 : decode cX11_readOn 102 = .ok (.if_icmp .eq 14, 3) := by decide +kernel
theorem dX11_readOn_105 : decode cX11_readOn 105 = .ok (.aload_n 0, 1) := by decide +kernel
theorem dX11_readOn_106 : decode cX11_readOn 106 = .ok (.getfield 109, 3) := by decide +kernel
theorem dX11_readOn_109 : decode cX11_readOn 109 = .ok (.iload 7, 2) := by decide +kernel
theorem dX11_readOn_111 : decode cX11_readOn 111 = .ok (.dup2, 1) := by decide +kernel
theorem dX11_readOn_112 : decode cX11_readOn 112 = .ok (.iaload, 1) := by decide +kernel
theorem dX11_readOn_113 : decode cX11_readOn 113 = .ok (.iconst 1, 1) := by decide +kernel
theorem dX11_readOn_114 : decode cX11_readOn 114 = .ok (.iadd, 1) := by decide +kernel
theorem dX11_readOn_115 : decode cX11_readOn 115 = .ok (.iastore, 1) := by decide +kernel
theorem dX11_readOn_116 : decode cX11_readOn 116 = .ok (.aload_n 0, 1) := by decide +kernel
theorem dX11_readOn_117 : decode cX11_readOn 117 = .ok (.getfield 109, 3) := by decide +kernel
theorem dX11_readOn_120 : decode cX11_readOn 120 = .ok (.iload 6, 2) := by decide +kernel
theorem dX11_readOn_122 : decode cX11_readOn 122 = .ok (.iaload, 1) := by decide +kernel
theorem dX11_readOn_123 : decode cX11_readOn 123 = .ok (.aload_n 0, 1) := by decide +kernel
theorem dX11_readOn_124 : decode cX11_readOn 124 = .ok (.getfield 97, 3) := by decide +kernel
theorem dX11_readOn_127 : decode cX11_readOn 127 = .ok (.if_icmp .gt 17, 3) := by decide +kernel
theorem dX11_readOn_130 : decode cX11_readOn 130 = .ok (.aload_n 0, 1) := by decide +kernel
theorem dX11_readOn_131 : decode cX11_readOn 131 = .ok (.getfield 109, 3) := by decide +kernel
theorem dX11_readOn_134 : decode cX11_readOn 134 = .ok (.iload 7, 2) := by decide +kernel
theorem dX11_readOn_136 : decode cX11_readOn 136 = .ok (.iaload, 1) := by decide +kernel
theorem dX11_readOn_137 : decode cX11_readOn 137 = .ok (.aload_n 0, 1) := by decide +kernel
theorem dX11_readOn_138 : decode cX11_readOn 138 = .ok (.getfield 97, 3) := by decide +kernel
theorem dX11_readOn_141 : decode cX11_readOn 141 = .ok (.if_icmp .le 5, 3) := by decide +kernel
theorem dX11_readOn_144 : decode cX11_readOn 144 = .ok (.iconst (-1), 1) := by decide +kernel
theorem dX11_readOn_145 : decode cX11_readOn 145 = .ok (.ireturn, 1) := by decide +kernel
theorem dX11_readOn_146 : decode cX11_readOn 146 = .ok (.iload 4, 2) := by decide +kernel
theorem dX11_readOn_148 : decode cX11_readOn 148 = .ok (.iconst 1, 1) := by decide +kernel
theorem dX11_readOn_149 : decode cX11_readOn 149 = .ok (.iconst 2, 1) := by decide +kernel
theorem dX11_readOn_150 : decode cX11_readOn 150 = .ok (.iload 5, 2) := by decide +kernel
theorem dX11_readOn_152 : decode cX11_readOn 152 = .ok (.imul, 1) := by decide +kernel
theorem dX11_readOn_153 : decode cX11_readOn 153 = .ok (.ishl, 1) := by decide +kernel
theorem dX11_readOn_154 : decode cX11_readOn 154 = .ok (.isub, 1) := by decide +kernel
theorem dX11_readOn_155 : decode cX11_readOn 155 = .ok (.istore 4, 2) := by decide +kernel
theorem dX11_readOn_157 : decode cX11_readOn 157 = .ok (.iinc 5 1, 3) := by decide +kernel
theorem dX11_readOn_160 : decode cX11_readOn 160 = .ok (.goto (-131), 3) := by decide +kernel
theorem dX11_readOn_163 : decode cX11_readOn 163 = .ok (.iload 4, 2) := by decide +kernel
theorem dX11_readOn_165 : decode cX11_readOn 165 = .ok (.ireturn, 1) := by decide +kernel
theorem dX11_goSeason_0 : decode cX11_goSeason 0 = .ok (.iconst 0, 1) := by decide +kernel
theorem dX11_goSeason_1 : decode cX11_goSeason 1 = .ok (.istore_n 2, 1) := by decide +kernel
theorem dX11_goSeason_2 : decode cX11_goSeason 2 = .ok (.iload_n 2, 1) := by decide +kernel
theorem dX11_goSeason_3 : decode cX11_goSeason 3 = .ok (.sipush 1024, 3) := by decide +kernel
theorem dX11_goSeason_6 : decode cX11_goSeason 6 = .ok (.if_icmp .ge 16, 3) := by decide +kernel
theorem dX11_goSeason_9 : decode cX11_goSeason 9 = .ok (.aload_n 0, 1) := by decide +kernel
theorem dX11_goSeason_10 : decode cX11_goSeason 10 = .ok (.getfield 118, 3) := by decide +kernel
theorem dX11_goSeason_13 : decode cX11_goSeason 13 = .ok (.iload_n 2, 1) := by decide +kernel
theorem dX11_goSeason_14 : decode cX11_goSeason 14 = .ok (.iconst 0, 1) := by decide +kernel
theorem dX11_goSeason_15 : decode cX11_goSeason 15 = .ok (.bastore, 1) := by decide +kernel
theorem dX11_goSeason_16 : decode cX11_goSeason 16 = .ok (.iinc 2 1, 3) := by decide +kernel
theorem dX11_goSeason_19 : decode cX11_goSeason 19 = .ok (.goto (-17), 3) := by decide +kernel
theorem dX11_goSeason_22 : decode cX11_goSeason 22 = .ok (.iconst 0, 1) := by decide +kernel
theorem dX11_goSeason_23 : decode cX11_goSeason 23 = .ok (.istore_n 2, 1) := by decide +kernel
theorem dX11_goSeason_24 : decode cX11_goSeason 24 = .ok (.iload_n 2, 1) := by decide +kernel
theorem dX11_goSeason_25 : decode cX11_goSeason 25 = .ok (.sipush 1024, 3) := by decide +kernel
theorem dX11_goSeason_28 : decode cX11_goSeason 28 = .ok (.if_icmp .ge 61, 3) := by decide +kernel
theorem dX11_goSeason_31 : decode cX11_goSeason 31 = .ok (.aload_n 0, 1) := by decide +kernel
theorem dX11_goSeason_32 : decode cX11_goSeason 32 = .ok (.getfield 115, 3) := by decide +kernel
theorem dX11_goSeason_35 : decode cX11_goSeason 35 = .ok (.iload_n 2, 1) := by decide +kernel
theorem dX11_goSeason_36 : decode cX11_goSeason 36 = .ok (.baload, 1) := by decide +kernel
theorem dX11_goSeason_37 : decode cX11_goSeason 37 = .ok (.ifCond .ne 6, 3) := by decide +kernel
theorem dX11_goSeason_40 : decode cX11_goSeason 40 = .ok (.goto 43, 3) := by decide +kernel
theorem dX11_goSeason_43 : decode cX11_goSeason 43 = .ok (.iconst 0, 1) := by decide +kernel
theorem dX11_goSeason_44 : decode cX11_goSeason 44 = .ok (.istore_n 3, 1) := by decide +kernel
theorem dX11_goSeason_45 : decode cX11_goSeason 45 = .ok (.iload_n 3, 1) := by decide +kernel
theorem dX11_goSeason_46 : decode cX11_goSeason 46 = .ok (.iconst 1, 1) := by decide +kernel
theorem dX11_goSeason_47 : decode cX11_goSeason 47 = .ok (.aload_n 0, 1) := by decide +kernel
theorem dX11_goSeason_48 : decode cX11_goSeason 48 = .ok (.getfield 415, 3) := by decide +kernel
theorem dX11_goSeason_51 : decode cX11_goSeason 51 = .ok (.ishl, 1) := by decide +kernel
theorem dX11_goSeason_52 : decode cX11_goSeason 52 = .ok (.if_icmp .ge 31, 3) := by decide +kernel
theorem dX11_goSeason_55 : decode cX11_goSeason 55 = .ok (.aload_n 0, 1) := by decide +kernel
theorem dX11_goSeason_56 : decode cX11_goSeason 56 = .ok (.iload_n 2, 1) := by decide +kernel
theorem dX11_goSeason_57 : decode cX11_goSeason 57 = .ok (.iload_n 3, 1) := by decide +kernel
theorem dX11_goSeason_58 : decode cX11_goSeason 58 = .ok (.iload_n 1, 1) := by decide +kernel
theorem dX11_goSeason_59 : decode cX11_goSeason 59 = .ok (.invokevirtual 549, 3) := by decide +kernel
theorem dX11_goSeason_62 : decode cX11_goSeason 62 = .ok (.istore 4, 2) := by decide +kernel
theorem dX11_goSeason_64 : decode cX11_goSeason 64 = .ok (.iload 4, 2) := by decide +kernel
theorem dX11_goSeason_66 : decode cX11_goSeason 66 = .ok (.ifCond .lt 11, 3) := by decide +kernel
theorem dX11_goSeason_69 : decode cX11_goSeason 69 = .ok (.aload_n 0, 1) := by decide +kernel
theorem dX11_goSeason_70 : decode cX11_goSeason 70 = .ok (.getfield 118, 3) := by decide +kernel
theorem dX11_goSeason_73 : decode cX11_goSeason 73 = .ok (.iload 4, 2) := by decide +kernel
theorem dX11_goSeason_75 : decode cX11_goSeason 75 = .ok (.iconst 1, 1) := by decide +kernel
theorem dX11_goSeason_76 : decode cX11_goSeason 76 = .ok (.bastore, 1) := by decide +kernel
theorem dX11_goSeason_77 : decode cX11_goSeason 77 = .ok (.iinc 3 1, 3) := by decide +kernel
theorem dX11_goSeason_80 : decode cX11_goSeason 80 = .ok (.goto (-35), 3) := by decide +kernel
theorem dX11_goSeason_83 : decode cX11_goSeason 83 = .ok (.iinc 2 1, 3) := by decide +kernel
theorem dX11_goSeason_86 : decode cX11_goSeason 86 = .ok (.goto (-62), 3) := by decide +kernel
theorem dX11_goSeason_89 : decode cX11_goSeason 89 = .ok (.iconst 0, 1) := by decide +kernel
theorem dX11_goSeason_90 : decode cX11_goSeason 90 = .ok (.istore_n 2, 1) := by decide +kernel
theorem dX11_goSeason_91 : decode cX11_goSeason 91 = .ok (.iload_n 2, 1) := by decide +kernel
theorem dX11_goSeason_92 : decode cX11_goSeason 92 = .ok (.sipush 1024, 3) := by decide +kernel
theorem dX11_goSeason_95 : decode cX11_goSeason 95 = .ok (.if_icmp .ge 21, 3) := by decide +kernel
theorem dX11_goSeason_98 : decode cX11_goSeason 98 = .ok (.aload_n 0, 1) := by decide +kernel
theorem dX11_goSeason_99 : decode cX11_goSeason 99 = .ok (.getfield 115, 3) := by decide +kernel
theorem dX11_goSeason_102 : decode cX11_goSeason 102 = .ok (.iload_n 2, 1) := by decide +kernel
theorem dX11_goSeason_103 : decode cX11_goSeason 103 = .ok (.aload_n 0, 1) := by decide +kernel
theorem dX11_goSeason_104 : decode cX11_goSeason 104 = .ok (.getfield 118, 3) := by decide +kernel
theorem dX11_goSeason_107 : decode cX11_goSeason 107 = .ok (.iload_n 2, 1) := by decide +kernel
theorem dX11_goSeason_108 : decode cX11_goSeason 108 = .ok (.baload, 1) := by decide +kernel
theorem dX11_goSeason_109 : decode cX11_goSeason 109 = .ok (.bastore, 1) := by decide +kernel
theorem dX11_goSeason_110 : decode cX11_goSeason 110 = .ok (.iinc 2 1, 3) := by decide +kernel
theorem dX11_goSeason_113 : decode cX11_goSeason 113 = .ok (.goto (-22), 3) := by decide +kernel
theorem dX11_goSeason_116 : decode cX11_goSeason 116 = .ok (.return_, 1) := by decide +kernel
theorem dX11_readBy_0 : decode cX11_readBy 0 = .ok (.iconst 0, 1) := by decide +kernel
theorem dX11_readBy_1 : decode cX11_readBy 1 = .ok (.istore_n 2, 1) := by decide +kernel
theorem dX11_readBy_2 : decode cX11_readBy 2 = .ok (.iconst 0, 1) := by decide +kernel
theorem dX11_readBy_3 : decode cX11_readBy 3 = .ok (.istore_n 3, 1) := by decide +kernel
theorem dX11_readBy_4 : decode cX11_readBy 4 = .ok (.iload_n 3, 1) := by decide +kernel
theorem dX11_readBy_5 : decode cX11_readBy 5 = .ok (.aload_n 0, 1) := by decide +kernel
theorem dX11_readBy_6 : decode cX11_readBy 6 = .ok (.getfield 415, 3) := by decide +kernel
theorem dX11_readBy_9 : decode cX11_readBy 9 = .ok (.if_icmp .ge 42, 3) := by decide +kernel
theorem dX11_readBy_12 : decode cX11_readBy 12 = .ok (.iload_n 2, 1) := by decide +kernel
theorem dX11_readBy_13 : decode cX11_readBy 13 = .ok (.aload_n 0, 1) := by decide +kernel
theorem dX11_readBy_14 : decode cX11_readBy 14 = .ok (.getfield 103, 3) := by decide +kernel
theorem dX11_readBy_17 : decode cX11_readBy 17 = .ok (.bipush 8, 2) := by decide +kernel
theorem dX11_readBy_19 : decode cX11_readBy 19 = .ok (.iload_n 3, 1) := by decide +kernel
theorem dX11_readBy_20 : decode cX11_readBy 20 = .ok (.iadd, 1) := by decide +kernel
theorem dX11_readBy_21 : decode cX11_readBy 21 = .ok (.iaload, 1) := by decide +kernel
theorem dX11_readBy_22 : decode cX11_readBy 22 = .ok (.ifCond .ne 15, 3) := by decide +kernel
theorem dX11_readBy_25 : decode cX11_readBy 25 = .ok (.iload_n 1, 1) := by decide +kernel
theorem dX11_readBy_26 : decode cX11_readBy 26 = .ok (.iload_n 3, 1) := by decide +kernel
theorem dX11_readBy_27 : decode cX11_readBy 27 = .ok (.invokestatic 543, 3) := by decide +kernel
theorem dX11_readBy_30 : decode cX11_readBy 30 = .ok (.ifCond .ne 7, 3) := by decide +kernel
theorem dX11_readBy_33 : decode cX11_readBy 33 = .ok (.iconst 1, 1) := by decide +kernel
theorem dX11_readBy_34 : decode cX11_readBy 34 = .ok (.goto 4, 3) := by decide +kernel
theorem dX11_readBy_37 : decode cX11_readBy 37 = .ok (.iconst 0, 1) := by decide +kernel
theorem dX11_readBy_38 : decode cX11_readBy 38 = .ok (.invokestatic 320, 3) := by decide +kernel
theorem dX11_readBy_41 : decode cX11_readBy 41 = .ok (.iload_n 3, 1) := by decide +kernel
theorem dX11_readBy_42 : decode cX11_readBy 42 = .ok (.ishl, 1) := by decide +kernel
theorem dX11_readBy_43 : decode cX11_readBy 43 = .ok (.ior, 1) := by decide +kernel
theorem dX11_readBy_44 : decode cX11_readBy 44 = .ok (.istore_n 2, 1) := by decide +kernel
theorem dX11_readBy_45 : decode cX11_readBy 45 = .ok (.iinc 3 1, 3) := by decide +kernel
theorem dX11_readBy_48 : decode cX11_readBy 48 = .ok (.goto (-44), 3) := by decide +kernel
theorem dX11_readBy_51 : decode cX11_readBy 51 = .ok (.iload_n 2, 1) := by decide +kernel
theorem dX11_readBy_52 : decode cX11_readBy 52 = .ok (.ireturn, 1) := by decide +kernel
theorem dX11_season_0 : decode cX11_season 0 = .ok (.iload_n 1, 1) := by decide +kernel
theorem dX11_season_1 : decode cX11_season 1 = .ok (.iconst 0, 1) := by decide +kernel
theorem dX11_season_2 : decode cX11_season 2 = .ok (.iconst 1, 1) := by decide +kernel
theorem dX11_season_3 : decode cX11_season 3 = .ok (.invokestatic 433, 3) := by decide +kernel
theorem dX11_season_6 : decode cX11_season 6 = .ok (.ifCond .ne 5, 3) := by decide +kernel
theorem dX11_season_9 : decode cX11_season 9 = .ok (.iconst (-1), 1) := by decide +kernel
theorem dX11_season_10 : decode cX11_season 10 = .ok (.ireturn, 1) := by decide +kernel
theorem dX11_season_11 : decode cX11_season 11 = .ok (.iconst 0, 1) := by decide +kernel
theorem dX11_season_12 : decode cX11_season 12 = .ok (.istore_n 2, 1) := by decide +kernel
theorem dX11_season_13 : decode cX11_season 13 = .ok (.iload_n 2, 1) := by decide +kernel
theorem dX11_season_14 : decode cX11_season 14 = .ok (.sipush 1024, 3) := by decide +kernel
theorem dX11_season_17 : decode cX11_season 17 = .ok (.if_icmp .ge 16, 3) := by decide +kernel
theorem dX11_season_20 : decode cX11_season 20 = .ok (.aload_n 0, 1) := by decide +kernel
theorem dX11_season_21 : decode cX11_season 21 = .ok (.getfield 115, 3) := by decide +kernel
theorem dX11_season_24 : decode cX11_season 24 = .ok (.iload_n 2, 1) := by decide +kernel
theorem dX11_season_25 : decode cX11_season 25 = .ok (.iconst 0, 1) := by decide +kernel
theorem dX11_season_26 : decode cX11_season 26 = .ok (.bastore, 1) := by decide +kernel
theorem dX11_season_27 : decode cX11_season 27 = .ok (.iinc 2 1, 3) := by decide +kernel
theorem dX11_season_30 : decode cX11_season 30 = .ok (.goto (-17), 3) := by decide +kernel
theorem dX11_season_33 : decode cX11_season 33 = .ok (.aload_n 0, 1) := by decide +kernel
theorem dX11_season_34 : decode cX11_season 34 = .ok (.getfield 115, 3) := by decide +kernel
theorem dX11_season_37 : decode cX11_season 37 = .ok (.aload_n 0, 1) := by decide +kernel
theorem dX11_season_38 : decode cX11_season 38 = .ok (.invokevirtual 552, 3) := by decide +kernel
theorem dX11_season_41 : decode cX11_season 41 = .ok (.iconst 1, 1) := by decide +kernel
theorem dX11_season_42 : decode cX11_season 42 = .ok (.bastore, 1) := by decide +kernel
theorem dX11_season_43 : decode cX11_season 43 = .ok (.iconst 1, 1) := by decide +kernel
theorem dX11_season_44 : decode cX11_season 44 = .ok (.istore_n 2, 1) := by decide +kernel
theorem dX11_season_45 : decode cX11_season 45 = .ok (.iload_n 2, 1) := by decide +kernel
theorem dX11_season_46 : decode cX11_season 46 = .ok (.bipush 12, 2) := by decide +kernel
theorem dX11_season_48 : decode cX11_season 48 = .ok (.if_icmp .gt 22, 3) := by decide +kernel
theorem dX11_season_51 : decode cX11_season 51 = .ok (.aload_n 0, 1) := by decide +kernel
theorem dX11_season_52 : decode cX11_season 52 = .ok (.aload_n 0, 1) := by decide +kernel
theorem dX11_season_53 : decode cX11_season 53 = .ok (.getfield 103, 3) := by decide +kernel
theorem dX11_season_56 : decode cX11_season 56 = .ok (.bipush 28, 2) := by decide +kernel
theorem dX11_season_58 : decode cX11_season 58 = .ok (.iaload, 1) := by decide +kernel
theorem dX11_season_59 : decode cX11_season 59 = .ok (.iload_n 2, 1) := by decide +kernel
theorem dX11_season_60 : decode cX11_season 60 = .ok (.iadd, 1) := by decide +kernel
theorem dX11_season_61 : decode cX11_season 61 = .ok (.invokevirtual 555, 3) := by decide +kernel
theorem dX11_season_64 : decode cX11_season 64 = .ok (.iinc 2 1, 3) := by decide +kernel
theorem dX11_season_67 : decode cX11_season 67 = .ok (.goto (-22), 3) := by decide +kernel
theorem dX11_season_70 : decode cX11_season 70 = .ok (.iconst 0, 1) := by decide +kernel
theorem dX11_season_71 : decode cX11_season 71 = .ok (.istore_n 2, 1) := by decide +kernel
theorem dX11_season_72 : decode cX11_season 72 = .ok (.iconst 0, 1) := by decide +kernel
theorem dX11_season_73 : decode cX11_season 73 = .ok (.istore_n 3, 1) := by decide +kernel
theorem dX11_season_74 : decode cX11_season 74 = .ok (.iload_n 3, 1) := by decide +kernel
theorem dX11_season_75 : decode cX11_season 75 = .ok (.sipush 1024, 3) := by decide +kernel
theorem dX11_season_78 : decode cX11_season 78 = .ok (.if_icmp .ge 61, 3) := by decide +kernel
theorem dX11_season_81 : decode cX11_season 81 = .ok (.aload_n 0, 1) := by decide +kernel
theorem dX11_season_82 : decode cX11_season 82 = .ok (.iload_n 3, 1) := by decide +kernel
theorem dX11_season_83 : decode cX11_season 83 = .ok (.invokevirtual 558, 3) := by decide +kernel
theorem dX11_season_86 : decode cX11_season 86 = .ok (.istore 4, 2) := by decide +kernel
theorem dX11_season_88 : decode cX11_season 88 = .ok (.aload_n 0, 1) := by decide +kernel
theorem dX11_season_89 : decode cX11_season 89 = .ok (.getfield 115, 3) := by decide +kernel
theorem dX11_season_92 : decode cX11_season 92 = .ok (.iload_n 3, 1) := by decide +kernel
theorem dX11_season_93 : decode cX11_season 93 = .ok (.baload, 1) := by decide +kernel
theorem dX11_season_94 : decode cX11_season 94 = .ok (.ifCond .eq 39, 3) := by decide +kernel
theorem dX11_season_97 : decode cX11_season 97 = .ok (.iload 4, 2) := by decide +kernel
theorem dX11_season_99 : decode cX11_season 99 = .ok (.invokestatic 540, 3) := by decide +kernel
theorem dX11_season_102 : decode cX11_season 102 = .ok (.iload_n 2, 1) := by decide +kernel
theorem dX11_season_103 : decode cX11_season 103 = .ok (.invokestatic 540, 3) := by decide +kernel
theorem dX11_season_106 : decode cX11_season 106 = .ok (.if_icmp .lt 27, 3) := by decide +kernel
theorem dX11_season_109 : decode cX11_season 109 = .ok (.iload 4, 2) := by decide +kernel
theorem dX11_season_111 : decode cX11_season 111 = .ok (.invokestatic 540, 3) := by decide +kernel
theorem dX11_season_114 : decode cX11_season 114 = .ok (.iload_n 2, 1) := by decide +kernel
theorem dX11_season_115 : decode cX11_season 115 = .ok (.invokestatic 540, 3) := by decide +kernel
theorem dX11_season_118 : decode cX11_season 118 = .ok (.if_icmp .ne 12, 3) := by decide +kernel
theorem dX11_season_121 : decode cX11_season 121 = .ok (.iload 4, 2) := by decide +kernel
theorem dX11_season_123 : decode cX11_season 123 = .ok (.iload_n 2, 1) := by decide +kernel
theorem dX11_season_124 : decode cX11_season 124 = .ok (.if_icmp .lt 6, 3) := by decide +kernel
theorem dX11_season_127 : decode cX11_season 127 = .ok (.goto 6, 3) := by decide +kernel
theorem dX11_season_130 : decode cX11_season 130 = .ok (.iload 4, 2) := by decide +kernel
theorem dX11_season_132 : decode cX11_season 132 = .ok (.istore_n 2, 1) := by decide +kernel
theorem dX11_season_133 : decode cX11_season 133 = .ok (.iinc 3 1, 3) := by decide +kernel
theorem dX11_season_136 : decode cX11_season 136 = .ok (.goto (-62), 3) := by decide +kernel
theorem dX11_season_139 : decode cX11_season 139 = .ok (.iload_n 1, 1) := by decide +kernel
theorem dX11_season_140 : decode cX11_season 140 = .ok (.ifCond .ne 10, 3) := by decide +kernel
theorem dX11_season_143 : decode cX11_season 143 = .ok (.iload_n 2, 1) := by decide +kernel
theorem dX11_season_144 : decode cX11_season 144 = .ok (.invokestatic 540, 3) := by decide +kernel
theorem dX11_season_147 : decode cX11_season 147 = .ok (.goto 4, 3) := by decide +kernel
theorem dX11_season_150 : decode cX11_season 150 = .ok (.iload_n 2, 1) := by decide +kernel
theorem dX11_season_151 : decode cX11_season 151 = .ok (.ireturn, 1) := by decide +kernel
theorem dX11_kinPairs_0 : decode cX11_kinPairs 0 = .ok (.iconst 0, 1) := by decide +kernel
theorem dX11_kinPairs_1 : decode cX11_kinPairs 1 = .ok (.istore_n 2, 1) := by decide +kernel
theorem dX11_kinPairs_2 : decode cX11_kinPairs 2 = .ok (.iconst 0, 1) := by decide +kernel
theorem dX11_kinPairs_3 : decode cX11_kinPairs 3 = .ok (.istore_n 3, 1) := by decide +kernel
theorem dX11_kinPairs_4 : decode cX11_kinPairs 4 = .ok (.iload_n 3, 1) := by decide +kernel
theorem dX11_kinPairs_5 : decode cX11_kinPairs 5 = .ok (.aload_n 0, 1) := by decide +kernel
theorem dX11_kinPairs_6 : decode cX11_kinPairs 6 = .ok (.getfield 415, 3) := by decide +kernel
theorem dX11_kinPairs_9 : decode cX11_kinPairs 9 = .ok (.if_icmp .ge 52, 3) := by decide +kernel
theorem dX11_kinPairs_12 : decode cX11_kinPairs 12 = .ok (.iload_n 2, 1) := by decide +kernel
theorem dX11_kinPairs_13 : decode cX11_kinPairs 13 = .ok (.aload_n 0, 1) := by decide +kernel
theorem dX11_kinPairs_14 : decode cX11_kinPairs 14 = .ok (.getfield 103, 3) := by decide +kernel
theorem dX11_kinPairs_17 : decode cX11_kinPairs 17 = .ok (.bipush 8, 2) := by decide +kernel
theorem dX11_kinPairs_19 : decode cX11_kinPairs 19 = .ok (.iload_n 3, 1) := by decide +kernel
theorem dX11_kinPairs_20 : decode cX11_kinPairs 20 = .ok (.iadd, 1) := by decide +kernel
theorem dX11_kinPairs_21 : decode cX11_kinPairs 21 = .ok (.iaload, 1) := by decide +kernel
theorem dX11_kinPairs_22 : decode cX11_kinPairs 22 = .ok (.ifCond .ne 27, 3) := by decide +kernel
theorem dX11_kinPairs_25 : decode cX11_kinPairs 25 = .ok (.aload_n 0, 1) := by decide +kernel
theorem dX11_kinPairs_26 : decode cX11_kinPairs 26 = .ok (.aload_n 0, 1) := by decide +kernel
theorem dX11_kinPairs_27 : decode cX11_kinPairs 27 = .ok (.getfield 81, 3) := by decide +kernel
theorem dX11_kinPairs_30 : decode cX11_kinPairs 30 = .ok (.iload_n 3, 1) := by decide +kernel
theorem dX11_kinPairs_31 : decode cX11_kinPairs 31 = .ok (.iaload, 1) := by decide +kernel
theorem dX11_kinPairs_32 : decode cX11_kinPairs 32 = .ok (.aload_n 0, 1) := by decide +kernel
theorem dX11_kinPairs_33 : decode cX11_kinPairs 33 = .ok (.getfield 84, 3) := by decide +kernel
theorem dX11_kinPairs_36 : decode cX11_kinPairs 36 = .ok (.iload_n 3, 1) := by decide +kernel
theorem dX11_kinPairs_37 : decode cX11_kinPairs 37 = .ok (.iaload, 1) := by decide +kernel
theorem dX11_kinPairs_38 : decode cX11_kinPairs 38 = .ok (.iload_n 1, 1) := by decide +kernel
theorem dX11_kinPairs_39 : decode cX11_kinPairs 39 = .ok (.invokevirtual 452, 3) := by decide +kernel
theorem dX11_kinPairs_42 : decode cX11_kinPairs 42 = .ok (.ifCond .eq 7, 3) := by decide +kernel
theorem dX11_kinPairs_45 : decode cX11_kinPairs 45 = .ok (.iconst 1, 1) := by decide +kernel
theorem dX11_kinPairs_46 : decode cX11_kinPairs 46 = .ok (.goto 4, 3) := by decide +kernel
theorem dX11_kinPairs_49 : decode cX11_kinPairs 49 = .ok (.iconst 0, 1) := by decide +kernel
theorem dX11_kinPairs_50 : decode cX11_kinPairs 50 = .ok (.invokestatic 320, 3) := by decide +kernel
theorem dX11_kinPairs_53 : decode cX11_kinPairs 53 = .ok (.iadd, 1) := by decide +kernel
theorem dX11_kinPairs_54 : decode cX11_kinPairs 54 = .ok (.istore_n 2, 1) := by decide +kernel
theorem dX11_kinPairs_55 : decode cX11_kinPairs 55 = .ok (.iinc 3 1, 3) := by decide +kernel
theorem dX11_kinPairs_58 : decode cX11_kinPairs 58 = .ok (.goto (-54), 3) := by decide +kernel
theorem dX11_kinPairs_61 : decode cX11_kinPairs 61 = .ok (.iload_n 2, 1) := by decide +kernel
theorem dX11_kinPairs_62 : decode cX11_kinPairs 62 = .ok (.ireturn, 1) := by decide +kernel
theorem dX11_law_0 : decode cX11_law 0 = .ok (.iload_n 1, 1) := by decide +kernel
theorem dX11_law_1 : decode cX11_law 1 = .ok (.iconst 0, 1) := by decide +kernel
theorem dX11_law_2 : decode cX11_law 2 = .ok (.bipush 8, 2) := by decide +kernel
theorem dX11_law_4 : decode cX11_law 4 = .ok (.invokestatic 433, 3) := by decide +kernel
theorem dX11_law_7 : decode cX11_law 7 = .ok (.ifCond .eq 20, 3) := by decide +kernel
theorem dX11_law_10 : decode cX11_law 10 = .ok (.aload_n 0, 1) := by decide +kernel
theorem dX11_law_11 : decode cX11_law 11 = .ok (.iload_n 1, 1) := by decide +kernel
theorem dX11_law_12 : decode cX11_law 12 = .ok (.invokevirtual 561, 3) := by decide +kernel
theorem dX11_law_15 : decode cX11_law 15 = .ok (.aload_n 0, 1) := by decide +kernel
theorem dX11_law_16 : decode cX11_law 16 = .ok (.aload_n 0, 1) := by decide +kernel
theorem dX11_law_17 : decode cX11_law 17 = .ok (.getfield 94, 3) := by decide +kernel
theorem dX11_law_20 : decode cX11_law 20 = .ok (.invokevirtual 561, 3) := by decide +kernel
theorem dX11_law_23 : decode cX11_law 23 = .ok (.isub, 1) := by decide +kernel
theorem dX11_law_24 : decode cX11_law 24 = .ok (.goto 5, 3) := by decide +kernel
theorem dX11_law_27 : decode cX11_law 27 = .ok (.bipush (-100), 2) := by decide +kernel
theorem dX11_law_29 : decode cX11_law 29 = .ok (.ireturn, 1) := by decide +kernel
theorem dX11_isFree_0 : decode cX11_isFree 0 = .ok (.aload_n 0, 1) := by decide +kernel
theorem dX11_isFree_1 : decode cX11_isFree 1 = .ok (.getfield 91, 3) := by decide +kernel
theorem dX11_isFree_4 : decode cX11_isFree 4 = .ok (.iload_n 1, 1) := by decide +kernel
theorem dX11_isFree_5 : decode cX11_isFree 5 = .ok (.baload, 1) := by decide +kernel
theorem dX11_isFree_6 : decode cX11_isFree 6 = .ok (.ifCond .ne 16, 3) := by decide +kernel
theorem dX11_isFree_9 : decode cX11_isFree 9 = .ok (.aload_n 0, 1) := by decide +kernel
theorem dX11_isFree_10 : decode cX11_isFree 10 = .ok (.iload_n 1, 1) := by decide +kernel
theorem dX11_isFree_11 : decode cX11_isFree 11 = .ok (.iconst (-1), 1) := by decide +kernel
theorem dX11_isFree_12 : decode cX11_isFree 12 = .ok (.invokevirtual 455, 3) := by decide +kernel
theorem dX11_isFree_15 : decode cX11_isFree 15 = .ok (.ifCond .ge 7, 3) := by decide +kernel
theorem dX11_isFree_18 : decode cX11_isFree 18 = .ok (.iconst 1, 1) := by decide +kernel
theorem dX11_isFree_19 : decode cX11_isFree 19 = .ok (.goto 4, 3) := by decide +kernel
theorem dX11_isFree_22 : decode cX11_isFree 22 = .ok (.iconst 0, 1) := by decide +kernel
theorem dX11_isFree_23 : decode cX11_isFree 23 = .ok (.ireturn, 1) := by decide +kernel
theorem dX11_free_0 : decode cX11_free 0 = .ok (.aload_n 0, 1) := by decide +kernel
theorem dX11_free_1 : decode cX11_free 1 = .ok (.invokevirtual 485, 3) := by decide +kernel
theorem dX11_free_4 : decode cX11_free 4 = .ok (.iconst 0, 1) := by decide +kernel
theorem dX11_free_5 : decode cX11_free 5 = .ok (.istore_n 1, 1) := by decide +kernel
theorem dX11_free_6 : decode cX11_free 6 = .ok (.iconst 0, 1) := by decide +kernel
theorem dX11_free_7 : decode cX11_free 7 = .ok (.istore_n 2, 1) := by decide +kernel
theorem dX11_free_8 : decode cX11_free 8 = .ok (.iload_n 2, 1) := by decide +kernel
theorem dX11_free_9 : decode cX11_free 9 = .ok (.aload_n 0, 1) := by decide +kernel
theorem dX11_free_10 : decode cX11_free 10 = .ok (.getfield 412, 3) := by decide +kernel
theorem dX11_free_13 : decode cX11_free 13 = .ok (.if_icmp .ge 62, 3) := by decide +kernel
theorem dX11_free_16 : decode cX11_free 16 = .ok (.iconst 0, 1) := by decide +kernel
theorem dX11_free_17 : decode cX11_free 17 = .ok (.istore_n 3, 1) := by decide +kernel
theorem dX11_free_18 : decode cX11_free 18 = .ok (.iload_n 3, 1) := by decide +kernel
theorem dX11_free_19 : decode cX11_free 19 = .ok (.iload_n 2, 1) := by decide +kernel
theorem dX11_free_20 : decode cX11_free 20 = .ok (.if_icmp .ge 49, 3) := by decide +kernel
theorem dX11_free_23 : decode cX11_free 23 = .ok (.iload_n 1, 1) := by decide +kernel
theorem dX11_free_24 : decode cX11_free 24 = .ok (.aload_n 0, 1) := by decide +kernel
theorem dX11_free_25 : decode cX11_free 25 = .ok (.iload_n 2, 1) := by decide +kernel
theorem dX11_free_26 : decode cX11_free 26 = .ok (.iload_n 3, 1) := by decide +kernel
theorem dX11_free_27 : decode cX11_free 27 = .ok (.aload_n 0, 1) := by decide +kernel
theorem dX11_free_28 : decode cX11_free 28 = .ok (.getfield 94, 3) := by decide +kernel
theorem dX11_free_31 : decode cX11_free 31 = .ok (.invokevirtual 452, 3) := by decide +kernel
theorem dX11_free_34 : decode cX11_free 34 = .ok (.ifCond .ne 23, 3) := by decide +kernel
theorem dX11_free_37 : decode cX11_free 37 = .ok (.aload_n 0, 1) := by decide +kernel
theorem dX11_free_38 : decode cX11_free 38 = .ok (.iload_n 2, 1) := by decide +kernel
theorem dX11_free_39 : decode cX11_free 39 = .ok (.invokevirtual 564, 3) := by decide +kernel
theorem dX11_free_42 : decode cX11_free 42 = .ok (.ifCond .eq 15, 3) := by decide +kernel
theorem dX11_free_45 : decode cX11_free 45 = .ok (.aload_n 0, 1) := by decide +kernel
theorem dX11_free_46 : decode cX11_free 46 = .ok (.iload_n 3, 1) := by decide +kernel
theorem dX11_free_47 : decode cX11_free 47 = .ok (.invokevirtual 564, 3) := by decide +kernel
theorem dX11_free_50 : decode cX11_free 50 = .ok (.ifCond .eq 7, 3) := by decide +kernel
theorem dX11_free_53 : decode cX11_free 53 = .ok (.iconst 1, 1) := by decide +kernel
theorem dX11_free_54 : decode cX11_free 54 = .ok (.goto 4, 3) := by decide +kernel
theorem dX11_free_57 : decode cX11_free 57 = .ok (.iconst 0, 1) := by decide +kernel
theorem dX11_free_58 : decode cX11_free 58 = .ok (.invokestatic 320, 3) := by decide +kernel
theorem dX11_free_61 : decode cX11_free 61 = .ok (.iadd, 1) := by decide +kernel
theorem dX11_free_62 : decode cX11_free 62 = .ok (.istore_n 1, 1) := by decide +kernel
theorem dX11_free_63 : decode cX11_free 63 = .ok (.iinc 3 1, 3) := by decide +kernel
theorem dX11_free_66 : decode cX11_free 66 = .ok (.goto (-48), 3) := by decide +kernel
theorem dX11_free_69 : decode cX11_free 69 = .ok (.iinc 2 1, 3) := by decide +kernel
theorem dX11_free_72 : decode cX11_free 72 = .ok (.goto (-64), 3) := by decide +kernel
theorem dX11_free_75 : decode cX11_free 75 = .ok (.iload_n 1, 1) := by decide +kernel
theorem dX11_free_76 : decode cX11_free 76 = .ok (.ireturn, 1) := by decide +kernel
theorem dX11_tell_0 : decode cX11_tell 0 = .ok (.aload_n 0, 1) := by decide +kernel
theorem dX11_tell_1 : decode cX11_tell 1 = .ok (.getfield 430, 3) := by decide +kernel
theorem dX11_tell_4 : decode cX11_tell 4 = .ok (.bipush 30, 2) := by decide +kernel
theorem dX11_tell_6 : decode cX11_tell 6 = .ok (.if_icmp .ne 5, 3) := by decide +kernel
theorem dX11_tell_9 : decode cX11_tell 9 = .ok (.iconst (-1), 1) := by decide +kernel
theorem dX11_tell_10 : decode cX11_tell 10 = .ok (.ireturn, 1) := by decide +kernel
theorem dX11_tell_11 : decode cX11_tell 11 = .ok (.aload_n 0, 1) := by decide +kernel
theorem dX11_tell_12 : decode cX11_tell 12 = .ok (.getfield 121, 3) := by decide +kernel
theorem dX11_tell_15 : decode cX11_tell 15 = .ok (.aload_n 0, 1) := by decide +kernel
theorem dX11_tell_16 : decode cX11_tell 16 = .ok (.getfield 430, 3) := by decide +kernel
theorem dX11_tell_19 : decode cX11_tell 19 = .ok (.iload_n 1, 1) := by decide +kernel
theorem dX11_tell_20 : decode cX11_tell 20 = .ok (.iastore, 1) := by decide +kernel
theorem dX11_tell_21 : decode cX11_tell 21 = .ok (.aload_n 0, 1) := by decide +kernel
theorem dX11_tell_22 : decode cX11_tell 22 = .ok (.getfield 124, 3) := by decide +kernel
theorem dX11_tell_25 : decode cX11_tell 25 = .ok (.aload_n 0, 1) := by decide +kernel
theorem dX11_tell_26 : decode cX11_tell 26 = .ok (.getfield 430, 3) := by decide +kernel
theorem dX11_tell_29 : decode cX11_tell 29 = .ok (.iload_n 2, 1) := by decide +kernel
theorem dX11_tell_30 : decode cX11_tell 30 = .ok (.iastore, 1) := by decide +kernel
theorem dX11_tell_31 : decode cX11_tell 31 = .ok (.aload_n 0, 1) := by decide +kernel
theorem dX11_tell_32 : decode cX11_tell 32 = .ok (.getfield 127, 3) := by decide +kernel
theorem dX11_tell_35 : decode cX11_tell 35 = .ok (.aload_n 0, 1) := by decide +kernel
theorem dX11_tell_36 : decode cX11_tell 36 = .ok (.getfield 430, 3) := by decide +kernel
theorem dX11_tell_39 : decode cX11_tell 39 = .ok (.iload_n 3, 1) := by decide +kernel
theorem dX11_tell_40 : decode cX11_tell 40 = .ok (.iastore, 1) := by decide +kernel
theorem dX11_tell_41 : decode cX11_tell 41 = .ok (.aload_n 0, 1) := by decide +kernel
theorem dX11_tell_42 : decode cX11_tell 42 = .ok (.getfield 136, 3) := by decide +kernel
theorem dX11_tell_45 : decode cX11_tell 45 = .ok (.aload_n 0, 1) := by decide +kernel
theorem dX11_tell_46 : decode cX11_tell 46 = .ok (.getfield 430, 3) := by decide +kernel
theorem dX11_tell_49 : decode cX11_tell 49 = .ok (.iload 4, 2) := by decide +kernel
theorem dX11_tell_51 : decode cX11_tell 51 = .ok (.bastore, 1) := by decide +kernel
theorem dX11_tell_52 : decode cX11_tell 52 = .ok (.aload_n 0, 1) := by decide +kernel
theorem dX11_tell_53 : decode cX11_tell 53 = .ok (.getfield 130, 3) := by decide +kernel
theorem dX11_tell_56 : decode cX11_tell 56 = .ok (.aload_n 0, 1) := by decide +kernel
theorem dX11_tell_57 : decode cX11_tell 57 = .ok (.getfield 430, 3) := by decide +kernel
theorem dX11_tell_60 : decode cX11_tell 60 = .ok (.aload_n 0, 1) := by decide +kernel
theorem dX11_tell_61 : decode cX11_tell 61 = .ok (.getfield 567, 3) := by decide +kernel
theorem dX11_tell_64 : decode cX11_tell 64 = .ok (.iastore, 1) := by decide +kernel
theorem dX11_tell_65 : decode cX11_tell 65 = .ok (.aload_n 0, 1) := by decide +kernel
theorem dX11_tell_66 : decode cX11_tell 66 = .ok (.getfield 133, 3) := by decide +kernel
theorem dX11_tell_69 : decode cX11_tell 69 = .ok (.aload_n 0, 1) := by decide +kernel
theorem dX11_tell_70 : decode cX11_tell 70 = .ok (.getfield 430, 3) := by decide +kernel
theorem dX11_tell_73 : decode cX11_tell 73 = .ok (.iconst (-1), 1) := by decide +kernel
theorem dX11_tell_74 : decode cX11_tell 74 = .ok (.iastore, 1) := by decide +kernel
theorem dX11_tell_75 : decode cX11_tell 75 = .ok (.aload_n 0, 1) := by decide +kernel
theorem dX11_tell_76 : decode cX11_tell 76 = .ok (.dup, 1) := by decide +kernel
theorem dX11_tell_77 : decode cX11_tell 77 = .ok (.getfield 430, 3) := by decide +kernel
theorem dX11_tell_80 : decode cX11_tell 80 = .ok (.iconst 1, 1) := by decide +kernel
theorem dX11_tell_81 : decode cX11_tell 81 = .ok (.iadd, 1) := by decide +kernel
theorem dX11_tell_82 : decode cX11_tell 82 = .ok (.putfield 430, 3) := by decide +kernel
theorem dX11_tell_85 : decode cX11_tell 85 = .ok (.aload_n 0, 1) := by decide +kernel
theorem dX11_tell_86 : decode cX11_tell 86 = .ok (.getfield 430, 3) := by decide +kernel
theorem dX11_tell_89 : decode cX11_tell 89 = .ok (.iconst 1, 1) := by decide +kernel
theorem dX11_tell_90 : decode cX11_tell 90 = .ok (.isub, 1) := by decide +kernel
theorem dX11_tell_91 : decode cX11_tell 91 = .ok (.ireturn, 1) := by decide +kernel
theorem dX11_sits_0 : decode cX11_sits 0 = .ok (.aload_n 0, 1) := by decide +kernel
theorem dX11_sits_1 : decode cX11_sits 1 = .ok (.iload_n 1, 1) := by decide +kernel
theorem dX11_sits_2 : decode cX11_sits 2 = .ok (.invokevirtual 512, 3) := by decide +kernel
theorem dX11_sits_5 : decode cX11_sits 5 = .ok (.ifCond .eq 14, 3) := by decide +kernel
theorem dX11_sits_8 : decode cX11_sits 8 = .ok (.aload_n 0, 1) := by decide +kernel
theorem dX11_sits_9 : decode cX11_sits 9 = .ok (.iconst 0, 1) := by decide +kernel
theorem dX11_sits_10 : decode cX11_sits 10 = .ok (.iload_n 1, 1) := by decide +kernel
theorem dX11_sits_11 : decode cX11_sits 11 = .ok (.iconst 0, 1) := by decide +kernel
theorem dX11_sits_12 : decode cX11_sits 12 = .ok (.iload_n 2, 1) := by decide +kernel
theorem dX11_sits_13 : decode cX11_sits 13 = .ok (.invokevirtual 570, 3) := by decide +kernel
theorem dX11_sits_16 : decode cX11_sits 16 = .ok (.goto 4, 3) := by decide +kernel
theorem dX11_sits_19 : decode cX11_sits 19 = .ok (.iconst (-1), 1) := by decide +kernel
theorem dX11_sits_20 : decode cX11_sits 20 = .ok (.ireturn, 1) := by decide +kernel
theorem dX11_knew_0 : decode cX11_knew 0 = .ok (.aload_n 0, 1) := by decide +kernel
theorem dX11_knew_1 : decode cX11_knew 1 = .ok (.iload_n 1, 1) := by decide +kernel
theorem dX11_knew_2 : decode cX11_knew 2 = .ok (.invokevirtual 437, 3) := by decide +kernel
theorem dX11_knew_5 : decode cX11_knew 5 = .ok (.ifCond .eq 14, 3) := by decide +kernel
theorem dX11_knew_8 : decode cX11_knew 8 = .ok (.aload_n 0, 1) := by decide +kernel
theorem dX11_knew_9 : decode cX11_knew 9 = .ok (.iconst 1, 1) := by decide +kernel
theorem dX11_knew_10 : decode cX11_knew 10 = .ok (.iload_n 1, 1) := by decide +kernel
theorem dX11_knew_11 : decode cX11_knew 11 = .ok (.iconst 0, 1) := by decide +kernel
theorem dX11_knew_12 : decode cX11_knew 12 = .ok (.iload_n 2, 1) := by decide +kernel
theorem dX11_knew_13 : decode cX11_knew 13 = .ok (.invokevirtual 570, 3) := by decide +kernel
theorem dX11_knew_16 : decode cX11_knew 16 = .ok (.goto 4, 3) := by decide +kernel
theorem dX11_knew_19 : decode cX11_knew 19 = .ok (.iconst (-1), 1) := by decide +kernel
theorem dX11_knew_20 : decode cX11_knew 20 = .ok (.ireturn, 1) := by decide +kernel
theorem dX11_kin_0 : decode cX11_kin 0 = .ok (.aload_n 0, 1) := by decide +kernel
theorem dX11_kin_1 : decode cX11_kin 1 = .ok (.iload_n 1, 1) := by decide +kernel
theorem dX11_kin_2 : decode cX11_kin 2 = .ok (.invokevirtual 437, 3) := by decide +kernel
theorem dX11_kin_5 : decode cX11_kin 5 = .ok (.ifCond .eq 24, 3) := by decide +kernel
theorem dX11_kin_8 : decode cX11_kin 8 = .ok (.iload_n 2, 1) := by decide +kernel
theorem dX11_kin_9 : decode cX11_kin 9 = .ok (.iconst 0, 1) := by decide +kernel
theorem dX11_kin_10 : decode cX11_kin 10 = .ok (.bipush 8, 2) := by decide +kernel
theorem dX11_kin_12 : decode cX11_kin 12 = .ok (.invokestatic 433, 3) := by decide +kernel
theorem dX11_kin_15 : decode cX11_kin 15 = .ok (.ifCond .eq 14, 3) := by decide +kernel
theorem dX11_kin_18 : decode cX11_kin 18 = .ok (.aload_n 0, 1) := by decide +kernel
theorem dX11_kin_19 : decode cX11_kin 19 = .ok (.iconst 2, 1) := by decide +kernel
theorem dX11_kin_20 : decode cX11_kin 20 = .ok (.iload_n 1, 1) := by decide +kernel
theorem dX11_kin_21 : decode cX11_kin 21 = .ok (.iload_n 2, 1) := by decide +kernel
theorem dX11_kin_22 : decode cX11_kin 22 = .ok (.iload_n 3, 1) := by decide +kernel
theorem dX11_kin_23 : decode cX11_kin 23 = .ok (.invokevirtual 570, 3) := by decide +kernel
theorem dX11_kin_26 : decode cX11_kin 26 = .ok (.goto 4, 3) := by decide +kernel
theorem dX11_kin_29 : decode cX11_kin 29 = .ok (.iconst (-1), 1) := by decide +kernel
theorem dX11_kin_30 : decode cX11_kin 30 = .ok (.ireturn, 1) := by decide +kernel
theorem dX11_untell_0 : decode cX11_untell 0 = .ok (.iload_n 1, 1) := by decide +kernel
theorem dX11_untell_1 : decode cX11_untell 1 = .ok (.iconst 0, 1) := by decide +kernel
theorem dX11_untell_2 : decode cX11_untell 2 = .ok (.aload_n 0, 1) := by decide +kernel
theorem dX11_untell_3 : decode cX11_untell 3 = .ok (.getfield 430, 3) := by decide +kernel
theorem dX11_untell_6 : decode cX11_untell 6 = .ok (.iconst 1, 1) := by decide +kernel
theorem dX11_untell_7 : decode cX11_untell 7 = .ok (.isub, 1) := by decide +kernel
theorem dX11_untell_8 : decode cX11_untell 8 = .ok (.invokestatic 433, 3) := by decide +kernel
theorem dX11_untell_11 : decode cX11_untell 11 = .ok (.ifCond .eq 12, 3) := by decide +kernel
theorem dX11_untell_14 : decode cX11_untell 14 = .ok (.aload_n 0, 1) := by decide +kernel
theorem dX11_untell_15 : decode cX11_untell 15 = .ok (.getfield 133, 3) := by decide +kernel
theorem dX11_untell_18 : decode cX11_untell 18 = .ok (.iload_n 1, 1) := by decide +kernel
theorem dX11_untell_19 : decode cX11_untell 19 = .ok (.iaload, 1) := by decide +kernel
theorem dX11_untell_20 : decode cX11_untell 20 = .ok (.ifCond .lt 5, 3) := by decide +kernel
theorem dX11_untell_23 : decode cX11_untell 23 = .ok (.iconst 0, 1) := by decide +kernel
theorem dX11_untell_24 : decode cX11_untell 24 = .ok (.ireturn, 1) := by decide +kernel
theorem dX11_untell_25 : decode cX11_untell 25 = .ok (.aload_n 0, 1) := by decide +kernel
theorem dX11_untell_26 : decode cX11_untell 26 = .ok (.getfield 133, 3) := by decide +kernel
theorem dX11_untell_29 : decode cX11_untell 29 = .ok (.iload_n 1, 1) := by decide +kernel
theorem dX11_untell_30 : decode cX11_untell 30 = .ok (.aload_n 0, 1) := by decide +kernel
theorem dX11_untell_31 : decode cX11_untell 31 = .ok (.getfield 567, 3) := by decide +kernel
theorem dX11_untell_34 : decode cX11_untell 34 = .ok (.iastore, 1) := by decide +kernel
theorem dX11_untell_35 : decode cX11_untell 35 = .ok (.iconst 1, 1) := by decide +kernel
theorem dX11_untell_36 : decode cX11_untell 36 = .ok (.ireturn, 1) := by decide +kernel
theorem dX11_later_0 : decode cX11_later 0 = .ok (.iload_n 1, 1) := by decide +kernel
theorem dX11_later_1 : decode cX11_later 1 = .ok (.ifCond .lt 22, 3) := by decide +kernel
theorem dX11_later_4 : decode cX11_later 4 = .ok (.iload_n 1, 1) := by decide +kernel
theorem dX11_later_5 : decode cX11_later 5 = .ok (.sipush 1000, 3) := by decide +kernel
theorem dX11_later_8 : decode cX11_later 8 = .ok (.if_icmp .gt 15, 3) := by decide +kernel
theorem dX11_later_11 : decode cX11_later 11 = .ok (.aload_n 0, 1) := by decide +kernel
theorem dX11_later_12 : decode cX11_later 12 = .ok (.getfield 567, 3) := by decide +kernel
theorem dX11_later_15 : decode cX11_later 15 = .ok (.iload_n 1, 1) := by decide +kernel
theorem dX11_later_16 : decode cX11_later 16 = .ok (.iadd, 1) := by decide +kernel
theorem dX11_later_17 : decode cX11_later 17 = .ok (.ldc_w 574, 3) := by decide +kernel
theorem dX11_later_20 : decode cX11_later 20 = .ok (.if_icmp .le 5, 3) := by decide +kernel
theorem dX11_later_23 : decode cX11_later 23 = .ok (.iconst (-1), 1) := by decide +kernel
theorem dX11_later_24 : decode cX11_later 24 = .ok (.ireturn, 1) := by decide +kernel
theorem dX11_later_25 : decode cX11_later 25 = .ok (.aload_n 0, 1) := by decide +kernel
theorem dX11_later_26 : decode cX11_later 26 = .ok (.dup, 1) := by decide +kernel
theorem dX11_later_27 : decode cX11_later 27 = .ok (.getfield 567, 3) := by decide +kernel
theorem dX11_later_30 : decode cX11_later 30 = .ok (.iload_n 1, 1) := by decide +kernel
theorem dX11_later_31 : decode cX11_later 31 = .ok (.iadd, 1) := by decide +kernel
theorem dX11_later_32 : decode cX11_later 32 = .ok (.putfield 567, 3) := by decide +kernel
theorem dX11_later_35 : decode cX11_later 35 = .ok (.aload_n 0, 1) := by decide +kernel
theorem dX11_later_36 : decode cX11_later 36 = .ok (.getfield 567, 3) := by decide +kernel
theorem dX11_later_39 : decode cX11_later 39 = .ok (.ireturn, 1) := by decide +kernel
theorem dX11_isSo_0 : decode cX11_isSo 0 = .ok (.aload_n 0, 1) := by decide +kernel
theorem dX11_isSo_1 : decode cX11_isSo 1 = .ok (.getfield 121, 3) := by decide +kernel
theorem dX11_isSo_4 : decode cX11_isSo 4 = .ok (.iload_n 1, 1) := by decide +kernel
theorem dX11_isSo_5 : decode cX11_isSo 5 = .ok (.iaload, 1) := by decide +kernel
theorem dX11_isSo_6 : decode cX11_isSo 6 = .ok (.ifCond .ne 24, 3) := by decide +kernel
theorem dX11_isSo_9 : decode cX11_isSo 9 = .ok (.aload_n 0, 1) := by decide +kernel
theorem dX11_isSo_10 : decode cX11_isSo 10 = .ok (.getfield 103, 3) := by decide +kernel
theorem dX11_isSo_13 : decode cX11_isSo 13 = .ok (.iload_n 2, 1) := by decide +kernel
theorem dX11_isSo_14 : decode cX11_isSo 14 = .ok (.iaload, 1) := by decide +kernel
theorem dX11_isSo_15 : decode cX11_isSo 15 = .ok (.aload_n 0, 1) := by decide +kernel
theorem dX11_isSo_16 : decode cX11_isSo 16 = .ok (.getfield 124, 3) := by decide +kernel
theorem dX11_isSo_19 : decode cX11_isSo 19 = .ok (.iload_n 1, 1) := by decide +kernel
theorem dX11_isSo_20 : decode cX11_isSo 20 = .ok (.iaload, 1) := by decide +kernel
theorem dX11_isSo_21 : decode cX11_isSo 21 = .ok (.if_icmp .ne 7, 3) := by decide +kernel
theorem dX11_isSo_24 : decode cX11_isSo 24 = .ok (.iconst 1, 1) := by decide +kernel
theorem dX11_isSo_25 : decode cX11_isSo 25 = .ok (.goto 4, 3) := by decide +kernel
theorem dX11_isSo_28 : decode cX11_isSo 28 = .ok (.iconst 0, 1) := by decide +kernel
theorem dX11_isSo_29 : decode cX11_isSo 29 = .ok (.ireturn, 1) := by decide +kernel
theorem dX11_isSo_30 : decode cX11_isSo 30 = .ok (.aload_n 0, 1) := by decide +kernel
theorem dX11_isSo_31 : decode cX11_isSo 31 = .ok (.getfield 121, 3) := by decide +kernel
theorem dX11_isSo_34 : decode cX11_isSo 34 = .ok (.iload_n 1, 1) := by decide +kernel
theorem dX11_isSo_35 : decode cX11_isSo 35 = .ok (.iaload, 1) := by decide +kernel
theorem dX11_isSo_36 : decode cX11_isSo 36 = .ok (.iconst 1, 1) := by decide +kernel
theorem dX11_isSo_37 : decode cX11_isSo 37 = .ok (.if_icmp .ne 27, 3) := by decide +kernel
theorem dX11_isSo_40 : decode cX11_isSo 40 = .ok (.aload_n 0, 1) := by decide +kernel
theorem dX11_isSo_41 : decode cX11_isSo 41 = .ok (.iload_n 2, 1) := by decide +kernel
theorem dX11_isSo_42 : decode cX11_isSo 42 = .ok (.invokevirtual 461, 3) := by decide +kernel
theorem dX11_isSo_45 : decode cX11_isSo 45 = .ok (.aload_n 0, 1) := by decide +kernel
theorem dX11_isSo_46 : decode cX11_isSo 46 = .ok (.getfield 124, 3) := by decide +kernel
theorem dX11_isSo_49 : decode cX11_isSo 49 = .ok (.iload_n 1, 1) := by decide +kernel
theorem dX11_isSo_50 : decode cX11_isSo 50 = .ok (.iaload, 1) := by decide +kernel
theorem dX11_isSo_51 : decode cX11_isSo 51 = .ok (.ishr, 1) := by decide +kernel
theorem dX11_isSo_52 : decode cX11_isSo 52 = .ok (.iconst 1, 1) := by decide +kernel
theorem dX11_isSo_53 : decode cX11_isSo 53 = .ok (.iand, 1) := by decide +kernel
theorem dX11_isSo_54 : decode cX11_isSo 54 = .ok (.iconst 1, 1) := by decide +kernel
theorem dX11_isSo_55 : decode cX11_isSo 55 = .ok (.if_icmp .ne 7, 3) := by decide +kernel
theorem dX11_isSo_58 : decode cX11_isSo 58 = .ok (.iconst 1, 1) := by decide +kernel
theorem dX11_isSo_59 : decode cX11_isSo 59 = .ok (.goto 4, 3) := by decide +kernel
theorem dX11_isSo_62 : decode cX11_isSo 62 = .ok (.iconst 0, 1) := by decide +kernel
theorem dX11_isSo_63 : decode cX11_isSo 63 = .ok (.ireturn, 1) := by decide +kernel
theorem dX11_isSo_64 : decode cX11_isSo 64 = .ok (.aload_n 0, 1) := by decide +kernel
theorem dX11_isSo_65 : decode cX11_isSo 65 = .ok (.iload_n 2, 1) := by decide +kernel
theorem dX11_isSo_66 : decode cX11_isSo 66 = .ok (.aload_n 0, 1) := by decide +kernel
theorem dX11_isSo_67 : decode cX11_isSo 67 = .ok (.getfield 124, 3) := by decide +kernel
theorem dX11_isSo_70 : decode cX11_isSo 70 = .ok (.iload_n 1, 1) := by decide +kernel
theorem dX11_isSo_71 : decode cX11_isSo 71 = .ok (.iaload, 1) := by decide +kernel
theorem dX11_isSo_72 : decode cX11_isSo 72 = .ok (.aload_n 0, 1) := by decide +kernel
theorem dX11_isSo_73 : decode cX11_isSo 73 = .ok (.getfield 127, 3) := by decide +kernel
theorem dX11_isSo_76 : decode cX11_isSo 76 = .ok (.iload_n 1, 1) := by decide +kernel
theorem dX11_isSo_77 : decode cX11_isSo 77 = .ok (.iaload, 1) := by decide +kernel
theorem dX11_isSo_78 : decode cX11_isSo 78 = .ok (.invokevirtual 452, 3) := by decide +kernel
theorem dX11_isSo_81 : decode cX11_isSo 81 = .ok (.ireturn, 1) := by decide +kernel
theorem dX11_isMeant_0 : decode cX11_isMeant 0 = .ok (.iconst 1, 1) := by decide +kernel
theorem dX11_isMeant_1 : decode cX11_isMeant 1 = .ok (.istore_n 3, 1) := by decide +kernel
theorem dX11_isMeant_2 : decode cX11_isMeant 2 = .ok (.iconst 0, 1) := by decide +kernel
theorem dX11_isMeant_3 : decode cX11_isMeant 3 = .ok (.istore 4, 2) := by decide +kernel
theorem dX11_isMeant_5 : decode cX11_isMeant 5 = .ok (.iload 4, 2) := by decide +kernel
theorem dX11_isMeant_7 : decode cX11_isMeant 7 = .ok (.aload_n 0, 1) := by decide +kernel
theorem dX11_isMeant_8 : decode cX11_isMeant 8 = .ok (.getfield 430, 3) := by decide +kernel
theorem dX11_isMeant_11 : decode cX11_isMeant 11 = .ok (.if_icmp .ge 71, 3) := by decide +kernel
theorem dX11_isMeant_14 : decode cX11_isMeant 14 = .ok (.iload_n 3, 1) := by decide +kernel
theorem dX11_isMeant_15 : decode cX11_isMeant 15 = .ok (.ifCond .eq 67, 3) := by decide +kernel
theorem dX11_isMeant_18 : decode cX11_isMeant 18 = .ok (.aload_n 0, 1) := by decide +kernel
theorem dX11_isMeant_19 : decode cX11_isMeant 19 = .ok (.getfield 130, 3) := by decide +kernel
theorem dX11_isMeant_22 : decode cX11_isMeant 22 = .ok (.iload 4, 2) := by decide +kernel
theorem dX11_isMeant_24 : decode cX11_isMeant 24 = .ok (.iaload, 1) := by decide +kernel
theorem dX11_isMeant_25 : decode cX11_isMeant 25 = .ok (.iload_n 2, 1) := by decide +kernel
theorem dX11_isMeant_26 : decode cX11_isMeant 26 = .ok (.if_icmp .gt 50, 3) := by decide +kernel
theorem dX11_isMeant_29 : decode cX11_isMeant 29 = .ok (.aload_n 0, 1) := by decide +kernel
theorem dX11_isMeant_30 : decode cX11_isMeant 30 = .ok (.getfield 133, 3) := by decide +kernel
theorem dX11_isMeant_33 : decode cX11_isMeant 33 = .ok (.iload 4, 2) := by decide +kernel
theorem dX11_isMeant_35 : decode cX11_isMeant 35 = .ok (.iaload, 1) := by decide +kernel
theorem dX11_isMeant_36 : decode cX11_isMeant 36 = .ok (.ifCond .lt 17, 3) := by decide +kernel
theorem dX11_isMeant_39 : decode cX11_isMeant 39 = .ok (.aload_n 0, 1) := by decide +kernel
theorem dX11_isMeant_40 : decode cX11_isMeant 40 = .ok (.getfield 133, 3) := by decide +kernel
theorem dX11_isMeant_43 : decode cX11_isMeant 43 = .ok (.iload 4, 2) := by decide +kernel
theorem dX11_isMeant_45 : decode cX11_isMeant 45 = .ok (.iaload, 1) := by decide +kernel
theorem dX11_isMeant_46 : decode cX11_isMeant 46 = .ok (.iload_n 2, 1) := by decide +kernel
theorem dX11_isMeant_47 : decode cX11_isMeant 47 = .ok (.if_icmp .gt 6, 3) := by decide +kernel
theorem dX11_isMeant_50 : decode cX11_isMeant 50 = .ok (.goto 26, 3) := by decide +kernel
theorem dX11_isMeant_53 : decode cX11_isMeant 53 = .ok (.aload_n 0, 1) := by decide +kernel
theorem dX11_isMeant_54 : decode cX11_isMeant 54 = .ok (.iload 4, 2) := by decide +kernel
theorem dX11_isMeant_56 : decode cX11_isMeant 56 = .ok (.iload_n 1, 1) := by decide +kernel
theorem dX11_isMeant_57 : decode cX11_isMeant 57 = .ok (.invokevirtual 575, 3) := by decide +kernel
theorem dX11_isMeant_60 : decode cX11_isMeant 60 = .ok (.aload_n 0, 1) := by decide +kernel
theorem dX11_isMeant_61 : decode cX11_isMeant 61 = .ok (.getfield 136, 3) := by decide +kernel
theorem dX11_isMeant_64 : decode cX11_isMeant 64 = .ok (.iload 4, 2) := by decide +kernel
theorem dX11_isMeant_66 : decode cX11_isMeant 66 = .ok (.baload, 1) := by decide +kernel
theorem dX11_isMeant_67 : decode cX11_isMeant 67 = .ok (.if_icmp .ne 7, 3) := by decide +kernel
theorem dX11_isMeant_70 : decode cX11_isMeant 70 = .ok (.iconst 1, 1) := by decide +kernel
theorem dX11_isMeant_71 : decode cX11_isMeant 71 = .ok (.goto 4, 3) := by decide +kernel
theorem dX11_isMeant_74 : decode cX11_isMeant 74 = .ok (.iconst 0, 1) := by decide +kernel
theorem dX11_isMeant_75 : decode cX11_isMeant 75 = .ok (.istore_n 3, 1) := by decide +kernel
theorem dX11_isMeant_76 : decode cX11_isMeant 76 = .ok (.iinc 4 1, 3) := by decide +kernel
theorem dX11_isMeant_79 : decode cX11_isMeant 79 = .ok (.goto (-74), 3) := by decide +kernel
theorem dX11_isMeant_82 : decode cX11_isMeant 82 = .ok (.iload_n 3, 1) := by decide +kernel
theorem dX11_isMeant_83 : decode cX11_isMeant 83 = .ok (.ireturn, 1) := by decide +kernel
theorem dX11_meant_0 : decode cX11_meant 0 = .ok (.iconst 0, 1) := by decide +kernel
theorem dX11_meant_1 : decode cX11_meant 1 = .ok (.istore_n 2, 1) := by decide +kernel
theorem dX11_meant_2 : decode cX11_meant 2 = .ok (.iconst 0, 1) := by decide +kernel
theorem dX11_meant_3 : decode cX11_meant 3 = .ok (.istore_n 3, 1) := by decide +kernel
theorem dX11_meant_4 : decode cX11_meant 4 = .ok (.iload_n 3, 1) := by decide +kernel
theorem dX11_meant_5 : decode cX11_meant 5 = .ok (.aload_n 0, 1) := by decide +kernel
theorem dX11_meant_6 : decode cX11_meant 6 = .ok (.getfield 412, 3) := by decide +kernel
theorem dX11_meant_9 : decode cX11_meant 9 = .ok (.if_icmp .ge 23, 3) := by decide +kernel
theorem dX11_meant_12 : decode cX11_meant 12 = .ok (.iload_n 2, 1) := by decide +kernel
theorem dX11_meant_13 : decode cX11_meant 13 = .ok (.aload_n 0, 1) := by decide +kernel
theorem dX11_meant_14 : decode cX11_meant 14 = .ok (.iload_n 3, 1) := by decide +kernel
theorem dX11_meant_15 : decode cX11_meant 15 = .ok (.iload_n 1, 1) := by decide +kernel
theorem dX11_meant_16 : decode cX11_meant 16 = .ok (.invokevirtual 578, 3) := by decide +kernel
theorem dX11_meant_19 : decode cX11_meant 19 = .ok (.invokestatic 320, 3) := by decide +kernel
theorem dX11_meant_22 : decode cX11_meant 22 = .ok (.iload_n 3, 1) := by decide +kernel
theorem dX11_meant_23 : decode cX11_meant 23 = .ok (.ishl, 1) := by decide +kernel
theorem dX11_meant_24 : decode cX11_meant 24 = .ok (.ior, 1) := by decide +kernel
theorem dX11_meant_25 : decode cX11_meant 25 = .ok (.istore_n 2, 1) := by decide +kernel
theorem dX11_meant_26 : decode cX11_meant 26 = .ok (.iinc 3 1, 3) := by decide +kernel
theorem dX11_meant_29 : decode cX11_meant 29 = .ok (.goto (-25), 3) := by decide +kernel
theorem dX11_meant_32 : decode cX11_meant 32 = .ok (.iload_n 2, 1) := by decide +kernel
theorem dX11_meant_33 : decode cX11_meant 33 = .ok (.ireturn, 1) := by decide +kernel
theorem dX11_ask_0 : decode cX11_ask 0 = .ok (.aload_n 0, 1) := by decide +kernel
theorem dX11_ask_1 : decode cX11_ask 1 = .ok (.iload_n 2, 1) := by decide +kernel
theorem dX11_ask_2 : decode cX11_ask 2 = .ok (.invokevirtual 581, 3) := by decide +kernel
theorem dX11_ask_5 : decode cX11_ask 5 = .ok (.istore_n 3, 1) := by decide +kernel
theorem dX11_ask_6 : decode cX11_ask 6 = .ok (.iload_n 1, 1) := by decide +kernel
theorem dX11_ask_7 : decode cX11_ask 7 = .ok (.iconst 0, 1) := by decide +kernel
theorem dX11_ask_8 : decode cX11_ask 8 = .ok (.iconst 1, 1) := by decide +kernel
theorem dX11_ask_9 : decode cX11_ask 9 = .ok (.invokestatic 433, 3) := by decide +kernel
theorem dX11_ask_12 : decode cX11_ask 12 = .ok (.ifCond .eq 7, 3) := by decide +kernel
theorem dX11_ask_15 : decode cX11_ask 15 = .ok (.iload_n 3, 1) := by decide +kernel
theorem dX11_ask_16 : decode cX11_ask 16 = .ok (.ifCond .ne 5, 3) := by decide +kernel
theorem dX11_ask_19 : decode cX11_ask 19 = .ok (.iconst (-1), 1) := by decide +kernel
theorem dX11_ask_20 : decode cX11_ask 20 = .ok (.ireturn, 1) := by decide +kernel
theorem dX11_ask_21 : decode cX11_ask 21 = .ok (.iconst (-1), 1) := by decide +kernel
theorem dX11_ask_22 : decode cX11_ask 22 = .ok (.istore 4, 2) := by decide +kernel
theorem dX11_ask_24 : decode cX11_ask 24 = .ok (.iload_n 3, 1) := by decide +kernel
theorem dX11_ask_25 : decode cX11_ask 25 = .ok (.invokestatic 540, 3) := by decide +kernel
theorem dX11_ask_28 : decode cX11_ask 28 = .ok (.iconst 1, 1) := by decide +kernel
theorem dX11_ask_29 : decode cX11_ask 29 = .ok (.iadd, 1) := by decide +kernel
theorem dX11_ask_30 : decode cX11_ask 30 = .ok (.istore 5, 2) := by decide +kernel
theorem dX11_ask_32 : decode cX11_ask 32 = .ok (.iconst 0, 1) := by decide +kernel
theorem dX11_ask_33 : decode cX11_ask 33 = .ok (.istore 6, 2) := by decide +kernel
theorem dX11_ask_35 : decode cX11_ask 35 = .ok (.iload 6, 2) := by decide +kernel
theorem dX11_ask_37 : decode cX11_ask 37 = .ok (.aload_n 0, 1) := by decide +kernel
theorem dX11_ask_38 : decode cX11_ask 38 = .ok (.getfield 412, 3) := by decide +kernel
theorem dX11_ask_41 : decode cX11_ask 41 = .ok (.if_icmp .ge 95, 3) := by decide +kernel
theorem dX11_ask_44 : decode cX11_ask 44 = .ok (.iconst 0, 1) := by decide +kernel
theorem dX11_ask_45 : decode cX11_ask 45 = .ok (.istore 7, 2) := by decide +kernel
theorem dX11_ask_47 : decode cX11_ask 47 = .ok (.iconst 0, 1) := by decide +kernel
theorem dX11_ask_48 : decode cX11_ask 48 = .ok (.istore 8, 2) := by decide +kernel
theorem dX11_ask_50 : decode cX11_ask 50 = .ok (.iload 8, 2) := by decide +kernel
theorem dX11_ask_52 : decode cX11_ask 52 = .ok (.aload_n 0, 1) := by decide +kernel
theorem dX11_ask_53 : decode cX11_ask 53 = .ok (.getfield 412, 3) := by decide +kernel
theorem dX11_ask_56 : decode cX11_ask 56 = .ok (.if_icmp .ge 30, 3) := by decide +kernel
theorem dX11_ask_59 : decode cX11_ask 59 = .ok (.iload 7, 2) := by decide +kernel
theorem dX11_ask_61 : decode cX11_ask 61 = .ok (.iload_n 3, 1) := by decide +kernel
theorem dX11_ask_62 : decode cX11_ask 62 = .ok (.iload 8, 2) := by decide +kernel
theorem dX11_ask_64 : decode cX11_ask 64 = .ok (.ishr, 1) := by decide +kernel
theorem dX11_ask_65 : decode cX11_ask 65 = .ok (.aload_n 0, 1) := by decide +kernel
theorem dX11_ask_66 : decode cX11_ask 66 = .ok (.iload 8, 2) := by decide +kernel
theorem dX11_ask_68 : decode cX11_ask 68 = .ok (.invokevirtual 461, 3) := by decide +kernel
theorem dX11_ask_71 : decode cX11_ask 71 = .ok (.iload 6, 2) := by decide +kernel
theorem dX11_ask_73 : decode cX11_ask 73 = .ok (.ishr, 1) := by decide +kernel
theorem dX11_ask_74 : decode cX11_ask 74 = .ok (.iand, 1) := by decide +kernel
theorem dX11_ask_75 : decode cX11_ask 75 = .ok (.iconst 1, 1) := by decide +kernel
theorem dX11_ask_76 : decode cX11_ask 76 = .ok (.iand, 1) := by decide +kernel
theorem dX11_ask_77 : decode cX11_ask 77 = .ok (.iadd, 1) := by decide +kernel
theorem dX11_ask_78 : decode cX11_ask 78 = .ok (.istore 7, 2) := by decide +kernel
theorem dX11_ask_80 : decode cX11_ask 80 = .ok (.iinc 8 1, 3) := by decide +kernel
theorem dX11_ask_83 : decode cX11_ask 83 = .ok (.goto (-33), 3) := by decide +kernel
theorem dX11_ask_86 : decode cX11_ask 86 = .ok (.iload 7, 2) := by decide +kernel
theorem dX11_ask_88 : decode cX11_ask 88 = .ok (.iload_n 3, 1) := by decide +kernel
theorem dX11_ask_89 : decode cX11_ask 89 = .ok (.invokestatic 540, 3) := by decide +kernel
theorem dX11_ask_92 : decode cX11_ask 92 = .ok (.iload 7, 2) := by decide +kernel
theorem dX11_ask_94 : decode cX11_ask 94 = .ok (.isub, 1) := by decide +kernel
theorem dX11_ask_95 : decode cX11_ask 95 = .ok (.if_icmp .le 8, 3) := by decide +kernel
theorem dX11_ask_98 : decode cX11_ask 98 = .ok (.iload 7, 2) := by decide +kernel
theorem dX11_ask_100 : decode cX11_ask 100 = .ok (.goto 10, 3) := by decide +kernel
theorem dX11_ask_103 : decode cX11_ask 103 = .ok (.iload_n 3, 1) := by decide +kernel
theorem dX11_ask_104 : decode cX11_ask 104 = .ok (.invokestatic 540, 3) := by decide +kernel
theorem dX11_ask_107 : decode cX11_ask 107 = .ok (.iload 7, 2) := by decide +kernel
theorem dX11_ask_109 : decode cX11_ask 109 = .ok (.isub, 1) := by decide +kernel
theorem dX11_ask_110 : decode cX11_ask 110 = .ok (.istore 8, 2) := by decide +kernel
theorem dX11_ask_112 : decode cX11_ask 112 = .ok (.iload 8, 2) := by decide +kernel
theorem dX11_ask_114 : decode cX11_ask 114 = .ok (.iload 5, 2) := by decide +kernel
theorem dX11_ask_116 : decode cX11_ask 116 = .ok (.if_icmp .lt 6, 3) := by decide +kernel
theorem dX11_ask_119 : decode cX11_ask 119 = .ok (.goto 11, 3) := by decide +kernel
theorem dX11_ask_122 : decode cX11_ask 122 = .ok (.iload 6, 2) := by decide +kernel
theorem dX11_ask_124 : decode cX11_ask 124 = .ok (.istore 4, 2) := by decide +kernel
theorem dX11_ask_126 : decode cX11_ask 126 = .ok (.iload 8, 2) := by decide +kernel
theorem dX11_ask_128 : decode cX11_ask 128 = .ok (.istore 5, 2) := by decide +kernel
theorem dX11_ask_130 : decode cX11_ask 130 = .ok (.iinc 6 1, 3) := by decide +kernel
theorem dX11_ask_133 : decode cX11_ask 133 = .ok (.goto (-98), 3) := by decide +kernel
theorem dX11_ask_136 : decode cX11_ask 136 = .ok (.iload_n 1, 1) := by decide +kernel
theorem dX11_ask_137 : decode cX11_ask 137 = .ok (.ifCond .ne 8, 3) := by decide +kernel
theorem dX11_ask_140 : decode cX11_ask 140 = .ok (.iload 4, 2) := by decide +kernel
theorem dX11_ask_142 : decode cX11_ask 142 = .ok (.goto 5, 3) := by decide +kernel
theorem dX11_ask_145 : decode cX11_ask 145 = .ok (.iload 5, 2) := by decide +kernel
theorem dX11_ask_147 : decode cX11_ask 147 = .ok (.ireturn, 1) := by decide +kernel
theorem dX11_isBox_0 : decode cX11_isBox 0 = .ok (.iload_n 0, 1) := by decide +kernel
theorem dX11_isBox_1 : decode cX11_isBox 1 = .ok (.ifCond .lt 12, 3) := by decide +kernel
theorem dX11_isBox_4 : decode cX11_isBox 4 = .ok (.iload_n 0, 1) := by decide +kernel
theorem dX11_isBox_5 : decode cX11_isBox 5 = .ok (.iconst 3, 1) := by decide +kernel
theorem dX11_isBox_6 : decode cX11_isBox 6 = .ok (.if_icmp .ge 7, 3) := by decide +kernel
theorem dX11_isBox_9 : decode cX11_isBox 9 = .ok (.iconst 1, 1) := by decide +kernel
theorem dX11_isBox_10 : decode cX11_isBox 10 = .ok (.goto 4, 3) := by decide +kernel
theorem dX11_isBox_13 : decode cX11_isBox 13 = .ok (.iconst 0, 1) := by decide +kernel
theorem dX11_isBox_14 : decode cX11_isBox 14 = .ok (.ireturn, 1) := by decide +kernel
theorem dX11_image_0 : decode cX11_image 0 = .ok (.iload_n 1, 1) := by decide +kernel
theorem dX11_image_1 : decode cX11_image 1 = .ok (.invokestatic 584, 3) := by decide +kernel
theorem dX11_image_4 : decode cX11_image 4 = .ok (.ifCond .ne 5, 3) := by decide +kernel
theorem dX11_image_7 : decode cX11_image 7 = .ok (.iconst (-1), 1) := by decide +kernel
theorem dX11_image_8 : decode cX11_image 8 = .ok (.ireturn, 1) := by decide +kernel
theorem dX11_image_9 : decode cX11_image 9 = .ok (.aload_n 0, 1) := by decide +kernel
theorem dX11_image_10 : decode cX11_image 10 = .ok (.getfield 139, 3) := by decide +kernel
theorem dX11_image_13 : decode cX11_image 13 = .ok (.iload_n 1, 1) := by decide +kernel
theorem dX11_image_14 : decode cX11_image 14 = .ok (.iconst 1, 1) := by decide +kernel
theorem dX11_image_15 : decode cX11_image 15 = .ok (.bastore, 1) := by decide +kernel
theorem dX11_image_16 : decode cX11_image 16 = .ok (.iconst 0, 1) := by decide +kernel
theorem dX11_image_17 : decode cX11_image 17 = .ok (.istore_n 2, 1) := by decide +kernel
theorem dX11_image_18 : decode cX11_image 18 = .ok (.iload_n 2, 1) := by decide +kernel
theorem dX11_image_19 : decode cX11_image 19 = .ok (.bipush 30, 2) := by decide +kernel
theorem dX11_image_21 : decode cX11_image 21 = .ok (.if_icmp .ge 26, 3) := by decide +kernel
theorem dX11_image_24 : decode cX11_image 24 = .ok (.aload_n 0, 1) := by decide +kernel
theorem dX11_image_25 : decode cX11_image 25 = .ok (.getfield 142, 3) := by decide +kernel
theorem dX11_image_28 : decode cX11_image 28 = .ok (.bipush 30, 2) := by decide +kernel
theorem dX11_image_30 : decode cX11_image 30 = .ok (.iload_n 1, 1) := by decide +kernel
theorem dX11_image_31 : decode cX11_image 31 = .ok (.imul, 1) := by decide +kernel
theorem dX11_image_32 : decode cX11_image 32 = .ok (.iload_n 2, 1) := by decide +kernel
theorem dX11_image_33 : decode cX11_image 33 = .ok (.iadd, 1) := by decide +kernel
theorem dX11_image_34 : decode cX11_image 34 = .ok (.aload_n 0, 1) := by decide +kernel
theorem dX11_image_35 : decode cX11_image 35 = .ok (.getfield 103, 3) := by decide +kernel
theorem dX11_image_38 : decode cX11_image 38 = .ok (.iload_n 2, 1) := by decide +kernel
theorem dX11_image_39 : decode cX11_image 39 = .ok (.iaload, 1) := by decide +kernel
theorem dX11_image_40 : decode cX11_image 40 = .ok (.iastore, 1) := by decide +kernel
theorem dX11_image_41 : decode cX11_image 41 = .ok (.iinc 2 1, 3) := by decide +kernel
theorem dX11_image_44 : decode cX11_image 44 = .ok (.goto (-26), 3) := by decide +kernel
theorem dX11_image_47 : decode cX11_image 47 = .ok (.aload_n 0, 1) := by decide +kernel
theorem dX11_image_48 : decode cX11_image 48 = .ok (.getfield 103, 3) := by decide +kernel
theorem dX11_image_51 : decode cX11_image 51 = .ok (.bipush 28, 2) := by decide +kernel
theorem dX11_image_53 : decode cX11_image 53 = .ok (.iaload, 1) := by decide +kernel
theorem dX11_image_54 : decode cX11_image 54 = .ok (.ireturn, 1) := by decide +kernel
theorem dX11_back_0 : decode cX11_back 0 = .ok (.iload_n 1, 1) := by decide +kernel
theorem dX11_back_1 : decode cX11_back 1 = .ok (.invokestatic 584, 3) := by decide +kernel
theorem dX11_back_4 : decode cX11_back 4 = .ok (.ifCond .eq 12, 3) := by decide +kernel
theorem dX11_back_7 : decode cX11_back 7 = .ok (.aload_n 0, 1) := by decide +kernel
theorem dX11_back_8 : decode cX11_back 8 = .ok (.getfield 139, 3) := by decide +kernel
theorem dX11_back_11 : decode cX11_back 11 = .ok (.iload_n 1, 1) := by decide +kernel
theorem dX11_back_12 : decode cX11_back 12 = .ok (.baload, 1) := by decide +kernel
theorem dX11_back_13 : decode cX11_back 13 = .ok (.ifCond .ne 5, 3) := by decide +kernel
theorem dX11_back_16 : decode cX11_back 16 = .ok (.iconst (-1), 1) := by decide +kernel
theorem dX11_back_17 : decode cX11_back 17 = .ok (.ireturn, 1) := by decide +kernel
theorem dX11_back_18 : decode cX11_back 18 = .ok (.iconst 0, 1) := by decide +kernel
theorem dX11_back_19 : decode cX11_back 19 = .ok (.istore_n 2, 1) := by decide +kernel
theorem dX11_back_20 : decode cX11_back 20 = .ok (.iload_n 2, 1) := by decide +kernel
theorem dX11_back_21 : decode cX11_back 21 = .ok (.bipush 30, 2) := by decide +kernel
theorem dX11_back_23 : decode cX11_back 23 = .ok (.if_icmp .ge 26, 3) := by decide +kernel
theorem dX11_back_26 : decode cX11_back 26 = .ok (.aload_n 0, 1) := by decide +kernel
theorem dX11_back_27 : decode cX11_back 27 = .ok (.getfield 103, 3) := by decide +kernel
theorem dX11_back_30 : decode cX11_back 30 = .ok (.iload_n 2, 1) := by decide +kernel
theorem dX11_back_31 : decode cX11_back 31 = .ok (.aload_n 0, 1) := by decide +kernel
theorem dX11_back_32 : decode cX11_back 32 = .ok (.getfield 142, 3) := by decide +kernel
theorem dX11_back_35 : decode cX11_back 35 = .ok (.bipush 30, 2) := by decide +kernel
theorem dX11_back_37 : decode cX11_back 37 = .ok (.iload_n 1, 1) := by decide +kernel
theorem dX11_back_38 : decode cX11_back 38 = .ok (.imul, 1) := by decide +kernel
theorem dX11_back_39 : decode cX11_back 39 = .ok (.iload_n 2, 1) := by decide +kernel
theorem dX11_back_40 : decode cX11_back 40 = .ok (.iadd, 1) := by decide +kernel
theorem dX11_back_41 : decode cX11_back 41 = .ok (.iaload, 1) := by decide +kernel
theorem dX11_back_42 : decode cX11_back 42 = .ok (.iastore, 1) := by decide +kernel
theorem dX11_back_43 : decode cX11_back 43 = .ok (.iinc 2 1, 3) := by decide +kernel
theorem dX11_back_46 : decode cX11_back 46 = .ok (.goto (-26), 3) := by decide +kernel
theorem dX11_back_49 : decode cX11_back 49 = .ok (.aload_n 0, 1) := by decide +kernel
theorem dX11_back_50 : decode cX11_back 50 = .ok (.iconst 0, 1) := by decide +kernel
theorem dX11_back_51 : decode cX11_back 51 = .ok (.putfield 424, 3) := by decide +kernel
theorem dX11_back_54 : decode cX11_back 54 = .ok (.aload_n 0, 1) := by decide +kernel
theorem dX11_back_55 : decode cX11_back 55 = .ok (.iconst 0, 1) := by decide +kernel
theorem dX11_back_56 : decode cX11_back 56 = .ok (.putfield 427, 3) := by decide +kernel
theorem dX11_back_59 : decode cX11_back 59 = .ok (.aload_n 0, 1) := by decide +kernel
theorem dX11_back_60 : decode cX11_back 60 = .ok (.getfield 103, 3) := by decide +kernel
theorem dX11_back_63 : decode cX11_back 63 = .ok (.bipush 28, 2) := by decide +kernel
theorem dX11_back_65 : decode cX11_back 65 = .ok (.iaload, 1) := by decide +kernel
theorem dX11_back_66 : decode cX11_back 66 = .ok (.ireturn, 1) := by decide +kernel
theorem dX11_pairsThatAre_0 : decode cX11_pairsThatAre 0 = .ok (.iconst 0, 1) := by decide +kernel
theorem dX11_pairsThatAre_1 : decode cX11_pairsThatAre 1 = .ok (.istore_n 2, 1) := by decide +kernel
theorem dX11_pairsThatAre_2 : decode cX11_pairsThatAre 2 = .ok (.iconst 0, 1) := by decide +kernel
theorem dX11_pairsThatAre_3 : decode cX11_pairsThatAre 3 = .ok (.istore_n 3, 1) := by decide +kernel
theorem dX11_pairsThatAre_4 : decode cX11_pairsThatAre 4 = .ok (.iload_n 3, 1) := by decide +kernel
theorem dX11_pairsThatAre_5 : decode cX11_pairsThatAre 5 = .ok (.aload_n 0, 1) := by decide +kernel
theorem dX11_pairsThatAre_6 : decode cX11_pairsThatAre 6 = .ok (.getfield 415, 3) := by decide +kernel
theorem dX11_pairsThatAre_9 : decode cX11_pairsThatAre 9 = .ok (.if_icmp .ge 35, 3) := by decide +kernel
theorem dX11_pairsThatAre_12 : decode cX11_pairsThatAre 12 = .ok (.iload_n 2, 1) := by decide +kernel
theorem dX11_pairsThatAre_13 : decode cX11_pairsThatAre 13 = .ok (.aload_n 0, 1) := by decide +kernel
theorem dX11_pairsThatAre_14 : decode cX11_pairsThatAre 14 = .ok (.getfield 103, 3) := by decide +kernel
theorem dX11_pairsThatAre_17 : decode cX11_pairsThatAre 17 = .ok (.bipush 8, 2) := by decide +kernel
theorem dX11_pairsThatAre_19 : decode cX11_pairsThatAre 19 = .ok (.iload_n 3, 1) := by decide +kernel
theorem dX11_pairsThatAre_20 : decode cX11_pairsThatAre 20 = .ok (.iadd, 1) := by decide +kernel
theorem dX11_pairsThatAre_21 : decode cX11_pairsThatAre 21 = .ok (.iaload, 1) := by decide +kernel
theorem dX11_pairsThatAre_22 : decode cX11_pairsThatAre 22 = .ok (.iload_n 1, 1) := by decide +kernel
theorem dX11_pairsThatAre_23 : decode cX11_pairsThatAre 23 = .ok (.if_icmp .ne 7, 3) := by decide +kernel
theorem dX11_pairsThatAre_26 : decode cX11_pairsThatAre 26 = .ok (.iconst 1, 1) := by decide +kernel
theorem dX11_pairsThatAre_27 : decode cX11_pairsThatAre 27 = .ok (.goto 4, 3) := by decide +kernel
theorem dX11_pairsThatAre_30 : decode cX11_pairsThatAre 30 = .ok (.iconst 0, 1) := by decide +kernel
theorem dX11_pairsThatAre_31 : decode cX11_pairsThatAre 31 = .ok (.invokestatic 320, 3) := by decide +kernel
theorem dX11_pairsThatAre_34 : decode cX11_pairsThatAre 34 = .ok (.iload_n 3, 1) := by decide +kernel
theorem dX11_pairsThatAre_35 : decode cX11_pairsThatAre 35 = .ok (.ishl, 1) := by decide +kernel
theorem dX11_pairsThatAre_36 : decode cX11_pairsThatAre 36 = .ok (.ior, 1) := by decide +kernel
theorem dX11_pairsThatAre_37 : decode cX11_pairsThatAre 37 = .ok (.istore_n 2, 1) := by decide +kernel
theorem dX11_pairsThatAre_38 : decode cX11_pairsThatAre 38 = .ok (.iinc 3 1, 3) := by decide +kernel
theorem dX11_pairsThatAre_41 : decode cX11_pairsThatAre 41 = .ok (.goto (-37), 3) := by decide +kernel
theorem dX11_pairsThatAre_44 : decode cX11_pairsThatAre 44 = .ok (.iload_n 2, 1) := by decide +kernel
theorem dX11_pairsThatAre_45 : decode cX11_pairsThatAre 45 = .ok (.ireturn, 1) := by decide +kernel
theorem dX11_about_0 : decode cX11_about 0 = .ok (.iload_n 1, 1) := by decide +kernel
theorem dX11_about_1 : decode cX11_about 1 = .ok (.tableswitch 140 0 12 #[67, 72, 77, 82, 90, 98, 104, 110, 115, 120, 125, 130, 135], 67) := by decide +kernel
theorem dX11_about_68 : decode cX11_about 68 = .ok (.aload_n 0, 1) := by decide +kernel
theorem dX11_about_69 : decode cX11_about 69 = .ok (.getfield 412, 3) := by decide +kernel
theorem dX11_about_72 : decode cX11_about 72 = .ok (.ireturn, 1) := by decide +kernel
theorem dX11_about_73 : decode cX11_about 73 = .ok (.aload_n 0, 1) := by decide +kernel
theorem dX11_about_74 : decode cX11_about 74 = .ok (.getfield 409, 3) := by decide +kernel
theorem dX11_about_77 : decode cX11_about 77 = .ok (.ireturn, 1) := by decide +kernel
theorem dX11_about_78 : decode cX11_about 78 = .ok (.aload_n 0, 1) := by decide +kernel
theorem dX11_about_79 : decode cX11_about 79 = .ok (.getfield 415, 3) := by decide +kernel
theorem dX11_about_82 : decode cX11_about 82 = .ok (.ireturn, 1) := by decide +kernel
theorem dX11_about_83 : decode cX11_about 83 = .ok (.aload_n 0, 1) := by decide +kernel
theorem dX11_about_84 : decode cX11_about 84 = .ok (.getfield 103, 3) := by decide +kernel
theorem dX11_about_87 : decode cX11_about 87 = .ok (.bipush 28, 2) := by decide +kernel
theorem dX11_about_89 : decode cX11_about 89 = .ok (.iaload, 1) := by decide +kernel
theorem dX11_about_90 : decode cX11_about 90 = .ok (.ireturn, 1) := by decide +kernel
theorem dX11_about_91 : decode cX11_about 91 = .ok (.aload_n 0, 1) := by decide +kernel
theorem dX11_about_92 : decode cX11_about 92 = .ok (.getfield 103, 3) := by decide +kernel
theorem dX11_about_95 : decode cX11_about 95 = .ok (.bipush 29, 2) := by decide +kernel
theorem dX11_about_97 : decode cX11_about 97 = .ok (.iaload, 1) := by decide +kernel
theorem dX11_about_98 : decode cX11_about 98 = .ok (.ireturn, 1) := by decide +kernel
theorem dX11_about_99 : decode cX11_about 99 = .ok (.aload_n 0, 1) := by decide +kernel
theorem dX11_about_100 : decode cX11_about 100 = .ok (.iconst 1, 1) := by decide +kernel
theorem dX11_about_101 : decode cX11_about 101 = .ok (.invokevirtual 587, 3) := by decide +kernel
theorem dX11_about_104 : decode cX11_about 104 = .ok (.ireturn, 1) := by decide +kernel
theorem dX11_about_105 : decode cX11_about 105 = .ok (.aload_n 0, 1) := by decide +kernel
theorem dX11_about_106 : decode cX11_about 106 = .ok (.iconst 2, 1) := by decide +kernel
theorem dX11_about_107 : decode cX11_about 107 = .ok (.invokevirtual 587, 3) := by decide +kernel
theorem dX11_about_110 : decode cX11_about 110 = .ok (.ireturn, 1) := by decide +kernel
theorem dX11_about_111 : decode cX11_about 111 = .ok (.aload_n 0, 1) := by decide +kernel
theorem dX11_about_112 : decode cX11_about 112 = .ok (.getfield 424, 3) := by decide +kernel
theorem dX11_about_115 : decode cX11_about 115 = .ok (.ireturn, 1) := by decide +kernel
theorem dX11_about_116 : decode cX11_about 116 = .ok (.aload_n 0, 1) := by decide +kernel
theorem dX11_about_117 : decode cX11_about 117 = .ok (.getfield 427, 3) := by decide +kernel
theorem dX11_about_120 : decode cX11_about 120 = .ok (.ireturn, 1) := by decide +kernel
theorem dX11_about_121 : decode cX11_about 121 = .ok (.aload_n 0, 1) := by decide +kernel
theorem dX11_about_122 : decode cX11_about 122 = .ok (.getfield 430, 3) := by decide +kernel
theorem dX11_about_125 : decode cX11_about 125 = .ok (.ireturn, 1) := by decide +kernel
theorem dX11_about_126 : decode cX11_about 126 = .ok (.aload_n 0, 1) := by decide +kernel
theorem dX11_about_127 : decode cX11_about 127 = .ok (.getfield 567, 3) := by decide +kernel
theorem dX11_about_130 : decode cX11_about 130 = .ok (.ireturn, 1) := by decide +kernel
theorem dX11_about_131 : decode cX11_about 131 = .ok (.aload_n 0, 1) := by decide +kernel
theorem dX11_about_132 : decode cX11_about 132 = .ok (.getfield 145, 3) := by decide +kernel
theorem dX11_about_135 : decode cX11_about 135 = .ok (.ireturn, 1) := by decide +kernel
theorem dX11_about_136 : decode cX11_about 136 = .ok (.aload_n 0, 1) := by decide +kernel
theorem dX11_about_137 : decode cX11_about 137 = .ok (.getfield 418, 3) := by decide +kernel
theorem dX11_about_140 : decode cX11_about 140 = .ok (.ireturn, 1) := by decide +kernel
theorem dX11_about_141 : decode cX11_about 141 = .ok (.iconst (-1), 1) := by decide +kernel
theorem dX11_about_142 : decode cX11_about 142 = .ok (.ireturn, 1) := by decide +kernel
theorem dL_law_0 : decode cL_law 0 = .ok (.new 7, 3) := by decide +kernel
theorem dL_law_3 : decode cL_law 3 = .ok (.dup, 1) := by decide +kernel
theorem dL_law_4 : decode cL_law 4 = .ok (.invokespecial 9, 3) := by decide +kernel
theorem dL_law_7 : decode cL_law 7 = .ok (.astore_n 1, 1) := by decide +kernel
theorem dL_law_8 : decode cL_law 8 = .ok (.new 10, 3) := by decide +kernel
theorem dL_law_11 : decode cL_law 11 = .ok (.dup, 1) := by decide +kernel
theorem dL_law_12 : decode cL_law 12 = .ok (.invokespecial 12, 3) := by decide +kernel
theorem dL_law_15 : decode cL_law 15 = .ok (.astore_n 2, 1) := by decide +kernel
theorem dL_law_16 : decode cL_law 16 = .ok (.iconst 0, 1) := by decide +kernel
theorem dL_law_17 : decode cL_law 17 = .ok (.istore_n 3, 1) := by decide +kernel
theorem dL_law_18 : decode cL_law 18 = .ok (.iload_n 3, 1) := by decide +kernel
theorem dL_law_19 : decode cL_law 19 = .ok (.aload_n 0, 1) := by decide +kernel
theorem dL_law_20 : decode cL_law 20 = .ok (.arraylength, 1) := by decide +kernel
theorem dL_law_21 : decode cL_law 21 = .ok (.bipush 6, 2) := by decide +kernel
theorem dL_law_23 : decode cL_law 23 = .ok (.isub, 1) := by decide +kernel
theorem dL_law_24 : decode cL_law 24 = .ok (.if_icmp .gt 1176, 3) := by decide +kernel
theorem dL_law_27 : decode cL_law 27 = .ok (.aload_n 0, 1) := by decide +kernel
theorem dL_law_28 : decode cL_law 28 = .ok (.iload_n 3, 1) := by decide +kernel
theorem dL_law_29 : decode cL_law 29 = .ok (.iaload, 1) := by decide +kernel
theorem dL_law_30 : decode cL_law 30 = .ok (.bipush 63, 2) := by decide +kernel
theorem dL_law_32 : decode cL_law 32 = .ok (.iand, 1) := by decide +kernel
theorem dL_law_33 : decode cL_law 33 = .ok (.tableswitch 1161 0 33 #[151, 214, 237, 250, 273, 306, 339, 372, 395, 418, 451, 484, 527, 550, 563, 576, 589, 642, 675, 708, 751, 774, 797, 820, 833, 882, 931, 990, 1013, 1036, 1059, 1092, 1115, 1138], 151) := by decide +kernel
theorem dL_law_184 : decode cL_law 184 = .ok (.aload_n 1, 1) := by decide +kernel
theorem dL_law_185 : decode cL_law 185 = .ok (.aload_n 0, 1) := by decide +kernel
theorem dL_law_186 : decode cL_law 186 = .ok (.iload_n 3, 1) := by decide +kernel
theorem dL_law_187 : decode cL_law 187 = .ok (.iconst 1, 1) := by decide +kernel
theorem dL_law_188 : decode cL_law 188 = .ok (.iadd, 1) := by decide +kernel
theorem dL_law_189 : decode cL_law 189 = .ok (.iaload, 1) := by decide +kernel
theorem dL_law_190 : decode cL_law 190 = .ok (.aload_n 0, 1) := by decide +kernel
theorem dL_law_191 : decode cL_law 191 = .ok (.iload_n 3, 1) := by decide +kernel
theorem dL_law_192 : decode cL_law 192 = .ok (.iconst 2, 1) := by decide +kernel
theorem dL_law_193 : decode cL_law 193 = .ok (.iadd, 1) := by decide +kernel
theorem dL_law_194 : decode cL_law 194 = .ok (.iaload, 1) := by decide +kernel
theorem dL_law_195 : decode cL_law 195 = .ok (.aload_n 0, 1) := by decide +kernel
theorem dL_law_196 : decode cL_law 196 = .ok (.iload_n 3, 1) := by decide +kernel
theorem dL_law_197 : decode cL_law 197 = .ok (.iconst 3, 1) := by decide +kernel
theorem dL_law_198 : decode cL_law 198 = .ok (.iadd, 1) := by decide +kernel
theorem dL_law_199 : decode cL_law 199 = .ok (.iaload, 1) := by decide +kernel
theorem dL_law_200 : decode cL_law 200 = .ok (.aload_n 0, 1) := by decide +kernel
theorem dL_law_201 : decode cL_law 201 = .ok (.iload_n 3, 1) := by decide +kernel
theorem dL_law_202 : decode cL_law 202 = .ok (.iconst 4, 1) := by decide +kernel
theorem dL_law_203 : decode cL_law 203 = .ok (.iadd, 1) := by decide +kernel
theorem dL_law_204 : decode cL_law 204 = .ok (.iaload, 1) := by decide +kernel
theorem dL_law_205 : decode cL_law 205 = .ok (.aload_n 0, 1) := by decide +kernel
theorem dL_law_206 : decode cL_law 206 = .ok (.iload_n 3, 1) := by decide +kernel
theorem dL_law_207 : decode cL_law 207 = .ok (.iconst 5, 1) := by decide +kernel
theorem dL_law_208 : decode cL_law 208 = .ok (.iadd, 1) := by decide +kernel
theorem dL_law_209 : decode cL_law 209 = .ok (.iaload, 1) := by decide +kernel
theorem dL_law_210 : decode cL_law 210 = .ok (.invokevirtual 13, 3) := by decide +kernel
theorem dL_law_213 : decode cL_law 213 = .ok (.aload_n 2, 1) := by decide +kernel
theorem dL_law_214 : decode cL_law 214 = .ok (.aload_n 0, 1) := by decide +kernel
theorem dL_law_215 : decode cL_law 215 = .ok (.iload_n 3, 1) := by decide +kernel
theorem dL_law_216 : decode cL_law 216 = .ok (.iconst 1, 1) := by decide +kernel
theorem dL_law_217 : decode cL_law 217 = .ok (.iadd, 1) := by decide +kernel
theorem dL_law_218 : decode cL_law 218 = .ok (.iaload, 1) := by decide +kernel
theorem dL_law_219 : decode cL_law 219 = .ok (.aload_n 0, 1) := by decide +kernel
theorem dL_law_220 : decode cL_law 220 = .ok (.iload_n 3, 1) := by decide +kernel
theorem dL_law_221 : decode cL_law 221 = .ok (.iconst 2, 1) := by decide +kernel
theorem dL_law_222 : decode cL_law 222 = .ok (.iadd, 1) := by decide +kernel
theorem dL_law_223 : decode cL_law 223 = .ok (.iaload, 1) := by decide +kernel
theorem dL_law_224 : decode cL_law 224 = .ok (.aload_n 0, 1) := by decide +kernel
theorem dL_law_225 : decode cL_law 225 = .ok (.iload_n 3, 1) := by decide +kernel
theorem dL_law_226 : decode cL_law 226 = .ok (.iconst 3, 1) := by decide +kernel
theorem dL_law_227 : decode cL_law 227 = .ok (.iadd, 1) := by decide +kernel
theorem dL_law_228 : decode cL_law 228 = .ok (.iaload, 1) := by decide +kernel
theorem dL_law_229 : decode cL_law 229 = .ok (.aload_n 0, 1) := by decide +kernel
theorem dL_law_230 : decode cL_law 230 = .ok (.iload_n 3, 1) := by decide +kernel
theorem dL_law_231 : decode cL_law 231 = .ok (.iconst 4, 1) := by decide +kernel
theorem dL_law_232 : decode cL_law 232 = .ok (.iadd, 1) := by decide +kernel
theorem dL_law_233 : decode cL_law 233 = .ok (.iaload, 1) := by decide +kernel
theorem dL_law_234 : decode cL_law 234 = .ok (.aload_n 0, 1) := by decide +kernel
theorem dL_law_235 : decode cL_law 235 = .ok (.iload_n 3, 1) := by decide +kernel
theorem dL_law_236 : decode cL_law 236 = .ok (.iconst 5, 1) := by decide +kernel
theorem dL_law_237 : decode cL_law 237 = .ok (.iadd, 1) := by decide +kernel
theorem dL_law_238 : decode cL_law 238 = .ok (.iaload, 1) := by decide +kernel
theorem dL_law_239 : decode cL_law 239 = .ok (.invokevirtual 17, 3) := by decide +kernel
theorem dL_law_242 : decode cL_law 242 = .ok (.if_icmp .eq 952, 3) := by decide +kernel
theorem dL_law_245 : decode cL_law 245 = .ok (.iconst 0, 1) := by decide +kernel
theorem dL_law_246 : decode cL_law 246 = .ok (.ireturn, 1) := by decide +kernel
theorem dL_law_247 : decode cL_law 247 = .ok (.aload_n 1, 1) := by decide +kernel
theorem dL_law_248 : decode cL_law 248 = .ok (.aload_n 0, 1) := by decide +kernel
theorem dL_law_249 : decode cL_law 249 = .ok (.iload_n 3, 1) := by decide +kernel
theorem dL_law_250 : decode cL_law 250 = .ok (.iconst 1, 1) := by decide +kernel
theorem dL_law_251 : decode cL_law 251 = .ok (.iadd, 1) := by decide +kernel
theorem dL_law_252 : decode cL_law 252 = .ok (.iaload, 1) := by decide +kernel
theorem dL_law_253 : decode cL_law 253 = .ok (.invokevirtual 18, 3) := by decide +kernel
theorem dL_law_256 : decode cL_law 256 = .ok (.aload_n 2, 1) := by decide +kernel
theorem dL_law_257 : decode cL_law 257 = .ok (.aload_n 0, 1) := by decide +kernel
theorem dL_law_258 : decode cL_law 258 = .ok (.iload_n 3, 1) := by decide +kernel
theorem dL_law_259 : decode cL_law 259 = .ok (.iconst 1, 1) := by decide +kernel
theorem dL_law_260 : decode cL_law 260 = .ok (.iadd, 1) := by decide +kernel
theorem dL_law_261 : decode cL_law 261 = .ok (.iaload, 1) := by decide +kernel
theorem dL_law_262 : decode cL_law 262 = .ok (.invokevirtual 22, 3) := by decide +kernel
theorem dL_law_265 : decode cL_law 265 = .ok (.if_icmp .eq 929, 3) := by decide +kernel
theorem dL_law_268 : decode cL_law 268 = .ok (.iconst 0, 1) := by decide +kernel
theorem dL_law_269 : decode cL_law 269 = .ok (.ireturn, 1) := by decide +kernel
theorem dL_law_270 : decode cL_law 270 = .ok (.aload_n 1, 1) := by decide +kernel
theorem dL_law_271 : decode cL_law 271 = .ok (.invokevirtual 23, 3) := by decide +kernel
theorem dL_law_274 : decode cL_law 274 = .ok (.aload_n 2, 1) := by decide +kernel
theorem dL_law_275 : decode cL_law 275 = .ok (.invokevirtual 27, 3) := by decide +kernel
theorem dL_law_278 : decode cL_law 278 = .ok (.if_icmp .eq 916, 3) := by decide +kernel
theorem dL_law_281 : decode cL_law 281 = .ok (.iconst 0, 1) := by decide +kernel
theorem dL_law_282 : decode cL_law 282 = .ok (.ireturn, 1) := by decide +kernel
theorem dL_law_283 : decode cL_law 283 = .ok (.aload_n 1, 1) := by decide +kernel
theorem dL_law_284 : decode cL_law 284 = .ok (.aload_n 0, 1) := by decide +kernel
theorem dL_law_285 : decode cL_law 285 = .ok (.iload_n 3, 1) := by decide +kernel
theorem dL_law_286 : decode cL_law 286 = .ok (.iconst 1, 1) := by decide +kernel
theorem dL_law_287 : decode cL_law 287 = .ok (.iadd, 1) := by decide +kernel
theorem dL_law_288 : decode cL_law 288 = .ok (.iaload, 1) := by decide +kernel
theorem dL_law_289 : decode cL_law 289 = .ok (.invokevirtual 28, 3) := by decide +kernel
theorem dL_law_292 : decode cL_law 292 = .ok (.aload_n 2, 1) := by decide +kernel
theorem dL_law_293 : decode cL_law 293 = .ok (.aload_n 0, 1) := by decide +kernel
theorem dL_law_294 : decode cL_law 294 = .ok (.iload_n 3, 1) := by decide +kernel
theorem dL_law_295 : decode cL_law 295 = .ok (.iconst 1, 1) := by decide +kernel
theorem dL_law_296 : decode cL_law 296 = .ok (.iadd, 1) := by decide +kernel
theorem dL_law_297 : decode cL_law 297 = .ok (.iaload, 1) := by decide +kernel
theorem dL_law_298 : decode cL_law 298 = .ok (.invokevirtual 31, 3) := by decide +kernel
theorem dL_law_301 : decode cL_law 301 = .ok (.if_icmp .eq 893, 3) := by decide +kernel
theorem dL_law_304 : decode cL_law 304 = .ok (.iconst 0, 1) := by decide +kernel
theorem dL_law_305 : decode cL_law 305 = .ok (.ireturn, 1) := by decide +kernel
theorem dL_law_306 : decode cL_law 306 = .ok (.aload_n 1, 1) := by decide +kernel
theorem dL_law_307 : decode cL_law 307 = .ok (.aload_n 0, 1) := by decide +kernel
theorem dL_law_308 : decode cL_law 308 = .ok (.iload_n 3, 1) := by decide +kernel
theorem dL_law_309 : decode cL_law 309 = .ok (.iconst 1, 1) := by decide +kernel
theorem dL_law_310 : decode cL_law 310 = .ok (.iadd, 1) := by decide +kernel
theorem dL_law_311 : decode cL_law 311 = .ok (.iaload, 1) := by decide +kernel
theorem dL_law_312 : decode cL_law 312 = .ok (.aload_n 0, 1) := by decide +kernel
theorem dL_law_313 : decode cL_law 313 = .ok (.iload_n 3, 1) := by decide +kernel
theorem dL_law_314 : decode cL_law 314 = .ok (.iconst 2, 1) := by decide +kernel
theorem dL_law_315 : decode cL_law 315 = .ok (.iadd, 1) := by decide +kernel
theorem dL_law_316 : decode cL_law 316 = .ok (.iaload, 1) := by decide +kernel
theorem dL_law_317 : decode cL_law 317 = .ok (.invokevirtual 32, 3) := by decide +kernel
theorem dL_law_320 : decode cL_law 320 = .ok (.aload_n 2, 1) := by decide +kernel
theorem dL_law_321 : decode cL_law 321 = .ok (.aload_n 0, 1) := by decide +kernel
theorem dL_law_322 : decode cL_law 322 = .ok (.iload_n 3, 1) := by decide +kernel
theorem dL_law_323 : decode cL_law 323 = .ok (.iconst 1, 1) := by decide +kernel
theorem dL_law_324 : decode cL_law 324 = .ok (.iadd, 1) := by decide +kernel
theorem dL_law_325 : decode cL_law 325 = .ok (.iaload, 1) := by decide +kernel
theorem dL_law_326 : decode cL_law 326 = .ok (.aload_n 0, 1) := by decide +kernel
theorem dL_law_327 : decode cL_law 327 = .ok (.iload_n 3, 1) := by decide +kernel
theorem dL_law_328 : decode cL_law 328 = .ok (.iconst 2, 1) := by decide +kernel
theorem dL_law_329 : decode cL_law 329 = .ok (.iadd, 1) := by decide +kernel
theorem dL_law_330 : decode cL_law 330 = .ok (.iaload, 1) := by decide +kernel
theorem dL_law_331 : decode cL_law 331 = .ok (.invokevirtual 36, 3) := by decide +kernel
theorem dL_law_334 : decode cL_law 334 = .ok (.if_icmp .eq 860, 3) := by decide +kernel
theorem dL_law_337 : decode cL_law 337 = .ok (.iconst 0, 1) := by decide +kernel
theorem dL_law_338 : decode cL_law 338 = .ok (.ireturn, 1) := by decide +kernel
theorem dL_law_339 : decode cL_law 339 = .ok (.aload_n 1, 1) := by decide +kernel
theorem dL_law_340 : decode cL_law 340 = .ok (.aload_n 0, 1) := by decide +kernel
theorem dL_law_341 : decode cL_law 341 = .ok (.iload_n 3, 1) := by decide +kernel
theorem dL_law_342 : decode cL_law 342 = .ok (.iconst 1, 1) := by decide +kernel
theorem dL_law_343 : decode cL_law 343 = .ok (.iadd, 1) := by decide +kernel
theorem dL_law_344 : decode cL_law 344 = .ok (.iaload, 1) := by decide +kernel
theorem dL_law_345 : decode cL_law 345 = .ok (.aload_n 0, 1) := by decide +kernel
theorem dL_law_346 : decode cL_law 346 = .ok (.iload_n 3, 1) := by decide +kernel
theorem dL_law_347 : decode cL_law 347 = .ok (.iconst 2, 1) := by decide +kernel
theorem dL_law_348 : decode cL_law 348 = .ok (.iadd, 1) := by decide +kernel
theorem dL_law_349 : decode cL_law 349 = .ok (.iaload, 1) := by decide +kernel
theorem dL_law_350 : decode cL_law 350 = .ok (.invokevirtual 37, 3) := by decide +kernel
theorem dL_law_353 : decode cL_law 353 = .ok (.aload_n 2, 1) := by decide +kernel
theorem dL_law_354 : decode cL_law 354 = .ok (.aload_n 0, 1) := by decide +kernel
theorem dL_law_355 : decode cL_law 355 = .ok (.iload_n 3, 1) := by decide +kernel
theorem dL_law_356 : decode cL_law 356 = .ok (.iconst 1, 1) := by decide +kernel
theorem dL_law_357 : decode cL_law 357 = .ok (.iadd, 1) := by decide +kernel
theorem dL_law_358 : decode cL_law 358 = .ok (.iaload, 1) := by decide +kernel
theorem dL_law_359 : decode cL_law 359 = .ok (.aload_n 0, 1) := by decide +kernel
theorem dL_law_360 : decode cL_law 360 = .ok (.iload_n 3, 1) := by decide +kernel
theorem dL_law_361 : decode cL_law 361 = .ok (.iconst 2, 1) := by decide +kernel
theorem dL_law_362 : decode cL_law 362 = .ok (.iadd, 1) := by decide +kernel
theorem dL_law_363 : decode cL_law 363 = .ok (.iaload, 1) := by decide +kernel
theorem dL_law_364 : decode cL_law 364 = .ok (.invokevirtual 40, 3) := by decide +kernel
theorem dL_law_367 : decode cL_law 367 = .ok (.if_icmp .eq 827, 3) := by decide +kernel
theorem dL_law_370 : decode cL_law 370 = .ok (.iconst 0, 1) := by decide +kernel
theorem dL_law_371 : decode cL_law 371 = .ok (.ireturn, 1) := by decide +kernel
theorem dL_law_372 : decode cL_law 372 = .ok (.aload_n 1, 1) := by decide +kernel
theorem dL_law_373 : decode cL_law 373 = .ok (.aload_n 0, 1) := by decide +kernel
theorem dL_law_374 : decode cL_law 374 = .ok (.iload_n 3, 1) := by decide +kernel
theorem dL_law_375 : decode cL_law 375 = .ok (.iconst 1, 1) := by decide +kernel
theorem dL_law_376 : decode cL_law 376 = .ok (.iadd, 1) := by decide +kernel
theorem dL_law_377 : decode cL_law 377 = .ok (.iaload, 1) := by decide +kernel
theorem dL_law_378 : decode cL_law 378 = .ok (.aload_n 0, 1) := by decide +kernel
theorem dL_law_379 : decode cL_law 379 = .ok (.iload_n 3, 1) := by decide +kernel
theorem dL_law_380 : decode cL_law 380 = .ok (.iconst 2, 1) := by decide +kernel
theorem dL_law_381 : decode cL_law 381 = .ok (.iadd, 1) := by decide +kernel
theorem dL_law_382 : decode cL_law 382 = .ok (.iaload, 1) := by decide +kernel
theorem dL_law_383 : decode cL_law 383 = .ok (.invokevirtual 41, 3) := by decide +kernel
theorem dL_law_386 : decode cL_law 386 = .ok (.aload_n 2, 1) := by decide +kernel
theorem dL_law_387 : decode cL_law 387 = .ok (.aload_n 0, 1) := by decide +kernel
theorem dL_law_388 : decode cL_law 388 = .ok (.iload_n 3, 1) := by decide +kernel
theorem dL_law_389 : decode cL_law 389 = .ok (.iconst 1, 1) := by decide +kernel
theorem dL_law_390 : decode cL_law 390 = .ok (.iadd, 1) := by decide +kernel
theorem dL_law_391 : decode cL_law 391 = .ok (.iaload, 1) := by decide +kernel
theorem dL_law_392 : decode cL_law 392 = .ok (.aload_n 0, 1) := by decide +kernel
theorem dL_law_393 : decode cL_law 393 = .ok (.iload_n 3, 1) := by decide +kernel
theorem dL_law_394 : decode cL_law 394 = .ok (.iconst 2, 1) := by decide +kernel
theorem dL_law_395 : decode cL_law 395 = .ok (.iadd, 1) := by decide +kernel
theorem dL_law_396 : decode cL_law 396 = .ok (.iaload, 1) := by decide +kernel
theorem dL_law_397 : decode cL_law 397 = .ok (.invokevirtual 44, 3) := by decide +kernel
theorem dL_law_400 : decode cL_law 400 = .ok (.if_icmp .eq 794, 3) := by decide +kernel
theorem dL_law_403 : decode cL_law 403 = .ok (.iconst 0, 1) := by decide +kernel
theorem dL_law_404 : decode cL_law 404 = .ok (.ireturn, 1) := by decide +kernel
theorem dL_law_405 : decode cL_law 405 = .ok (.aload_n 1, 1) := by decide +kernel
theorem dL_law_406 : decode cL_law 406 = .ok (.aload_n 0, 1) := by decide +kernel
theorem dL_law_407 : decode cL_law 407 = .ok (.iload_n 3, 1) := by decide +kernel
theorem dL_law_408 : decode cL_law 408 = .ok (.iconst 1, 1) := by decide +kernel
theorem dL_law_409 : decode cL_law 409 = .ok (.iadd, 1) := by decide +kernel
theorem dL_law_410 : decode cL_law 410 = .ok (.iaload, 1) := by decide +kernel
theorem dL_law_411 : decode cL_law 411 = .ok (.invokevirtual 45, 3) := by decide +kernel
theorem dL_law_414 : decode cL_law 414 = .ok (.aload_n 2, 1) := by decide +kernel
theorem dL_law_415 : decode cL_law 415 = .ok (.aload_n 0, 1) := by decide +kernel
theorem dL_law_416 : decode cL_law 416 = .ok (.iload_n 3, 1) := by decide +kernel
theorem dL_law_417 : decode cL_law 417 = .ok (.iconst 1, 1) := by decide +kernel
theorem dL_law_418 : decode cL_law 418 = .ok (.iadd, 1) := by decide +kernel
theorem dL_law_419 : decode cL_law 419 = .ok (.iaload, 1) := by decide +kernel
theorem dL_law_420 : decode cL_law 420 = .ok (.invokevirtual 48, 3) := by decide +kernel
theorem dL_law_423 : decode cL_law 423 = .ok (.if_icmp .eq 771, 3) := by decide +kernel
theorem dL_law_426 : decode cL_law 426 = .ok (.iconst 0, 1) := by decide +kernel
theorem dL_law_427 : decode cL_law 427 = .ok (.ireturn, 1) := by decide +kernel
theorem dL_law_428 : decode cL_law 428 = .ok (.aload_n 1, 1) := by decide +kernel
theorem dL_law_429 : decode cL_law 429 = .ok (.aload_n 0, 1) := by decide +kernel
theorem dL_law_430 : decode cL_law 430 = .ok (.iload_n 3, 1) := by decide +kernel
theorem dL_law_431 : decode cL_law 431 = .ok (.iconst 1, 1) := by decide +kernel
theorem dL_law_432 : decode cL_law 432 = .ok (.iadd, 1) := by decide +kernel
theorem dL_law_433 : decode cL_law 433 = .ok (.iaload, 1) := by decide +kernel
theorem dL_law_434 : decode cL_law 434 = .ok (.invokevirtual 49, 3) := by decide +kernel
theorem dL_law_437 : decode cL_law 437 = .ok (.aload_n 2, 1) := by decide +kernel
theorem dL_law_438 : decode cL_law 438 = .ok (.aload_n 0, 1) := by decide +kernel
theorem dL_law_439 : decode cL_law 439 = .ok (.iload_n 3, 1) := by decide +kernel
theorem dL_law_440 : decode cL_law 440 = .ok (.iconst 1, 1) := by decide +kernel
theorem dL_law_441 : decode cL_law 441 = .ok (.iadd, 1) := by decide +kernel
theorem dL_law_442 : decode cL_law 442 = .ok (.iaload, 1) := by decide +kernel
theorem dL_law_443 : decode cL_law 443 = .ok (.invokevirtual 52, 3) := by decide +kernel
theorem dL_law_446 : decode cL_law 446 = .ok (.if_icmp .eq 748, 3) := by decide +kernel
theorem dL_law_449 : decode cL_law 449 = .ok (.iconst 0, 1) := by decide +kernel
theorem dL_law_450 : decode cL_law 450 = .ok (.ireturn, 1) := by decide +kernel
theorem dL_law_451 : decode cL_law 451 = .ok (.aload_n 1, 1) := by decide +kernel
theorem dL_law_452 : decode cL_law 452 = .ok (.aload_n 0, 1) := by decide +kernel
theorem dL_law_453 : decode cL_law 453 = .ok (.iload_n 3, 1) := by decide +kernel
theorem dL_law_454 : decode cL_law 454 = .ok (.iconst 1, 1) := by decide +kernel
theorem dL_law_455 : decode cL_law 455 = .ok (.iadd, 1) := by decide +kernel
theorem dL_law_456 : decode cL_law 456 = .ok (.iaload, 1) := by decide +kernel
theorem dL_law_457 : decode cL_law 457 = .ok (.aload_n 0, 1) := by decide +kernel
theorem dL_law_458 : decode cL_law 458 = .ok (.iload_n 3, 1) := by decide +kernel
theorem dL_law_459 : decode cL_law 459 = .ok (.iconst 2, 1) := by decide +kernel
theorem dL_law_460 : decode cL_law 460 = .ok (.iadd, 1) := by decide +kernel
theorem dL_law_461 : decode cL_law 461 = .ok (.iaload, 1) := by decide +kernel
theorem dL_law_462 : decode cL_law 462 = .ok (.invokevirtual 53, 3) := by decide +kernel
theorem dL_law_465 : decode cL_law 465 = .ok (.aload_n 2, 1) := by decide +kernel
theorem dL_law_466 : decode cL_law 466 = .ok (.aload_n 0, 1) := by decide +kernel
theorem dL_law_467 : decode cL_law 467 = .ok (.iload_n 3, 1) := by decide +kernel
theorem dL_law_468 : decode cL_law 468 = .ok (.iconst 1, 1) := by decide +kernel
theorem dL_law_469 : decode cL_law 469 = .ok (.iadd, 1) := by decide +kernel
theorem dL_law_470 : decode cL_law 470 = .ok (.iaload, 1) := by decide +kernel
theorem dL_law_471 : decode cL_law 471 = .ok (.aload_n 0, 1) := by decide +kernel
theorem dL_law_472 : decode cL_law 472 = .ok (.iload_n 3, 1) := by decide +kernel
theorem dL_law_473 : decode cL_law 473 = .ok (.iconst 2, 1) := by decide +kernel
theorem dL_law_474 : decode cL_law 474 = .ok (.iadd, 1) := by decide +kernel
theorem dL_law_475 : decode cL_law 475 = .ok (.iaload, 1) := by decide +kernel
theorem dL_law_476 : decode cL_law 476 = .ok (.invokevirtual 56, 3) := by decide +kernel
theorem dL_law_479 : decode cL_law 479 = .ok (.if_icmp .eq 715, 3) := by decide +kernel
theorem dL_law_482 : decode cL_law 482 = .ok (.iconst 0, 1) := by decide +kernel
theorem dL_law_483 : decode cL_law 483 = .ok (.ireturn, 1) := by decide +kernel
theorem dL_law_484 : decode cL_law 484 = .ok (.aload_n 1, 1) := by decide +kernel
theorem dL_law_485 : decode cL_law 485 = .ok (.aload_n 0, 1) := by decide +kernel
theorem dL_law_486 : decode cL_law 486 = .ok (.iload_n 3, 1) := by decide +kernel
theorem dL_law_487 : decode cL_law 487 = .ok (.iconst 1, 1) := by decide +kernel
theorem dL_law_488 : decode cL_law 488 = .ok (.iadd, 1) := by decide +kernel
theorem dL_law_489 : decode cL_law 489 = .ok (.iaload, 1) := by decide +kernel
theorem dL_law_490 : decode cL_law 490 = .ok (.aload_n 0, 1) := by decide +kernel
theorem dL_law_491 : decode cL_law 491 = .ok (.iload_n 3, 1) := by decide +kernel
theorem dL_law_492 : decode cL_law 492 = .ok (.iconst 2, 1) := by decide +kernel
theorem dL_law_493 : decode cL_law 493 = .ok (.iadd, 1) := by decide +kernel
theorem dL_law_494 : decode cL_law 494 = .ok (.iaload, 1) := by decide +kernel
theorem dL_law_495 : decode cL_law 495 = .ok (.invokevirtual 57, 3) := by decide +kernel
theorem dL_law_498 : decode cL_law 498 = .ok (.aload_n 2, 1) := by decide +kernel
theorem dL_law_499 : decode cL_law 499 = .ok (.aload_n 0, 1) := by decide +kernel
theorem dL_law_500 : decode cL_law 500 = .ok (.iload_n 3, 1) := by decide +kernel
theorem dL_law_501 : decode cL_law 501 = .ok (.iconst 1, 1) := by decide +kernel
theorem dL_law_502 : decode cL_law 502 = .ok (.iadd, 1) := by decide +kernel
theorem dL_law_503 : decode cL_law 503 = .ok (.iaload, 1) := by decide +kernel
theorem dL_law_504 : decode cL_law 504 = .ok (.aload_n 0, 1) := by decide +kernel
theorem dL_law_505 : decode cL_law 505 = .ok (.iload_n 3, 1) := by decide +kernel
theorem dL_law_506 : decode cL_law 506 = .ok (.iconst 2, 1) := by decide +kernel
theorem dL_law_507 : decode cL_law 507 = .ok (.iadd, 1) := by decide +kernel
theorem dL_law_508 : decode cL_law 508 = .ok (.iaload, 1) := by decide +kernel
theorem dL_law_509 : decode cL_law 509 = .ok (.invokevirtual 60, 3) := by decide +kernel
theorem dL_law_512 : decode cL_law 512 = .ok (.if_icmp .eq 682, 3) := by decide +kernel
theorem dL_law_515 : decode cL_law 515 = .ok (.iconst 0, 1) := by decide +kernel
theorem dL_law_516 : decode cL_law 516 = .ok (.ireturn, 1) := by decide +kernel
theorem dL_law_517 : decode cL_law 517 = .ok (.aload_n 1, 1) := by decide +kernel
theorem dL_law_518 : decode cL_law 518 = .ok (.aload_n 0, 1) := by decide +kernel
theorem dL_law_519 : decode cL_law 519 = .ok (.iload_n 3, 1) := by decide +kernel
theorem dL_law_520 : decode cL_law 520 = .ok (.iconst 1, 1) := by decide +kernel
theorem dL_law_521 : decode cL_law 521 = .ok (.iadd, 1) := by decide +kernel
theorem dL_law_522 : decode cL_law 522 = .ok (.iaload, 1) := by decide +kernel
theorem dL_law_523 : decode cL_law 523 = .ok (.aload_n 0, 1) := by decide +kernel
theorem dL_law_524 : decode cL_law 524 = .ok (.iload_n 3, 1) := by decide +kernel
theorem dL_law_525 : decode cL_law 525 = .ok (.iconst 2, 1) := by decide +kernel
theorem dL_law_526 : decode cL_law 526 = .ok (.iadd, 1) := by decide +kernel
theorem dL_law_527 : decode cL_law 527 = .ok (.iaload, 1) := by decide +kernel
theorem dL_law_528 : decode cL_law 528 = .ok (.aload_n 0, 1) := by decide +kernel
theorem dL_law_529 : decode cL_law 529 = .ok (.iload_n 3, 1) := by decide +kernel
theorem dL_law_530 : decode cL_law 530 = .ok (.iconst 3, 1) := by decide +kernel
theorem dL_law_531 : decode cL_law 531 = .ok (.iadd, 1) := by decide +kernel
theorem dL_law_532 : decode cL_law 532 = .ok (.iaload, 1) := by decide +kernel
theorem dL_law_533 : decode cL_law 533 = .ok (.invokevirtual 61, 3) := by decide +kernel
theorem dL_law_536 : decode cL_law 536 = .ok (.aload_n 2, 1) := by decide +kernel
theorem dL_law_537 : decode cL_law 537 = .ok (.aload_n 0, 1) := by decide +kernel
theorem dL_law_538 : decode cL_law 538 = .ok (.iload_n 3, 1) := by decide +kernel
theorem dL_law_539 : decode cL_law 539 = .ok (.iconst 1, 1) := by decide +kernel
theorem dL_law_540 : decode cL_law 540 = .ok (.iadd, 1) := by decide +kernel
theorem dL_law_541 : decode cL_law 541 = .ok (.iaload, 1) := by decide +kernel
theorem dL_law_542 : decode cL_law 542 = .ok (.aload_n 0, 1) := by decide +kernel
theorem dL_law_543 : decode cL_law 543 = .ok (.iload_n 3, 1) := by decide +kernel
theorem dL_law_544 : decode cL_law 544 = .ok (.iconst 2, 1) := by decide +kernel
theorem dL_law_545 : decode cL_law 545 = .ok (.iadd, 1) := by decide +kernel
theorem dL_law_546 : decode cL_law 546 = .ok (.iaload, 1) := by decide +kernel
theorem dL_law_547 : decode cL_law 547 = .ok (.aload_n 0, 1) := by decide +kernel
theorem dL_law_548 : decode cL_law 548 = .ok (.iload_n 3, 1) := by decide +kernel
theorem dL_law_549 : decode cL_law 549 = .ok (.iconst 3, 1) := by decide +kernel
theorem dL_law_550 : decode cL_law 550 = .ok (.iadd, 1) := by decide +kernel
theorem dL_law_551 : decode cL_law 551 = .ok (.iaload, 1) := by decide +kernel
theorem dL_law_552 : decode cL_law 552 = .ok (.invokevirtual 65, 3) := by decide +kernel
theorem dL_law_555 : decode cL_law 555 = .ok (.if_icmp .eq 639, 3) := by decide +kernel
theorem dL_law_558 : decode cL_law 558 = .ok (.iconst 0, 1) := by decide +kernel
theorem dL_law_559 : decode cL_law 559 = .ok (.ireturn, 1) := by decide +kernel
theorem dL_law_560 : decode cL_law 560 = .ok (.aload_n 1, 1) := by decide +kernel
theorem dL_law_561 : decode cL_law 561 = .ok (.aload_n 0, 1) := by decide +kernel
theorem dL_law_562 : decode cL_law 562 = .ok (.iload_n 3, 1) := by decide +kernel
theorem dL_law_563 : decode cL_law 563 = .ok (.iconst 1, 1) := by decide +kernel
theorem dL_law_564 : decode cL_law 564 = .ok (.iadd, 1) := by decide +kernel
theorem dL_law_565 : decode cL_law 565 = .ok (.iaload, 1) := by decide +kernel
theorem dL_law_566 : decode cL_law 566 = .ok (.invokevirtual 66, 3) := by decide +kernel
theorem dL_law_569 : decode cL_law 569 = .ok (.aload_n 2, 1) := by decide +kernel
theorem dL_law_570 : decode cL_law 570 = .ok (.aload_n 0, 1) := by decide +kernel
theorem dL_law_571 : decode cL_law 571 = .ok (.iload_n 3, 1) := by decide +kernel
theorem dL_law_572 : decode cL_law 572 = .ok (.iconst 1, 1) := by decide +kernel
theorem dL_law_573 : decode cL_law 573 = .ok (.iadd, 1) := by decide +kernel
theorem dL_law_574 : decode cL_law 574 = .ok (.iaload, 1) := by decide +kernel
theorem dL_law_575 : decode cL_law 575 = .ok (.invokevirtual 70, 3) := by decide +kernel
theorem dL_law_578 : decode cL_law 578 = .ok (.if_icmp .eq 616, 3) := by decide +kernel
theorem dL_law_581 : decode cL_law 581 = .ok (.iconst 0, 1) := by decide +kernel
theorem dL_law_582 : decode cL_law 582 = .ok (.ireturn, 1) := by decide +kernel
theorem dL_law_583 : decode cL_law 583 = .ok (.aload_n 1, 1) := by decide +kernel
theorem dL_law_584 : decode cL_law 584 = .ok (.invokevirtual 71, 3) := by decide +kernel
theorem dL_law_587 : decode cL_law 587 = .ok (.aload_n 2, 1) := by decide +kernel
theorem dL_law_588 : decode cL_law 588 = .ok (.invokevirtual 74, 3) := by decide +kernel
theorem dL_law_591 : decode cL_law 591 = .ok (.if_icmp .eq 603, 3) := by decide +kernel
theorem dL_law_594 : decode cL_law 594 = .ok (.iconst 0, 1) := by decide +kernel
theorem dL_law_595 : decode cL_law 595 = .ok (.ireturn, 1) := by decide +kernel
theorem dL_law_596 : decode cL_law 596 = .ok (.aload_n 1, 1) := by decide +kernel
theorem dL_law_597 : decode cL_law 597 = .ok (.invokevirtual 75, 3) := by decide +kernel
theorem dL_law_600 : decode cL_law 600 = .ok (.aload_n 2, 1) := by decide +kernel
theorem dL_law_601 : decode cL_law 601 = .ok (.invokevirtual 79, 3) := by decide +kernel
theorem dL_law_604 : decode cL_law 604 = .ok (.if_icmp .eq 590, 3) := by decide +kernel
theorem dL_law_607 : decode cL_law 607 = .ok (.iconst 0, 1) := by decide +kernel
theorem dL_law_608 : decode cL_law 608 = .ok (.ireturn, 1) := by decide +kernel
theorem dL_law_609 : decode cL_law 609 = .ok (.aload_n 1, 1) := by decide +kernel
theorem dL_law_610 : decode cL_law 610 = .ok (.invokevirtual 80, 3) := by decide +kernel
theorem dL_law_613 : decode cL_law 613 = .ok (.aload_n 2, 1) := by decide +kernel
theorem dL_law_614 : decode cL_law 614 = .ok (.invokevirtual 83, 3) := by decide +kernel
theorem dL_law_617 : decode cL_law 617 = .ok (.if_icmp .eq 577, 3) := by decide +kernel
theorem dL_law_620 : decode cL_law 620 = .ok (.iconst 0, 1) := by decide +kernel
theorem dL_law_621 : decode cL_law 621 = .ok (.ireturn, 1) := by decide +kernel
theorem dL_law_622 : decode cL_law 622 = .ok (.aload_n 1, 1) := by decide +kernel
theorem dL_law_623 : decode cL_law 623 = .ok (.aload_n 0, 1) := by decide +kernel
theorem dL_law_624 : decode cL_law 624 = .ok (.iload_n 3, 1) := by decide +kernel
theorem dL_law_625 : decode cL_law 625 = .ok (.iconst 1, 1) := by decide +kernel
theorem dL_law_626 : decode cL_law 626 = .ok (.iadd, 1) := by decide +kernel
theorem dL_law_627 : decode cL_law 627 = .ok (.iaload, 1) := by decide +kernel
theorem dL_law_628 : decode cL_law 628 = .ok (.aload_n 0, 1) := by decide +kernel
theorem dL_law_629 : decode cL_law 629 = .ok (.iload_n 3, 1) := by decide +kernel
theorem dL_law_630 : decode cL_law 630 = .ok (.iconst 2, 1) := by decide +kernel
theorem dL_law_631 : decode cL_law 631 = .ok (.iadd, 1) := by decide +kernel
theorem dL_law_632 : decode cL_law 632 = .ok (.iaload, 1) := by decide +kernel
theorem dL_law_633 : decode cL_law 633 = .ok (.aload_n 0, 1) := by decide +kernel
theorem dL_law_634 : decode cL_law 634 = .ok (.iload_n 3, 1) := by decide +kernel
theorem dL_law_635 : decode cL_law 635 = .ok (.iconst 3, 1) := by decide +kernel
theorem dL_law_636 : decode cL_law 636 = .ok (.iadd, 1) := by decide +kernel
theorem dL_law_637 : decode cL_law 637 = .ok (.iaload, 1) := by decide +kernel
theorem dL_law_638 : decode cL_law 638 = .ok (.aload_n 0, 1) := by decide +kernel
theorem dL_law_639 : decode cL_law 639 = .ok (.iload_n 3, 1) := by decide +kernel
theorem dL_law_640 : decode cL_law 640 = .ok (.iconst 4, 1) := by decide +kernel
theorem dL_law_641 : decode cL_law 641 = .ok (.iadd, 1) := by decide +kernel
theorem dL_law_642 : decode cL_law 642 = .ok (.iaload, 1) := by decide +kernel
theorem dL_law_643 : decode cL_law 643 = .ok (.invokevirtual 84, 3) := by decide +kernel
theorem dL_law_646 : decode cL_law 646 = .ok (.aload_n 2, 1) := by decide +kernel
theorem dL_law_647 : decode cL_law 647 = .ok (.aload_n 0, 1) := by decide +kernel
theorem dL_law_648 : decode cL_law 648 = .ok (.iload_n 3, 1) := by decide +kernel
theorem dL_law_649 : decode cL_law 649 = .ok (.iconst 1, 1) := by decide +kernel
theorem dL_law_650 : decode cL_law 650 = .ok (.iadd, 1) := by decide +kernel
theorem dL_law_651 : decode cL_law 651 = .ok (.iaload, 1) := by decide +kernel
theorem dL_law_652 : decode cL_law 652 = .ok (.aload_n 0, 1) := by decide +kernel
theorem dL_law_653 : decode cL_law 653 = .ok (.iload_n 3, 1) := by decide +kernel
theorem dL_law_654 : decode cL_law 654 = .ok (.iconst 2, 1) := by decide +kernel
theorem dL_law_655 : decode cL_law 655 = .ok (.iadd, 1) := by decide +kernel
theorem dL_law_656 : decode cL_law 656 = .ok (.iaload, 1) := by decide +kernel
theorem dL_law_657 : decode cL_law 657 = .ok (.aload_n 0, 1) := by decide +kernel
theorem dL_law_658 : decode cL_law 658 = .ok (.iload_n 3, 1) := by decide +kernel
theorem dL_law_659 : decode cL_law 659 = .ok (.iconst 3, 1) := by decide +kernel
theorem dL_law_660 : decode cL_law 660 = .ok (.iadd, 1) := by decide +kernel
theorem dL_law_661 : decode cL_law 661 = .ok (.iaload, 1) := by decide +kernel
theorem dL_law_662 : decode cL_law 662 = .ok (.aload_n 0, 1) := by decide +kernel
theorem dL_law_663 : decode cL_law 663 = .ok (.iload_n 3, 1) := by decide +kernel
theorem dL_law_664 : decode cL_law 664 = .ok (.iconst 4, 1) := by decide +kernel
theorem dL_law_665 : decode cL_law 665 = .ok (.iadd, 1) := by decide +kernel
theorem dL_law_666 : decode cL_law 666 = .ok (.iaload, 1) := by decide +kernel
theorem dL_law_667 : decode cL_law 667 = .ok (.invokevirtual 88, 3) := by decide +kernel
theorem dL_law_670 : decode cL_law 670 = .ok (.if_icmp .eq 524, 3) := by decide +kernel
theorem dL_law_673 : decode cL_law 673 = .ok (.iconst 0, 1) := by decide +kernel
theorem dL_law_674 : decode cL_law 674 = .ok (.ireturn, 1) := by decide +kernel
theorem dL_law_675 : decode cL_law 675 = .ok (.aload_n 1, 1) := by decide +kernel
theorem dL_law_676 : decode cL_law 676 = .ok (.aload_n 0, 1) := by decide +kernel
theorem dL_law_677 : decode cL_law 677 = .ok (.iload_n 3, 1) := by decide +kernel
theorem dL_law_678 : decode cL_law 678 = .ok (.iconst 1, 1) := by decide +kernel
theorem dL_law_679 : decode cL_law 679 = .ok (.iadd, 1) := by decide +kernel
theorem dL_law_680 : decode cL_law 680 = .ok (.iaload, 1) := by decide +kernel
theorem dL_law_681 : decode cL_law 681 = .ok (.aload_n 0, 1) := by decide +kernel
theorem dL_law_682 : decode cL_law 682 = .ok (.iload_n 3, 1) := by decide +kernel
theorem dL_law_683 : decode cL_law 683 = .ok (.iconst 2, 1) := by decide +kernel
theorem dL_law_684 : decode cL_law 684 = .ok (.iadd, 1) := by decide +kernel
theorem dL_law_685 : decode cL_law 685 = .ok (.iaload, 1) := by decide +kernel
theorem dL_law_686 : decode cL_law 686 = .ok (.invokevirtual 89, 3) := by decide +kernel
theorem dL_law_689 : decode cL_law 689 = .ok (.aload_n 2, 1) := by decide +kernel
theorem dL_law_690 : decode cL_law 690 = .ok (.aload_n 0, 1) := by decide +kernel
theorem dL_law_691 : decode cL_law 691 = .ok (.iload_n 3, 1) := by decide +kernel
theorem dL_law_692 : decode cL_law 692 = .ok (.iconst 1, 1) := by decide +kernel
theorem dL_law_693 : decode cL_law 693 = .ok (.iadd, 1) := by decide +kernel
theorem dL_law_694 : decode cL_law 694 = .ok (.iaload, 1) := by decide +kernel
theorem dL_law_695 : decode cL_law 695 = .ok (.aload_n 0, 1) := by decide +kernel
theorem dL_law_696 : decode cL_law 696 = .ok (.iload_n 3, 1) := by decide +kernel
theorem dL_law_697 : decode cL_law 697 = .ok (.iconst 2, 1) := by decide +kernel
theorem dL_law_698 : decode cL_law 698 = .ok (.iadd, 1) := by decide +kernel
theorem dL_law_699 : decode cL_law 699 = .ok (.iaload, 1) := by decide +kernel
theorem dL_law_700 : decode cL_law 700 = .ok (.invokevirtual 92, 3) := by decide +kernel
theorem dL_law_703 : decode cL_law 703 = .ok (.if_icmp .eq 491, 3) := by decide +kernel
theorem dL_law_706 : decode cL_law 706 = .ok (.iconst 0, 1) := by decide +kernel
theorem dL_law_707 : decode cL_law 707 = .ok (.ireturn, 1) := by decide +kernel
theorem dL_law_708 : decode cL_law 708 = .ok (.aload_n 1, 1) := by decide +kernel
theorem dL_law_709 : decode cL_law 709 = .ok (.aload_n 0, 1) := by decide +kernel
theorem dL_law_710 : decode cL_law 710 = .ok (.iload_n 3, 1) := by decide +kernel
theorem dL_law_711 : decode cL_law 711 = .ok (.iconst 1, 1) := by decide +kernel
theorem dL_law_712 : decode cL_law 712 = .ok (.iadd, 1) := by decide +kernel
theorem dL_law_713 : decode cL_law 713 = .ok (.iaload, 1) := by decide +kernel
theorem dL_law_714 : decode cL_law 714 = .ok (.aload_n 0, 1) := by decide +kernel
theorem dL_law_715 : decode cL_law 715 = .ok (.iload_n 3, 1) := by decide +kernel
theorem dL_law_716 : decode cL_law 716 = .ok (.iconst 2, 1) := by decide +kernel
theorem dL_law_717 : decode cL_law 717 = .ok (.iadd, 1) := by decide +kernel
theorem dL_law_718 : decode cL_law 718 = .ok (.iaload, 1) := by decide +kernel
theorem dL_law_719 : decode cL_law 719 = .ok (.invokevirtual 93, 3) := by decide +kernel
theorem dL_law_722 : decode cL_law 722 = .ok (.aload_n 2, 1) := by decide +kernel
theorem dL_law_723 : decode cL_law 723 = .ok (.aload_n 0, 1) := by decide +kernel
theorem dL_law_724 : decode cL_law 724 = .ok (.iload_n 3, 1) := by decide +kernel
theorem dL_law_725 : decode cL_law 725 = .ok (.iconst 1, 1) := by decide +kernel
theorem dL_law_726 : decode cL_law 726 = .ok (.iadd, 1) := by decide +kernel
theorem dL_law_727 : decode cL_law 727 = .ok (.iaload, 1) := by decide +kernel
theorem dL_law_728 : decode cL_law 728 = .ok (.aload_n 0, 1) := by decide +kernel
theorem dL_law_729 : decode cL_law 729 = .ok (.iload_n 3, 1) := by decide +kernel
theorem dL_law_730 : decode cL_law 730 = .ok (.iconst 2, 1) := by decide +kernel
theorem dL_law_731 : decode cL_law 731 = .ok (.iadd, 1) := by decide +kernel
theorem dL_law_732 : decode cL_law 732 = .ok (.iaload, 1) := by decide +kernel
theorem dL_law_733 : decode cL_law 733 = .ok (.invokevirtual 96, 3) := by decide +kernel
theorem dL_law_736 : decode cL_law 736 = .ok (.if_icmp .eq 458, 3) := by decide +kernel
theorem dL_law_739 : decode cL_law 739 = .ok (.iconst 0, 1) := by decide +kernel
theorem dL_law_740 : decode cL_law 740 = .ok (.ireturn, 1) := by decide +kernel
theorem dL_law_741 : decode cL_law 741 = .ok (.aload_n 1, 1) := by decide +kernel
theorem dL_law_742 : decode cL_law 742 = .ok (.aload_n 0, 1) := by decide +kernel
theorem dL_law_743 : decode cL_law 743 = .ok (.iload_n 3, 1) := by decide +kernel
theorem dL_law_744 : decode cL_law 744 = .ok (.iconst 1, 1) := by decide +kernel
theorem dL_law_745 : decode cL_law 745 = .ok (.iadd, 1) := by decide +kernel
theorem dL_law_746 : decode cL_law 746 = .ok (.iaload, 1) := by decide +kernel
theorem dL_law_747 : decode cL_law 747 = .ok (.aload_n 0, 1) := by decide +kernel
theorem dL_law_748 : decode cL_law 748 = .ok (.iload_n 3, 1) := by decide +kernel
theorem dL_law_749 : decode cL_law 749 = .ok (.iconst 2, 1) := by decide +kernel
theorem dL_law_750 : decode cL_law 750 = .ok (.iadd, 1) := by decide +kernel
theorem dL_law_751 : decode cL_law 751 = .ok (.iaload, 1) := by decide +kernel
theorem dL_law_752 : decode cL_law 752 = .ok (.aload_n 0, 1) := by decide +kernel
theorem dL_law_753 : decode cL_law 753 = .ok (.iload_n 3, 1) := by decide +kernel
theorem dL_law_754 : decode cL_law 754 = .ok (.iconst 3, 1) := by decide +kernel
theorem dL_law_755 : decode cL_law 755 = .ok (.iadd, 1) := by decide +kernel
theorem dL_law_756 : decode cL_law 756 = .ok (.iaload, 1) := by decide +kernel
theorem dL_law_757 : decode cL_law 757 = .ok (.invokevirtual 97, 3) := by decide +kernel
theorem dL_law_760 : decode cL_law 760 = .ok (.aload_n 2, 1) := by decide +kernel
theorem dL_law_761 : decode cL_law 761 = .ok (.aload_n 0, 1) := by decide +kernel
theorem dL_law_762 : decode cL_law 762 = .ok (.iload_n 3, 1) := by decide +kernel
theorem dL_law_763 : decode cL_law 763 = .ok (.iconst 1, 1) := by decide +kernel
theorem dL_law_764 : decode cL_law 764 = .ok (.iadd, 1) := by decide +kernel
theorem dL_law_765 : decode cL_law 765 = .ok (.iaload, 1) := by decide +kernel
theorem dL_law_766 : decode cL_law 766 = .ok (.aload_n 0, 1) := by decide +kernel
theorem dL_law_767 : decode cL_law 767 = .ok (.iload_n 3, 1) := by decide +kernel
theorem dL_law_768 : decode cL_law 768 = .ok (.iconst 2, 1) := by decide +kernel
theorem dL_law_769 : decode cL_law 769 = .ok (.iadd, 1) := by decide +kernel
theorem dL_law_770 : decode cL_law 770 = .ok (.iaload, 1) := by decide +kernel
theorem dL_law_771 : decode cL_law 771 = .ok (.aload_n 0, 1) := by decide +kernel
theorem dL_law_772 : decode cL_law 772 = .ok (.iload_n 3, 1) := by decide +kernel
theorem dL_law_773 : decode cL_law 773 = .ok (.iconst 3, 1) := by decide +kernel
theorem dL_law_774 : decode cL_law 774 = .ok (.iadd, 1) := by decide +kernel
theorem dL_law_775 : decode cL_law 775 = .ok (.iaload, 1) := by decide +kernel
theorem dL_law_776 : decode cL_law 776 = .ok (.invokevirtual 100, 3) := by decide +kernel
theorem dL_law_779 : decode cL_law 779 = .ok (.if_icmp .eq 415, 3) := by decide +kernel
theorem dL_law_782 : decode cL_law 782 = .ok (.iconst 0, 1) := by decide +kernel
theorem dL_law_783 : decode cL_law 783 = .ok (.ireturn, 1) := by decide +kernel
theorem dL_law_784 : decode cL_law 784 = .ok (.aload_n 1, 1) := by decide +kernel
theorem dL_law_785 : decode cL_law 785 = .ok (.aload_n 0, 1) := by decide +kernel
theorem dL_law_786 : decode cL_law 786 = .ok (.iload_n 3, 1) := by decide +kernel
theorem dL_law_787 : decode cL_law 787 = .ok (.iconst 1, 1) := by decide +kernel
theorem dL_law_788 : decode cL_law 788 = .ok (.iadd, 1) := by decide +kernel
theorem dL_law_789 : decode cL_law 789 = .ok (.iaload, 1) := by decide +kernel
theorem dL_law_790 : decode cL_law 790 = .ok (.invokevirtual 101, 3) := by decide +kernel
theorem dL_law_793 : decode cL_law 793 = .ok (.aload_n 2, 1) := by decide +kernel
theorem dL_law_794 : decode cL_law 794 = .ok (.aload_n 0, 1) := by decide +kernel
theorem dL_law_795 : decode cL_law 795 = .ok (.iload_n 3, 1) := by decide +kernel
theorem dL_law_796 : decode cL_law 796 = .ok (.iconst 1, 1) := by decide +kernel
theorem dL_law_797 : decode cL_law 797 = .ok (.iadd, 1) := by decide +kernel
theorem dL_law_798 : decode cL_law 798 = .ok (.iaload, 1) := by decide +kernel
theorem dL_law_799 : decode cL_law 799 = .ok (.invokevirtual 104, 3) := by decide +kernel
theorem dL_law_802 : decode cL_law 802 = .ok (.if_icmp .eq 392, 3) := by decide +kernel
theorem dL_law_805 : decode cL_law 805 = .ok (.iconst 0, 1) := by decide +kernel
theorem dL_law_806 : decode cL_law 806 = .ok (.ireturn, 1) := by decide +kernel
theorem dL_law_807 : decode cL_law 807 = .ok (.aload_n 1, 1) := by decide +kernel
theorem dL_law_808 : decode cL_law 808 = .ok (.aload_n 0, 1) := by decide +kernel
theorem dL_law_809 : decode cL_law 809 = .ok (.iload_n 3, 1) := by decide +kernel
theorem dL_law_810 : decode cL_law 810 = .ok (.iconst 1, 1) := by decide +kernel
theorem dL_law_811 : decode cL_law 811 = .ok (.iadd, 1) := by decide +kernel
theorem dL_law_812 : decode cL_law 812 = .ok (.iaload, 1) := by decide +kernel
theorem dL_law_813 : decode cL_law 813 = .ok (.invokevirtual 105, 3) := by decide +kernel
theorem dL_law_816 : decode cL_law 816 = .ok (.aload_n 2, 1) := by decide +kernel
theorem dL_law_817 : decode cL_law 817 = .ok (.aload_n 0, 1) := by decide +kernel
theorem dL_law_818 : decode cL_law 818 = .ok (.iload_n 3, 1) := by decide +kernel
theorem dL_law_819 : decode cL_law 819 = .ok (.iconst 1, 1) := by decide +kernel
theorem dL_law_820 : decode cL_law 820 = .ok (.iadd, 1) := by decide +kernel
theorem dL_law_821 : decode cL_law 821 = .ok (.iaload, 1) := by decide +kernel
theorem dL_law_822 : decode cL_law 822 = .ok (.invokevirtual 108, 3) := by decide +kernel
theorem dL_law_825 : decode cL_law 825 = .ok (.if_icmp .eq 369, 3) := by decide +kernel
theorem dL_law_828 : decode cL_law 828 = .ok (.iconst 0, 1) := by decide +kernel
theorem dL_law_829 : decode cL_law 829 = .ok (.ireturn, 1) := by decide +kernel
theorem dL_law_830 : decode cL_law 830 = .ok (.aload_n 1, 1) := by decide +kernel
theorem dL_law_831 : decode cL_law 831 = .ok (.aload_n 0, 1) := by decide +kernel
theorem dL_law_832 : decode cL_law 832 = .ok (.iload_n 3, 1) := by decide +kernel
theorem dL_law_833 : decode cL_law 833 = .ok (.iconst 1, 1) := by decide +kernel
theorem dL_law_834 : decode cL_law 834 = .ok (.iadd, 1) := by decide +kernel
theorem dL_law_835 : decode cL_law 835 = .ok (.iaload, 1) := by decide +kernel
theorem dL_law_836 : decode cL_law 836 = .ok (.invokevirtual 109, 3) := by decide +kernel
theorem dL_law_839 : decode cL_law 839 = .ok (.aload_n 2, 1) := by decide +kernel
theorem dL_law_840 : decode cL_law 840 = .ok (.aload_n 0, 1) := by decide +kernel
theorem dL_law_841 : decode cL_law 841 = .ok (.iload_n 3, 1) := by decide +kernel
theorem dL_law_842 : decode cL_law 842 = .ok (.iconst 1, 1) := by decide +kernel
theorem dL_law_843 : decode cL_law 843 = .ok (.iadd, 1) := by decide +kernel
theorem dL_law_844 : decode cL_law 844 = .ok (.iaload, 1) := by decide +kernel
theorem dL_law_845 : decode cL_law 845 = .ok (.invokevirtual 112, 3) := by decide +kernel
theorem dL_law_848 : decode cL_law 848 = .ok (.if_icmp .eq 346, 3) := by decide +kernel
theorem dL_law_851 : decode cL_law 851 = .ok (.iconst 0, 1) := by decide +kernel
theorem dL_law_852 : decode cL_law 852 = .ok (.ireturn, 1) := by decide +kernel
theorem dL_law_853 : decode cL_law 853 = .ok (.aload_n 1, 1) := by decide +kernel
theorem dL_law_854 : decode cL_law 854 = .ok (.invokevirtual 113, 3) := by decide +kernel
theorem dL_law_857 : decode cL_law 857 = .ok (.aload_n 2, 1) := by decide +kernel
theorem dL_law_858 : decode cL_law 858 = .ok (.invokevirtual 116, 3) := by decide +kernel
theorem dL_law_861 : decode cL_law 861 = .ok (.if_icmp .eq 333, 3) := by decide +kernel
theorem dL_law_864 : decode cL_law 864 = .ok (.iconst 0, 1) := by decide +kernel
theorem dL_law_865 : decode cL_law 865 = .ok (.ireturn, 1) := by decide +kernel
theorem dL_law_866 : decode cL_law 866 = .ok (.aload_n 1, 1) := by decide +kernel
theorem dL_law_867 : decode cL_law 867 = .ok (.aload_n 0, 1) := by decide +kernel
theorem dL_law_868 : decode cL_law 868 = .ok (.iload_n 3, 1) := by decide +kernel
theorem dL_law_869 : decode cL_law 869 = .ok (.iconst 1, 1) := by decide +kernel
theorem dL_law_870 : decode cL_law 870 = .ok (.iadd, 1) := by decide +kernel
theorem dL_law_871 : decode cL_law 871 = .ok (.iaload, 1) := by decide +kernel
theorem dL_law_872 : decode cL_law 872 = .ok (.aload_n 0, 1) := by decide +kernel
theorem dL_law_873 : decode cL_law 873 = .ok (.iload_n 3, 1) := by decide +kernel
theorem dL_law_874 : decode cL_law 874 = .ok (.iconst 2, 1) := by decide +kernel
theorem dL_law_875 : decode cL_law 875 = .ok (.iadd, 1) := by decide +kernel
theorem dL_law_876 : decode cL_law 876 = .ok (.iaload, 1) := by decide +kernel
theorem dL_law_877 : decode cL_law 877 = .ok (.ifCond .eq 7, 3) := by decide +kernel
theorem dL_law_880 : decode cL_law 880 = .ok (.iconst 1, 1) := by decide +kernel
theorem dL_law_881 : decode cL_law 881 = .ok (.goto 4, 3) := by decide +kernel
theorem dL_law_884 : decode cL_law 884 = .ok (.iconst 0, 1) := by decide +kernel
theorem dL_law_885 : decode cL_law 885 = .ok (.invokevirtual 117, 3) := by decide +kernel
theorem dL_law_888 : decode cL_law 888 = .ok (.aload_n 2, 1) := by decide +kernel
theorem dL_law_889 : decode cL_law 889 = .ok (.aload_n 0, 1) := by decide +kernel
theorem dL_law_890 : decode cL_law 890 = .ok (.iload_n 3, 1) := by decide +kernel
theorem dL_law_891 : decode cL_law 891 = .ok (.iconst 1, 1) := by decide +kernel
theorem dL_law_892 : decode cL_law 892 = .ok (.iadd, 1) := by decide +kernel
theorem dL_law_893 : decode cL_law 893 = .ok (.iaload, 1) := by decide +kernel
theorem dL_law_894 : decode cL_law 894 = .ok (.aload_n 0, 1) := by decide +kernel
theorem dL_law_895 : decode cL_law 895 = .ok (.iload_n 3, 1) := by decide +kernel
theorem dL_law_896 : decode cL_law 896 = .ok (.iconst 2, 1) := by decide +kernel
theorem dL_law_897 : decode cL_law 897 = .ok (.iadd, 1) := by decide +kernel
theorem dL_law_898 : decode cL_law 898 = .ok (.iaload, 1) := by decide +kernel
theorem dL_law_899 : decode cL_law 899 = .ok (.ifCond .eq 7, 3) := by decide +kernel
theorem dL_law_902 : decode cL_law 902 = .ok (.iconst 1, 1) := by decide +kernel
theorem dL_law_903 : decode cL_law 903 = .ok (.goto 4, 3) := by decide +kernel
theorem dL_law_906 : decode cL_law 906 = .ok (.iconst 0, 1) := by decide +kernel
theorem dL_law_907 : decode cL_law 907 = .ok (.invokevirtual 121, 3) := by decide +kernel
theorem dL_law_910 : decode cL_law 910 = .ok (.if_icmp .eq 284, 3) := by decide +kernel
theorem dL_law_913 : decode cL_law 913 = .ok (.iconst 0, 1) := by decide +kernel
theorem dL_law_914 : decode cL_law 914 = .ok (.ireturn, 1) := by decide +kernel
theorem dL_law_915 : decode cL_law 915 = .ok (.aload_n 1, 1) := by decide +kernel
theorem dL_law_916 : decode cL_law 916 = .ok (.aload_n 0, 1) := by decide +kernel
theorem dL_law_917 : decode cL_law 917 = .ok (.iload_n 3, 1) := by decide +kernel
theorem dL_law_918 : decode cL_law 918 = .ok (.iconst 1, 1) := by decide +kernel
theorem dL_law_919 : decode cL_law 919 = .ok (.iadd, 1) := by decide +kernel
theorem dL_law_920 : decode cL_law 920 = .ok (.iaload, 1) := by decide +kernel
theorem dL_law_921 : decode cL_law 921 = .ok (.aload_n 0, 1) := by decide +kernel
theorem dL_law_922 : decode cL_law 922 = .ok (.iload_n 3, 1) := by decide +kernel
theorem dL_law_923 : decode cL_law 923 = .ok (.iconst 2, 1) := by decide +kernel
theorem dL_law_924 : decode cL_law 924 = .ok (.iadd, 1) := by decide +kernel
theorem dL_law_925 : decode cL_law 925 = .ok (.iaload, 1) := by decide +kernel
theorem dL_law_926 : decode cL_law 926 = .ok (.ifCond .eq 7, 3) := by decide +kernel
theorem dL_law_929 : decode cL_law 929 = .ok (.iconst 1, 1) := by decide +kernel
theorem dL_law_930 : decode cL_law 930 = .ok (.goto 4, 3) := by decide +kernel
theorem dL_law_933 : decode cL_law 933 = .ok (.iconst 0, 1) := by decide +kernel
theorem dL_law_934 : decode cL_law 934 = .ok (.invokevirtual 122, 3) := by decide +kernel
theorem dL_law_937 : decode cL_law 937 = .ok (.aload_n 2, 1) := by decide +kernel
theorem dL_law_938 : decode cL_law 938 = .ok (.aload_n 0, 1) := by decide +kernel
theorem dL_law_939 : decode cL_law 939 = .ok (.iload_n 3, 1) := by decide +kernel
theorem dL_law_940 : decode cL_law 940 = .ok (.iconst 1, 1) := by decide +kernel
theorem dL_law_941 : decode cL_law 941 = .ok (.iadd, 1) := by decide +kernel
theorem dL_law_942 : decode cL_law 942 = .ok (.iaload, 1) := by decide +kernel
theorem dL_law_943 : decode cL_law 943 = .ok (.aload_n 0, 1) := by decide +kernel
theorem dL_law_944 : decode cL_law 944 = .ok (.iload_n 3, 1) := by decide +kernel
theorem dL_law_945 : decode cL_law 945 = .ok (.iconst 2, 1) := by decide +kernel
theorem dL_law_946 : decode cL_law 946 = .ok (.iadd, 1) := by decide +kernel
theorem dL_law_947 : decode cL_law 947 = .ok (.iaload, 1) := by decide +kernel
theorem dL_law_948 : decode cL_law 948 = .ok (.ifCond .eq 7, 3) := by decide +kernel
theorem dL_law_951 : decode cL_law 951 = .ok (.iconst 1, 1) := by decide +kernel
theorem dL_law_952 : decode cL_law 952 = .ok (.goto 4, 3) := by decide +kernel
theorem dL_law_955 : decode cL_law 955 = .ok (.iconst 0, 1) := by decide +kernel
theorem dL_law_956 : decode cL_law 956 = .ok (.invokevirtual 125, 3) := by decide +kernel
theorem dL_law_959 : decode cL_law 959 = .ok (.if_icmp .eq 235, 3) := by decide +kernel
theorem dL_law_962 : decode cL_law 962 = .ok (.iconst 0, 1) := by decide +kernel
theorem dL_law_963 : decode cL_law 963 = .ok (.ireturn, 1) := by decide +kernel
theorem dL_law_964 : decode cL_law 964 = .ok (.aload_n 1, 1) := by decide +kernel
theorem dL_law_965 : decode cL_law 965 = .ok (.aload_n 0, 1) := by decide +kernel
theorem dL_law_966 : decode cL_law 966 = .ok (.iload_n 3, 1) := by decide +kernel
theorem dL_law_967 : decode cL_law 967 = .ok (.iconst 1, 1) := by decide +kernel
theorem dL_law_968 : decode cL_law 968 = .ok (.iadd, 1) := by decide +kernel
theorem dL_law_969 : decode cL_law 969 = .ok (.iaload, 1) := by decide +kernel
theorem dL_law_970 : decode cL_law 970 = .ok (.aload_n 0, 1) := by decide +kernel
theorem dL_law_971 : decode cL_law 971 = .ok (.iload_n 3, 1) := by decide +kernel
theorem dL_law_972 : decode cL_law 972 = .ok (.iconst 2, 1) := by decide +kernel
theorem dL_law_973 : decode cL_law 973 = .ok (.iadd, 1) := by decide +kernel
theorem dL_law_974 : decode cL_law 974 = .ok (.iaload, 1) := by decide +kernel
theorem dL_law_975 : decode cL_law 975 = .ok (.aload_n 0, 1) := by decide +kernel
theorem dL_law_976 : decode cL_law 976 = .ok (.iload_n 3, 1) := by decide +kernel
theorem dL_law_977 : decode cL_law 977 = .ok (.iconst 3, 1) := by decide +kernel
theorem dL_law_978 : decode cL_law 978 = .ok (.iadd, 1) := by decide +kernel
theorem dL_law_979 : decode cL_law 979 = .ok (.iaload, 1) := by decide +kernel
theorem dL_law_980 : decode cL_law 980 = .ok (.ifCond .eq 7, 3) := by decide +kernel
theorem dL_law_983 : decode cL_law 983 = .ok (.iconst 1, 1) := by decide +kernel
theorem dL_law_984 : decode cL_law 984 = .ok (.goto 4, 3) := by decide +kernel
theorem dL_law_987 : decode cL_law 987 = .ok (.iconst 0, 1) := by decide +kernel
theorem dL_law_988 : decode cL_law 988 = .ok (.invokevirtual 126, 3) := by decide +kernel
theorem dL_law_991 : decode cL_law 991 = .ok (.aload_n 2, 1) := by decide +kernel
theorem dL_law_992 : decode cL_law 992 = .ok (.aload_n 0, 1) := by decide +kernel
theorem dL_law_993 : decode cL_law 993 = .ok (.iload_n 3, 1) := by decide +kernel
theorem dL_law_994 : decode cL_law 994 = .ok (.iconst 1, 1) := by decide +kernel
theorem dL_law_995 : decode cL_law 995 = .ok (.iadd, 1) := by decide +kernel
theorem dL_law_996 : decode cL_law 996 = .ok (.iaload, 1) := by decide +kernel
theorem dL_law_997 : decode cL_law 997 = .ok (.aload_n 0, 1) := by decide +kernel
theorem dL_law_998 : decode cL_law 998 = .ok (.iload_n 3, 1) := by decide +kernel
theorem dL_law_999 : decode cL_law 999 = .ok (.iconst 2, 1) := by decide +kernel
theorem dL_law_1000 : decode cL_law 1000 = .ok (.iadd, 1) := by decide +kernel
theorem dL_law_1001 : decode cL_law 1001 = .ok (.iaload, 1) := by decide +kernel
theorem dL_law_1002 : decode cL_law 1002 = .ok (.aload_n 0, 1) := by decide +kernel
theorem dL_law_1003 : decode cL_law 1003 = .ok (.iload_n 3, 1) := by decide +kernel
theorem dL_law_1004 : decode cL_law 1004 = .ok (.iconst 3, 1) := by decide +kernel
theorem dL_law_1005 : decode cL_law 1005 = .ok (.iadd, 1) := by decide +kernel
theorem dL_law_1006 : decode cL_law 1006 = .ok (.iaload, 1) := by decide +kernel
theorem dL_law_1007 : decode cL_law 1007 = .ok (.ifCond .eq 7, 3) := by decide +kernel
theorem dL_law_1010 : decode cL_law 1010 = .ok (.iconst 1, 1) := by decide +kernel
theorem dL_law_1011 : decode cL_law 1011 = .ok (.goto 4, 3) := by decide +kernel
theorem dL_law_1014 : decode cL_law 1014 = .ok (.iconst 0, 1) := by decide +kernel
theorem dL_law_1015 : decode cL_law 1015 = .ok (.invokevirtual 130, 3) := by decide +kernel
theorem dL_law_1018 : decode cL_law 1018 = .ok (.if_icmp .eq 176, 3) := by decide +kernel
theorem dL_law_1021 : decode cL_law 1021 = .ok (.iconst 0, 1) := by decide +kernel
theorem dL_law_1022 : decode cL_law 1022 = .ok (.ireturn, 1) := by decide +kernel
theorem dL_law_1023 : decode cL_law 1023 = .ok (.aload_n 1, 1) := by decide +kernel
theorem dL_law_1024 : decode cL_law 1024 = .ok (.aload_n 0, 1) := by decide +kernel
theorem dL_law_1025 : decode cL_law 1025 = .ok (.iload_n 3, 1) := by decide +kernel
theorem dL_law_1026 : decode cL_law 1026 = .ok (.iconst 1, 1) := by decide +kernel
theorem dL_law_1027 : decode cL_law 1027 = .ok (.iadd, 1) := by decide +kernel
theorem dL_law_1028 : decode cL_law 1028 = .ok (.iaload, 1) := by decide +kernel
theorem dL_law_1029 : decode cL_law 1029 = .ok (.invokevirtual 131, 3) := by decide +kernel
theorem dL_law_1032 : decode cL_law 1032 = .ok (.aload_n 2, 1) := by decide +kernel
theorem dL_law_1033 : decode cL_law 1033 = .ok (.aload_n 0, 1) := by decide +kernel
theorem dL_law_1034 : decode cL_law 1034 = .ok (.iload_n 3, 1) := by decide +kernel
theorem dL_law_1035 : decode cL_law 1035 = .ok (.iconst 1, 1) := by decide +kernel
theorem dL_law_1036 : decode cL_law 1036 = .ok (.iadd, 1) := by decide +kernel
theorem dL_law_1037 : decode cL_law 1037 = .ok (.iaload, 1) := by decide +kernel
theorem dL_law_1038 : decode cL_law 1038 = .ok (.invokevirtual 134, 3) := by decide +kernel
theorem dL_law_1041 : decode cL_law 1041 = .ok (.if_icmp .eq 153, 3) := by decide +kernel
theorem dL_law_1044 : decode cL_law 1044 = .ok (.iconst 0, 1) := by decide +kernel
theorem dL_law_1045 : decode cL_law 1045 = .ok (.ireturn, 1) := by decide +kernel
theorem dL_law_1046 : decode cL_law 1046 = .ok (.aload_n 1, 1) := by decide +kernel
theorem dL_law_1047 : decode cL_law 1047 = .ok (.aload_n 0, 1) := by decide +kernel
theorem dL_law_1048 : decode cL_law 1048 = .ok (.iload_n 3, 1) := by decide +kernel
theorem dL_law_1049 : decode cL_law 1049 = .ok (.iconst 1, 1) := by decide +kernel
theorem dL_law_1050 : decode cL_law 1050 = .ok (.iadd, 1) := by decide +kernel
theorem dL_law_1051 : decode cL_law 1051 = .ok (.iaload, 1) := by decide +kernel
theorem dL_law_1052 : decode cL_law 1052 = .ok (.invokevirtual 135, 3) := by decide +kernel
theorem dL_law_1055 : decode cL_law 1055 = .ok (.aload_n 2, 1) := by decide +kernel
theorem dL_law_1056 : decode cL_law 1056 = .ok (.aload_n 0, 1) := by decide +kernel
theorem dL_law_1057 : decode cL_law 1057 = .ok (.iload_n 3, 1) := by decide +kernel
theorem dL_law_1058 : decode cL_law 1058 = .ok (.iconst 1, 1) := by decide +kernel
theorem dL_law_1059 : decode cL_law 1059 = .ok (.iadd, 1) := by decide +kernel
theorem dL_law_1060 : decode cL_law 1060 = .ok (.iaload, 1) := by decide +kernel
theorem dL_law_1061 : decode cL_law 1061 = .ok (.invokevirtual 138, 3) := by decide +kernel
theorem dL_law_1064 : decode cL_law 1064 = .ok (.if_icmp .eq 130, 3) := by decide +kernel
theorem dL_law_1067 : decode cL_law 1067 = .ok (.iconst 0, 1) := by decide +kernel
theorem dL_law_1068 : decode cL_law 1068 = .ok (.ireturn, 1) := by decide +kernel
theorem dL_law_1069 : decode cL_law 1069 = .ok (.aload_n 1, 1) := by decide +kernel
theorem dL_law_1070 : decode cL_law 1070 = .ok (.aload_n 0, 1) := by decide +kernel
theorem dL_law_1071 : decode cL_law 1071 = .ok (.iload_n 3, 1) := by decide +kernel
theorem dL_law_1072 : decode cL_law 1072 = .ok (.iconst 1, 1) := by decide +kernel
theorem dL_law_1073 : decode cL_law 1073 = .ok (.iadd, 1) := by decide +kernel
theorem dL_law_1074 : decode cL_law 1074 = .ok (.iaload, 1) := by decide +kernel
theorem dL_law_1075 : decode cL_law 1075 = .ok (.invokevirtual 139, 3) := by decide +kernel
theorem dL_law_1078 : decode cL_law 1078 = .ok (.aload_n 2, 1) := by decide +kernel
theorem dL_law_1079 : decode cL_law 1079 = .ok (.aload_n 0, 1) := by decide +kernel
theorem dL_law_1080 : decode cL_law 1080 = .ok (.iload_n 3, 1) := by decide +kernel
theorem dL_law_1081 : decode cL_law 1081 = .ok (.iconst 1, 1) := by decide +kernel
theorem dL_law_1082 : decode cL_law 1082 = .ok (.iadd, 1) := by decide +kernel
theorem dL_law_1083 : decode cL_law 1083 = .ok (.iaload, 1) := by decide +kernel
theorem dL_law_1084 : decode cL_law 1084 = .ok (.invokevirtual 142, 3) := by decide +kernel
theorem dL_law_1087 : decode cL_law 1087 = .ok (.if_icmp .eq 107, 3) := by decide +kernel
theorem dL_law_1090 : decode cL_law 1090 = .ok (.iconst 0, 1) := by decide +kernel
theorem dL_law_1091 : decode cL_law 1091 = .ok (.ireturn, 1) := by decide +kernel
theorem dL_law_1092 : decode cL_law 1092 = .ok (.aload_n 1, 1) := by decide +kernel
theorem dL_law_1093 : decode cL_law 1093 = .ok (.aload_n 0, 1) := by decide +kernel
theorem dL_law_1094 : decode cL_law 1094 = .ok (.iload_n 3, 1) := by decide +kernel
theorem dL_law_1095 : decode cL_law 1095 = .ok (.iconst 1, 1) := by decide +kernel
theorem dL_law_1096 : decode cL_law 1096 = .ok (.iadd, 1) := by decide +kernel
theorem dL_law_1097 : decode cL_law 1097 = .ok (.iaload, 1) := by decide +kernel
theorem dL_law_1098 : decode cL_law 1098 = .ok (.aload_n 0, 1) := by decide +kernel
theorem dL_law_1099 : decode cL_law 1099 = .ok (.iload_n 3, 1) := by decide +kernel
theorem dL_law_1100 : decode cL_law 1100 = .ok (.iconst 2, 1) := by decide +kernel
theorem dL_law_1101 : decode cL_law 1101 = .ok (.iadd, 1) := by decide +kernel
theorem dL_law_1102 : decode cL_law 1102 = .ok (.iaload, 1) := by decide +kernel
theorem dL_law_1103 : decode cL_law 1103 = .ok (.invokevirtual 143, 3) := by decide +kernel
theorem dL_law_1106 : decode cL_law 1106 = .ok (.aload_n 2, 1) := by decide +kernel
theorem dL_law_1107 : decode cL_law 1107 = .ok (.aload_n 0, 1) := by decide +kernel
theorem dL_law_1108 : decode cL_law 1108 = .ok (.iload_n 3, 1) := by decide +kernel
theorem dL_law_1109 : decode cL_law 1109 = .ok (.iconst 1, 1) := by decide +kernel
theorem dL_law_1110 : decode cL_law 1110 = .ok (.iadd, 1) := by decide +kernel
theorem dL_law_1111 : decode cL_law 1111 = .ok (.iaload, 1) := by decide +kernel
theorem dL_law_1112 : decode cL_law 1112 = .ok (.aload_n 0, 1) := by decide +kernel
theorem dL_law_1113 : decode cL_law 1113 = .ok (.iload_n 3, 1) := by decide +kernel
theorem dL_law_1114 : decode cL_law 1114 = .ok (.iconst 2, 1) := by decide +kernel
theorem dL_law_1115 : decode cL_law 1115 = .ok (.iadd, 1) := by decide +kernel
theorem dL_law_1116 : decode cL_law 1116 = .ok (.iaload, 1) := by decide +kernel
theorem dL_law_1117 : decode cL_law 1117 = .ok (.invokevirtual 146, 3) := by decide +kernel
theorem dL_law_1120 : decode cL_law 1120 = .ok (.if_icmp .eq 74, 3) := by decide +kernel
theorem dL_law_1123 : decode cL_law 1123 = .ok (.iconst 0, 1) := by decide +kernel
theorem dL_law_1124 : decode cL_law 1124 = .ok (.ireturn, 1) := by decide +kernel
theorem dL_law_1125 : decode cL_law 1125 = .ok (.aload_n 1, 1) := by decide +kernel
theorem dL_law_1126 : decode cL_law 1126 = .ok (.aload_n 0, 1) := by decide +kernel
theorem dL_law_1127 : decode cL_law 1127 = .ok (.iload_n 3, 1) := by decide +kernel
theorem dL_law_1128 : decode cL_law 1128 = .ok (.iconst 1, 1) := by decide +kernel
theorem dL_law_1129 : decode cL_law 1129 = .ok (.iadd, 1) := by decide +kernel
theorem dL_law_1130 : decode cL_law 1130 = .ok (.iaload, 1) := by decide +kernel
theorem dL_law_1131 : decode cL_law 1131 = .ok (.invokevirtual 147, 3) := by decide +kernel
theorem dL_law_1134 : decode cL_law 1134 = .ok (.aload_n 2, 1) := by decide +kernel
theorem dL_law_1135 : decode cL_law 1135 = .ok (.aload_n 0, 1) := by decide +kernel
theorem dL_law_1136 : decode cL_law 1136 = .ok (.iload_n 3, 1) := by decide +kernel
theorem dL_law_1137 : decode cL_law 1137 = .ok (.iconst 1, 1) := by decide +kernel
theorem dL_law_1138 : decode cL_law 1138 = .ok (.iadd, 1) := by decide +kernel
theorem dL_law_1139 : decode cL_law 1139 = .ok (.iaload, 1) := by decide +kernel
theorem dL_law_1140 : decode cL_law 1140 = .ok (.invokevirtual 150, 3) := by decide +kernel
theorem dL_law_1143 : decode cL_law 1143 = .ok (.if_icmp .eq 51, 3) := by decide +kernel
theorem dL_law_1146 : decode cL_law 1146 = .ok (.iconst 0, 1) := by decide +kernel
theorem dL_law_1147 : decode cL_law 1147 = .ok (.ireturn, 1) := by decide +kernel
theorem dL_law_1148 : decode cL_law 1148 = .ok (.aload_n 1, 1) := by decide +kernel
theorem dL_law_1149 : decode cL_law 1149 = .ok (.aload_n 0, 1) := by decide +kernel
theorem dL_law_1150 : decode cL_law 1150 = .ok (.iload_n 3, 1) := by decide +kernel
theorem dL_law_1151 : decode cL_law 1151 = .ok (.iconst 1, 1) := by decide +kernel
theorem dL_law_1152 : decode cL_law 1152 = .ok (.iadd, 1) := by decide +kernel
theorem dL_law_1153 : decode cL_law 1153 = .ok (.iaload, 1) := by decide +kernel
theorem dL_law_1154 : decode cL_law 1154 = .ok (.invokevirtual 151, 3) := by decide +kernel
theorem dL_law_1157 : decode cL_law 1157 = .ok (.aload_n 2, 1) := by decide +kernel
theorem dL_law_1158 : decode cL_law 1158 = .ok (.aload_n 0, 1) := by decide +kernel
theorem dL_law_1159 : decode cL_law 1159 = .ok (.iload_n 3, 1) := by decide +kernel
theorem dL_law_1160 : decode cL_law 1160 = .ok (.iconst 1, 1) := by decide +kernel
theorem dL_law_1161 : decode cL_law 1161 = .ok (.iadd, 1) := by decide +kernel
theorem dL_law_1162 : decode cL_law 1162 = .ok (.iaload, 1) := by decide +kernel
theorem dL_law_1163 : decode cL_law 1163 = .ok (.invokevirtual 154, 3) := by decide +kernel
theorem dL_law_1166 : decode cL_law 1166 = .ok (.if_icmp .eq 28, 3) := by decide +kernel
theorem dL_law_1169 : decode cL_law 1169 = .ok (.iconst 0, 1) := by decide +kernel
theorem dL_law_1170 : decode cL_law 1170 = .ok (.ireturn, 1) := by decide +kernel
theorem dL_law_1171 : decode cL_law 1171 = .ok (.aload_n 1, 1) := by decide +kernel
theorem dL_law_1172 : decode cL_law 1172 = .ok (.aload_n 0, 1) := by decide +kernel
theorem dL_law_1173 : decode cL_law 1173 = .ok (.iload_n 3, 1) := by decide +kernel
theorem dL_law_1174 : decode cL_law 1174 = .ok (.iconst 1, 1) := by decide +kernel
theorem dL_law_1175 : decode cL_law 1175 = .ok (.iadd, 1) := by decide +kernel
theorem dL_law_1176 : decode cL_law 1176 = .ok (.iaload, 1) := by decide +kernel
theorem dL_law_1177 : decode cL_law 1177 = .ok (.invokevirtual 155, 3) := by decide +kernel
theorem dL_law_1180 : decode cL_law 1180 = .ok (.aload_n 2, 1) := by decide +kernel
theorem dL_law_1181 : decode cL_law 1181 = .ok (.aload_n 0, 1) := by decide +kernel
theorem dL_law_1182 : decode cL_law 1182 = .ok (.iload_n 3, 1) := by decide +kernel
theorem dL_law_1183 : decode cL_law 1183 = .ok (.iconst 1, 1) := by decide +kernel
theorem dL_law_1184 : decode cL_law 1184 = .ok (.iadd, 1) := by decide +kernel
theorem dL_law_1185 : decode cL_law 1185 = .ok (.iaload, 1) := by decide +kernel
theorem dL_law_1186 : decode cL_law 1186 = .ok (.invokevirtual 158, 3) := by decide +kernel
theorem dL_law_1189 : decode cL_law 1189 = .ok (.if_icmp .eq 5, 3) := by decide +kernel
theorem dL_law_1192 : decode cL_law 1192 = .ok (.iconst 0, 1) := by decide +kernel
theorem dL_law_1193 : decode cL_law 1193 = .ok (.ireturn, 1) := by decide +kernel
theorem dL_law_1194 : decode cL_law 1194 = .ok (.iinc 3 6, 3) := by decide +kernel
theorem dL_law_1197 : decode cL_law 1197 = .ok (.goto (-1179), 3) := by decide +kernel
theorem dL_law_1200 : decode cL_law 1200 = .ok (.iconst 1, 1) := by decide +kernel
theorem dL_law_1201 : decode cL_law 1201 = .ok (.ireturn, 1) := by decide +kernel
