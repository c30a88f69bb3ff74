theorem dX1_reckon_204 : decode cX1_reckon 204 = .ok (.iadd, 1) := by decide +kernel
theorem dX1_reckon_205 : decode cX1_reckon 205 = .ok (.invokestatic 83, 3) := by decide +kernel
theorem dX1_reckon_208 : decode cX1_reckon 208 = .ok (.goto 4, 3) := by decide +kernel
theorem dX1_reckon_211 : decode cX1_reckon 211 = .ok (.iload_n 3, 1) := by decide +kernel
theorem dX1_reckon_212 : decode cX1_reckon 212 = .ok (.istore_n 3, 1) := by decide +kernel
theorem dX1_reckon_213 : decode cX1_reckon 213 = .ok (.aload_n 0, 1) := by decide +kernel
theorem dX1_reckon_214 : decode cX1_reckon 214 = .ok (.getfield 47, 3) := by decide +kernel
theorem dX1_reckon_217 : decode cX1_reckon 217 = .ok (.iload_n 2, 1) := by decide +kernel
theorem dX1_reckon_218 : decode cX1_reckon 218 = .ok (.iload_n 3, 1) := by decide +kernel
theorem dX1_reckon_219 : decode cX1_reckon 219 = .ok (.iastore, 1) := by decide +kernel
theorem dX1_reckon_220 : decode cX1_reckon 220 = .ok (.iload_n 3, 1) := by decide +kernel
theorem dX1_reckon_221 : decode cX1_reckon 221 = .ok (.aload_n 0, 1) := by decide +kernel
theorem dX1_reckon_222 : decode cX1_reckon 222 = .ok (.getfield 7, 3) := by decide +kernel
theorem dX1_reckon_225 : decode cX1_reckon 225 = .ok (.iload_n 2, 1) := by decide +kernel
theorem dX1_reckon_226 : decode cX1_reckon 226 = .ok (.iaload, 1) := by decide +kernel
theorem dX1_reckon_227 : decode cX1_reckon 227 = .ok (.iconst 3, 1) := by decide +kernel
theorem dX1_reckon_228 : decode cX1_reckon 228 = .ok (.if_icmp .ne 7, 3) := by decide +kernel
theorem dX1_reckon_231 : decode cX1_reckon 231 = .ok (.iconst 5, 1) := by decide +kernel
theorem dX1_reckon_232 : decode cX1_reckon 232 = .ok (.goto 19, 3) := by decide +kernel
theorem dX1_reckon_235 : decode cX1_reckon 235 = .ok (.aload_n 0, 1) := by decide +kernel
theorem dX1_reckon_236 : decode cX1_reckon 236 = .ok (.getfield 7, 3) := by decide +kernel
theorem dX1_reckon_239 : decode cX1_reckon 239 = .ok (.iload_n 2, 1) := by decide +kernel
theorem dX1_reckon_240 : decode cX1_reckon 240 = .ok (.iaload, 1) := by decide +kernel
theorem dX1_reckon_241 : decode cX1_reckon 241 = .ok (.iconst 4, 1) := by decide +kernel
theorem dX1_reckon_242 : decode cX1_reckon 242 = .ok (.if_icmp .ne 8, 3) := by decide +kernel
theorem dX1_reckon_245 : decode cX1_reckon 245 = .ok (.bipush 20, 2) := by decide +kernel
theorem dX1_reckon_247 : decode cX1_reckon 247 = .ok (.goto 4, 3) := by decide +kernel
theorem dX1_reckon_250 : decode cX1_reckon 250 = .ok (.iconst 3, 1) := by decide +kernel
theorem dX1_reckon_251 : decode cX1_reckon 251 = .ok (.iadd, 1) := by decide +kernel
theorem dX1_reckon_252 : decode cX1_reckon 252 = .ok (.istore 4, 2) := by decide +kernel
theorem dX1_reckon_254 : decode cX1_reckon 254 = .ok (.iload_n 2, 1) := by decide +kernel
theorem dX1_reckon_255 : decode cX1_reckon 255 = .ok (.ifCond .le 34, 3) := by decide +kernel
theorem dX1_reckon_258 : decode cX1_reckon 258 = .ok (.iload 4, 2) := by decide +kernel
theorem dX1_reckon_260 : decode cX1_reckon 260 = .ok (.aload_n 0, 1) := by decide +kernel
theorem dX1_reckon_261 : decode cX1_reckon 261 = .ok (.getfield 50, 3) := by decide +kernel
theorem dX1_reckon_264 : decode cX1_reckon 264 = .ok (.iload_n 2, 1) := by decide +kernel
theorem dX1_reckon_265 : decode cX1_reckon 265 = .ok (.iconst 1, 1) := by decide +kernel
theorem dX1_reckon_266 : decode cX1_reckon 266 = .ok (.isub, 1) := by decide +kernel
theorem dX1_reckon_267 : decode cX1_reckon 267 = .ok (.iaload, 1) := by decide +kernel
theorem dX1_reckon_268 : decode cX1_reckon 268 = .ok (.aload_n 0, 1) := by decide +kernel
theorem dX1_reckon_269 : decode cX1_reckon 269 = .ok (.getfield 32, 3) := by decide +kernel
theorem dX1_reckon_272 : decode cX1_reckon 272 = .ok (.iload_n 2, 1) := by decide +kernel
theorem dX1_reckon_273 : decode cX1_reckon 273 = .ok (.baload, 1) := by decide +kernel
theorem dX1_reckon_274 : decode cX1_reckon 274 = .ok (.ifCond .eq 7, 3) := by decide +kernel
theorem dX1_reckon_277 : decode cX1_reckon 277 = .ok (.iconst 1, 1) := by decide +kernel
theorem dX1_reckon_278 : decode cX1_reckon 278 = .ok (.goto 4, 3) := by decide +kernel
theorem dX1_reckon_281 : decode cX1_reckon 281 = .ok (.iconst 0, 1) := by decide +kernel
theorem dX1_reckon_282 : decode cX1_reckon 282 = .ok (.iadd, 1) := by decide +kernel
theorem dX1_reckon_283 : decode cX1_reckon 283 = .ok (.invokestatic 83, 3) := by decide +kernel
theorem dX1_reckon_286 : decode cX1_reckon 286 = .ok (.goto 5, 3) := by decide +kernel
theorem dX1_reckon_289 : decode cX1_reckon 289 = .ok (.iload 4, 2) := by decide +kernel
theorem dX1_reckon_291 : decode cX1_reckon 291 = .ok (.istore 4, 2) := by decide +kernel
theorem dX1_reckon_293 : decode cX1_reckon 293 = .ok (.aload_n 0, 1) := by decide +kernel
theorem dX1_reckon_294 : decode cX1_reckon 294 = .ok (.getfield 50, 3) := by decide +kernel
theorem dX1_reckon_297 : decode cX1_reckon 297 = .ok (.iload_n 2, 1) := by decide +kernel
theorem dX1_reckon_298 : decode cX1_reckon 298 = .ok (.iload_n 2, 1) := by decide +kernel
theorem dX1_reckon_299 : decode cX1_reckon 299 = .ok (.iconst 1, 1) := by decide +kernel
theorem dX1_reckon_300 : decode cX1_reckon 300 = .ok (.if_icmp .le 21, 3) := by decide +kernel
theorem dX1_reckon_303 : decode cX1_reckon 303 = .ok (.iload 4, 2) := by decide +kernel
theorem dX1_reckon_305 : decode cX1_reckon 305 = .ok (.aload_n 0, 1) := by decide +kernel
theorem dX1_reckon_306 : decode cX1_reckon 306 = .ok (.getfield 50, 3) := by decide +kernel
theorem dX1_reckon_309 : decode cX1_reckon 309 = .ok (.iload_n 2, 1) := by decide +kernel
theorem dX1_reckon_310 : decode cX1_reckon 310 = .ok (.iconst 2, 1) := by decide +kernel
theorem dX1_reckon_311 : decode cX1_reckon 311 = .ok (.isub, 1) := by decide +kernel
theorem dX1_reckon_312 : decode cX1_reckon 312 = .ok (.iaload, 1) := by decide +kernel
theorem dX1_reckon_313 : decode cX1_reckon 313 = .ok (.iconst 1, 1) := by decide +kernel
theorem dX1_reckon_314 : decode cX1_reckon 314 = .ok (.iadd, 1) := by decide +kernel
theorem dX1_reckon_315 : decode cX1_reckon 315 = .ok (.invokestatic 83, 3) := by decide +kernel
theorem dX1_reckon_318 : decode cX1_reckon 318 = .ok (.goto 5, 3) := by decide +kernel
theorem dX1_reckon_321 : decode cX1_reckon 321 = .ok (.iload 4, 2) := by decide +kernel
theorem dX1_reckon_323 : decode cX1_reckon 323 = .ok (.iastore, 1) := by decide +kernel
theorem dX1_reckon_324 : decode cX1_reckon 324 = .ok (.aload_n 0, 1) := by decide +kernel
theorem dX1_reckon_325 : decode cX1_reckon 325 = .ok (.getfield 13, 3) := by decide +kernel
theorem dX1_reckon_328 : decode cX1_reckon 328 = .ok (.iload_n 2, 1) := by decide +kernel
theorem dX1_reckon_329 : decode cX1_reckon 329 = .ok (.iaload, 1) := by decide +kernel
theorem dX1_reckon_330 : decode cX1_reckon 330 = .ok (.ifCond .le 24, 3) := by decide +kernel
theorem dX1_reckon_333 : decode cX1_reckon 333 = .ok (.aload_n 0, 1) := by decide +kernel
theorem dX1_reckon_334 : decode cX1_reckon 334 = .ok (.getfield 32, 3) := by decide +kernel
theorem dX1_reckon_337 : decode cX1_reckon 337 = .ok (.iload_n 2, 1) := by decide +kernel
theorem dX1_reckon_338 : decode cX1_reckon 338 = .ok (.baload, 1) := by decide +kernel
theorem dX1_reckon_339 : decode cX1_reckon 339 = .ok (.ifCond .ne 15, 3) := by decide +kernel
theorem dX1_reckon_342 : decode cX1_reckon 342 = .ok (.aload_n 0, 1) := by decide +kernel
theorem dX1_reckon_343 : decode cX1_reckon 343 = .ok (.getfield 56, 3) := by decide +kernel
theorem dX1_reckon_346 : decode cX1_reckon 346 = .ok (.aload_n 0, 1) := by decide +kernel
theorem dX1_reckon_347 : decode cX1_reckon 347 = .ok (.getfield 13, 3) := by decide +kernel
theorem dX1_reckon_350 : decode cX1_reckon 350 = .ok (.iload_n 2, 1) := by decide +kernel
theorem dX1_reckon_351 : decode cX1_reckon 351 = .ok (.iaload, 1) := by decide +kernel
theorem dX1_reckon_352 : decode cX1_reckon 352 = .ok (.iload_n 2, 1) := by decide +kernel
theorem dX1_reckon_353 : decode cX1_reckon 353 = .ok (.iastore, 1) := by decide +kernel
theorem dX1_reckon_354 : decode cX1_reckon 354 = .ok (.iinc 2 1, 3) := by decide +kernel
theorem dX1_reckon_357 : decode cX1_reckon 357 = .ok (.goto (-332), 3) := by decide +kernel
theorem dX1_reckon_360 : decode cX1_reckon 360 = .ok (.return_, 1) := by decide +kernel
theorem dX1_time_0 : decode cX1_time 0 = .ok (.aload_n 0, 1) := by decide +kernel
theorem dX1_time_1 : decode cX1_time 1 = .ok (.iconst 0, 1) := by decide +kernel
theorem dX1_time_2 : decode cX1_time 2 = .ok (.putfield 59, 3) := by decide +kernel
theorem dX1_time_5 : decode cX1_time 5 = .ok (.iload_n 1, 1) := by decide +kernel
theorem dX1_time_6 : decode cX1_time 6 = .ok (.ifCond .lt 11, 3) := by decide +kernel
theorem dX1_time_9 : decode cX1_time 9 = .ok (.iload_n 1, 1) := by decide +kernel
theorem dX1_time_10 : decode cX1_time 10 = .ok (.aload_n 0, 1) := by decide +kernel
theorem dX1_time_11 : decode cX1_time 11 = .ok (.getfield 63, 3) := by decide +kernel
theorem dX1_time_14 : decode cX1_time 14 = .ok (.if_icmp .lt 5, 3) := by decide +kernel
theorem dX1_time_17 : decode cX1_time 17 = .ok (.iconst (-1), 1) := by decide +kernel
theorem dX1_time_18 : decode cX1_time 18 = .ok (.ireturn, 1) := by decide +kernel
theorem dX1_time_19 : decode cX1_time 19 = .ok (.aload_n 0, 1) := by decide +kernel
theorem dX1_time_20 : decode cX1_time 20 = .ok (.invokevirtual 104, 3) := by decide +kernel
theorem dX1_time_23 : decode cX1_time 23 = .ok (.iload_n 2, 1) := by decide +kernel
theorem dX1_time_24 : decode cX1_time 24 = .ok (.tableswitch 142 0 4 #[36, 43, 50, 57, 107], 36) := by decide +kernel
theorem dX1_time_60 : decode cX1_time 60 = .ok (.aload_n 0, 1) := by decide +kernel
theorem dX1_time_61 : decode cX1_time 61 = .ok (.getfield 44, 3) := by decide +kernel
theorem dX1_time_64 : decode cX1_time 64 = .ok (.iload_n 1, 1) := by decide +kernel
theorem dX1_time_65 : decode cX1_time 65 = .ok (.iaload, 1) := by decide +kernel
theorem dX1_time_66 : decode cX1_time 66 = .ok (.ireturn, 1) := by decide +kernel
theorem dX1_time_67 : decode cX1_time 67 = .ok (.aload_n 0, 1) := by decide +kernel
theorem dX1_time_68 : decode cX1_time 68 = .ok (.getfield 47, 3) := by decide +kernel
theorem dX1_time_71 : decode cX1_time 71 = .ok (.iload_n 1, 1) := by decide +kernel
theorem dX1_time_72 : decode cX1_time 72 = .ok (.iaload, 1) := by decide +kernel
theorem dX1_time_73 : decode cX1_time 73 = .ok (.ireturn, 1) := by decide +kernel
theorem dX1_time_74 : decode cX1_time 74 = .ok (.aload_n 0, 1) := by decide +kernel
theorem dX1_time_75 : decode cX1_time 75 = .ok (.getfield 50, 3) := by decide +kernel
theorem dX1_time_78 : decode cX1_time 78 = .ok (.iload_n 1, 1) := by decide +kernel
theorem dX1_time_79 : decode cX1_time 79 = .ok (.iaload, 1) := by decide +kernel
theorem dX1_time_80 : decode cX1_time 80 = .ok (.ireturn, 1) := by decide +kernel
theorem dX1_time_81 : decode cX1_time 81 = .ok (.aload_n 0, 1) := by decide +kernel
theorem dX1_time_82 : decode cX1_time 82 = .ok (.getfield 53, 3) := by decide +kernel
theorem dX1_time_85 : decode cX1_time 85 = .ok (.iload_n 1, 1) := by decide +kernel
theorem dX1_time_86 : decode cX1_time 86 = .ok (.baload, 1) := by decide +kernel
theorem dX1_time_87 : decode cX1_time 87 = .ok (.ifCond .eq 38, 3) := by decide +kernel
theorem dX1_time_90 : decode cX1_time 90 = .ok (.iload_n 1, 1) := by decide +kernel
theorem dX1_time_91 : decode cX1_time 91 = .ok (.iconst 1, 1) := by decide +kernel
theorem dX1_time_92 : decode cX1_time 92 = .ok (.iadd, 1) := by decide +kernel
theorem dX1_time_93 : decode cX1_time 93 = .ok (.aload_n 0, 1) := by decide +kernel
theorem dX1_time_94 : decode cX1_time 94 = .ok (.getfield 63, 3) := by decide +kernel
theorem dX1_time_97 : decode cX1_time 97 = .ok (.if_icmp .ge 32, 3) := by decide +kernel
theorem dX1_time_100 : decode cX1_time 100 = .ok (.aload_n 0, 1) := by decide +kernel
theorem dX1_time_101 : decode cX1_time 101 = .ok (.getfield 53, 3) := by decide +kernel
theorem dX1_time_104 : decode cX1_time 104 = .ok (.iload_n 1, 1) := by decide +kernel
theorem dX1_time_105 : decode cX1_time 105 = .ok (.iconst 1, 1) := by decide +kernel
theorem dX1_time_106 : decode cX1_time 106 = .ok (.iadd, 1) := by decide +kernel
theorem dX1_time_107 : decode cX1_time 107 = .ok (.aload_n 0, 1) := by decide +kernel
theorem dX1_time_108 : decode cX1_time 108 = .ok (.getfield 63, 3) := by decide +kernel
theorem dX1_time_111 : decode cX1_time 111 = .ok (.if_icmp .ge 9, 3) := by decide +kernel
theorem dX1_time_114 : decode cX1_time 114 = .ok (.iload_n 1, 1) := by decide +kernel
theorem dX1_time_115 : decode cX1_time 115 = .ok (.iconst 1, 1) := by decide +kernel
theorem dX1_time_116 : decode cX1_time 116 = .ok (.iadd, 1) := by decide +kernel
theorem dX1_time_117 : decode cX1_time 117 = .ok (.goto 4, 3) := by decide +kernel
theorem dX1_time_120 : decode cX1_time 120 = .ok (.iload_n 1, 1) := by decide +kernel
theorem dX1_time_121 : decode cX1_time 121 = .ok (.baload, 1) := by decide +kernel
theorem dX1_time_122 : decode cX1_time 122 = .ok (.ifCond .ne 7, 3) := by decide +kernel
theorem dX1_time_125 : decode cX1_time 125 = .ok (.iconst 2, 1) := by decide +kernel
theorem dX1_time_126 : decode cX1_time 126 = .ok (.goto 4, 3) := by decide +kernel
theorem dX1_time_129 : decode cX1_time 129 = .ok (.iconst 1, 1) := by decide +kernel
theorem dX1_time_130 : decode cX1_time 130 = .ok (.ireturn, 1) := by decide +kernel
theorem dX1_time_131 : decode cX1_time 131 = .ok (.iload_n 1, 1) := by decide +kernel
theorem dX1_time_132 : decode cX1_time 132 = .ok (.ifCond .le 32, 3) := by decide +kernel
theorem dX1_time_135 : decode cX1_time 135 = .ok (.aload_n 0, 1) := by decide +kernel
theorem dX1_time_136 : decode cX1_time 136 = .ok (.getfield 47, 3) := by decide +kernel
theorem dX1_time_139 : decode cX1_time 139 = .ok (.iload_n 1, 1) := by decide +kernel
theorem dX1_time_140 : decode cX1_time 140 = .ok (.iaload, 1) := by decide +kernel
theorem dX1_time_141 : decode cX1_time 141 = .ok (.aload_n 0, 1) := by decide +kernel
theorem dX1_time_142 : decode cX1_time 142 = .ok (.getfield 47, 3) := by decide +kernel
theorem dX1_time_145 : decode cX1_time 145 = .ok (.iload_n 1, 1) := by decide +kernel
theorem dX1_time_146 : decode cX1_time 146 = .ok (.ifCond .le 9, 3) := by decide +kernel
theorem dX1_time_149 : decode cX1_time 149 = .ok (.iload_n 1, 1) := by decide +kernel
theorem dX1_time_150 : decode cX1_time 150 = .ok (.iconst 1, 1) := by decide +kernel
theorem dX1_time_151 : decode cX1_time 151 = .ok (.isub, 1) := by decide +kernel
theorem dX1_time_152 : decode cX1_time 152 = .ok (.goto 4, 3) := by decide +kernel
theorem dX1_time_155 : decode cX1_time 155 = .ok (.iconst 0, 1) := by decide +kernel
theorem dX1_time_156 : decode cX1_time 156 = .ok (.iaload, 1) := by decide +kernel
theorem dX1_time_157 : decode cX1_time 157 = .ok (.if_icmp .ne 7, 3) := by decide +kernel
theorem dX1_time_160 : decode cX1_time 160 = .ok (.iconst 1, 1) := by decide +kernel
theorem dX1_time_161 : decode cX1_time 161 = .ok (.goto 4, 3) := by decide +kernel
theorem dX1_time_164 : decode cX1_time 164 = .ok (.iconst 0, 1) := by decide +kernel
theorem dX1_time_165 : decode cX1_time 165 = .ok (.ireturn, 1) := by decide +kernel
theorem dX1_time_166 : decode cX1_time 166 = .ok (.iconst (-1), 1) := by decide +kernel
theorem dX1_time_167 : decode cX1_time 167 = .ok (.ireturn, 1) := by decide +kernel
theorem dX1_of_0 : decode cX1_of 0 = .ok (.aload_n 0, 1) := by decide +kernel
theorem dX1_of_1 : decode cX1_of 1 = .ok (.iconst 0, 1) := by decide +kernel
theorem dX1_of_2 : decode cX1_of 2 = .ok (.putfield 59, 3) := by decide +kernel
theorem dX1_of_5 : decode cX1_of 5 = .ok (.iload_n 1, 1) := by decide +kernel
theorem dX1_of_6 : decode cX1_of 6 = .ok (.ifCond .lt 11, 3) := by decide +kernel
theorem dX1_of_9 : decode cX1_of 9 = .ok (.iload_n 1, 1) := by decide +kernel
theorem dX1_of_10 : decode cX1_of 10 = .ok (.aload_n 0, 1) := by decide +kernel
theorem dX1_of_11 : decode cX1_of 11 = .ok (.getfield 63, 3) := by decide +kernel
theorem dX1_of_14 : decode cX1_of 14 = .ok (.if_icmp .lt 5, 3) := by decide +kernel
theorem dX1_of_17 : decode cX1_of 17 = .ok (.iconst (-1), 1) := by decide +kernel
theorem dX1_of_18 : decode cX1_of 18 = .ok (.ireturn, 1) := by decide +kernel
theorem dX1_of_19 : decode cX1_of 19 = .ok (.aload_n 0, 1) := by decide +kernel
theorem dX1_of_20 : decode cX1_of 20 = .ok (.invokevirtual 104, 3) := by decide +kernel
theorem dX1_of_23 : decode cX1_of 23 = .ok (.iload_n 2, 1) := by decide +kernel
theorem dX1_of_24 : decode cX1_of 24 = .ok (.tableswitch 136 0 7 #[48, 55, 62, 69, 76, 91, 106, 121], 48) := by decide +kernel
theorem dX1_of_72 : decode cX1_of 72 = .ok (.aload_n 0, 1) := by decide +kernel
theorem dX1_of_73 : decode cX1_of 73 = .ok (.getfield 7, 3) := by decide +kernel
theorem dX1_of_76 : decode cX1_of 76 = .ok (.iload_n 1, 1) := by decide +kernel
theorem dX1_of_77 : decode cX1_of 77 = .ok (.iaload, 1) := by decide +kernel
theorem dX1_of_78 : decode cX1_of 78 = .ok (.ireturn, 1) := by decide +kernel
theorem dX1_of_79 : decode cX1_of 79 = .ok (.aload_n 0, 1) := by decide +kernel
theorem dX1_of_80 : decode cX1_of 80 = .ok (.getfield 13, 3) := by decide +kernel
theorem dX1_of_83 : decode cX1_of 83 = .ok (.iload_n 1, 1) := by decide +kernel
theorem dX1_of_84 : decode cX1_of 84 = .ok (.iaload, 1) := by decide +kernel
theorem dX1_of_85 : decode cX1_of 85 = .ok (.ireturn, 1) := by decide +kernel
theorem dX1_of_86 : decode cX1_of 86 = .ok (.aload_n 0, 1) := by decide +kernel
theorem dX1_of_87 : decode cX1_of 87 = .ok (.getfield 16, 3) := by decide +kernel
theorem dX1_of_90 : decode cX1_of 90 = .ok (.iload_n 1, 1) := by decide +kernel
theorem dX1_of_91 : decode cX1_of 91 = .ok (.iaload, 1) := by decide +kernel
theorem dX1_of_92 : decode cX1_of 92 = .ok (.ireturn, 1) := by decide +kernel
theorem dX1_of_93 : decode cX1_of 93 = .ok (.aload_n 0, 1) := by decide +kernel
theorem dX1_of_94 : decode cX1_of 94 = .ok (.getfield 19, 3) := by decide +kernel
theorem dX1_of_97 : decode cX1_of 97 = .ok (.iload_n 1, 1) := by decide +kernel
theorem dX1_of_98 : decode cX1_of 98 = .ok (.iaload, 1) := by decide +kernel
theorem dX1_of_99 : decode cX1_of 99 = .ok (.ireturn, 1) := by decide +kernel
theorem dX1_of_100 : decode cX1_of 100 = .ok (.aload_n 0, 1) := by decide +kernel
theorem dX1_of_101 : decode cX1_of 101 = .ok (.getfield 32, 3) := by decide +kernel
theorem dX1_of_104 : decode cX1_of 104 = .ok (.iload_n 1, 1) := by decide +kernel
theorem dX1_of_105 : decode cX1_of 105 = .ok (.baload, 1) := by decide +kernel
theorem dX1_of_106 : decode cX1_of 106 = .ok (.ifCond .eq 7, 3) := by decide +kernel
theorem dX1_of_109 : decode cX1_of 109 = .ok (.iconst 1, 1) := by decide +kernel
theorem dX1_of_110 : decode cX1_of 110 = .ok (.goto 4, 3) := by decide +kernel
theorem dX1_of_113 : decode cX1_of 113 = .ok (.iconst 0, 1) := by decide +kernel
theorem dX1_of_114 : decode cX1_of 114 = .ok (.ireturn, 1) := by decide +kernel
theorem dX1_of_115 : decode cX1_of 115 = .ok (.aload_n 0, 1) := by decide +kernel
theorem dX1_of_116 : decode cX1_of 116 = .ok (.getfield 35, 3) := by decide +kernel
theorem dX1_of_119 : decode cX1_of 119 = .ok (.iload_n 1, 1) := by decide +kernel
theorem dX1_of_120 : decode cX1_of 120 = .ok (.baload, 1) := by decide +kernel
theorem dX1_of_121 : decode cX1_of 121 = .ok (.ifCond .eq 7, 3) := by decide +kernel
theorem dX1_of_124 : decode cX1_of 124 = .ok (.iconst 1, 1) := by decide +kernel
theorem dX1_of_125 : decode cX1_of 125 = .ok (.goto 4, 3) := by decide +kernel
theorem dX1_of_128 : decode cX1_of 128 = .ok (.iconst 0, 1) := by decide +kernel
theorem dX1_of_129 : decode cX1_of 129 = .ok (.ireturn, 1) := by decide +kernel
theorem dX1_of_130 : decode cX1_of 130 = .ok (.aload_n 0, 1) := by decide +kernel
theorem dX1_of_131 : decode cX1_of 131 = .ok (.getfield 38, 3) := by decide +kernel
theorem dX1_of_134 : decode cX1_of 134 = .ok (.iload_n 1, 1) := by decide +kernel
theorem dX1_of_135 : decode cX1_of 135 = .ok (.baload, 1) := by decide +kernel
theorem dX1_of_136 : decode cX1_of 136 = .ok (.ifCond .eq 7, 3) := by decide +kernel
theorem dX1_of_139 : decode cX1_of 139 = .ok (.iconst 1, 1) := by decide +kernel
theorem dX1_of_140 : decode cX1_of 140 = .ok (.goto 4, 3) := by decide +kernel
theorem dX1_of_143 : decode cX1_of 143 = .ok (.iconst 0, 1) := by decide +kernel
theorem dX1_of_144 : decode cX1_of 144 = .ok (.ireturn, 1) := by decide +kernel
theorem dX1_of_145 : decode cX1_of 145 = .ok (.aload_n 0, 1) := by decide +kernel
theorem dX1_of_146 : decode cX1_of 146 = .ok (.getfield 41, 3) := by decide +kernel
theorem dX1_of_149 : decode cX1_of 149 = .ok (.iload_n 1, 1) := by decide +kernel
theorem dX1_of_150 : decode cX1_of 150 = .ok (.baload, 1) := by decide +kernel
theorem dX1_of_151 : decode cX1_of 151 = .ok (.ifCond .eq 7, 3) := by decide +kernel
theorem dX1_of_154 : decode cX1_of 154 = .ok (.iconst 1, 1) := by decide +kernel
theorem dX1_of_155 : decode cX1_of 155 = .ok (.goto 4, 3) := by decide +kernel
theorem dX1_of_158 : decode cX1_of 158 = .ok (.iconst 0, 1) := by decide +kernel
theorem dX1_of_159 : decode cX1_of 159 = .ok (.ireturn, 1) := by decide +kernel
theorem dX1_of_160 : decode cX1_of 160 = .ok (.iconst (-1), 1) := by decide +kernel
theorem dX1_of_161 : decode cX1_of 161 = .ok (.ireturn, 1) := by decide +kernel
theorem dX1_stageOf_0 : decode cX1_stageOf 0 = .ok (.iload_n 2, 1) := by decide +kernel
theorem dX1_stageOf_1 : decode cX1_stageOf 1 = .ok (.aload_n 0, 1) := by decide +kernel
theorem dX1_stageOf_2 : decode cX1_stageOf 2 = .ok (.getfield 44, 3) := by decide +kernel
theorem dX1_stageOf_5 : decode cX1_stageOf 5 = .ok (.iload_n 1, 1) := by decide +kernel
theorem dX1_stageOf_6 : decode cX1_stageOf 6 = .ok (.iaload, 1) := by decide +kernel
theorem dX1_stageOf_7 : decode cX1_stageOf 7 = .ok (.if_icmp .ge 7, 3) := by decide +kernel
theorem dX1_stageOf_10 : decode cX1_stageOf 10 = .ok (.iconst 0, 1) := by decide +kernel
theorem dX1_stageOf_11 : decode cX1_stageOf 11 = .ok (.goto 32, 3) := by decide +kernel
theorem dX1_stageOf_14 : decode cX1_stageOf 14 = .ok (.iload_n 2, 1) := by decide +kernel
theorem dX1_stageOf_15 : decode cX1_stageOf 15 = .ok (.aload_n 0, 1) := by decide +kernel
theorem dX1_stageOf_16 : decode cX1_stageOf 16 = .ok (.getfield 47, 3) := by decide +kernel
theorem dX1_stageOf_19 : decode cX1_stageOf 19 = .ok (.iload_n 1, 1) := by decide +kernel
theorem dX1_stageOf_20 : decode cX1_stageOf 20 = .ok (.iaload, 1) := by decide +kernel
theorem dX1_stageOf_21 : decode cX1_stageOf 21 = .ok (.if_icmp .ge 7, 3) := by decide +kernel
theorem dX1_stageOf_24 : decode cX1_stageOf 24 = .ok (.iconst 1, 1) := by decide +kernel
theorem dX1_stageOf_25 : decode cX1_stageOf 25 = .ok (.goto 18, 3) := by decide +kernel
theorem dX1_stageOf_28 : decode cX1_stageOf 28 = .ok (.iload_n 2, 1) := by decide +kernel
theorem dX1_stageOf_29 : decode cX1_stageOf 29 = .ok (.aload_n 0, 1) := by decide +kernel
theorem dX1_stageOf_30 : decode cX1_stageOf 30 = .ok (.getfield 50, 3) := by decide +kernel
theorem dX1_stageOf_33 : decode cX1_stageOf 33 = .ok (.iload_n 1, 1) := by decide +kernel
theorem dX1_stageOf_34 : decode cX1_stageOf 34 = .ok (.iaload, 1) := by decide +kernel
theorem dX1_stageOf_35 : decode cX1_stageOf 35 = .ok (.if_icmp .ge 7, 3) := by decide +kernel
theorem dX1_stageOf_38 : decode cX1_stageOf 38 = .ok (.iconst 2, 1) := by decide +kernel
theorem dX1_stageOf_39 : decode cX1_stageOf 39 = .ok (.goto 4, 3) := by decide +kernel
theorem dX1_stageOf_42 : decode cX1_stageOf 42 = .ok (.iconst 3, 1) := by decide +kernel
theorem dX1_stageOf_43 : decode cX1_stageOf 43 = .ok (.ireturn, 1) := by decide +kernel
theorem dX1_stage_0 : decode cX1_stage 0 = .ok (.aload_n 0, 1) := by decide +kernel
theorem dX1_stage_1 : decode cX1_stage 1 = .ok (.iconst 0, 1) := by decide +kernel
theorem dX1_stage_2 : decode cX1_stage 2 = .ok (.putfield 59, 3) := by decide +kernel
theorem dX1_stage_5 : decode cX1_stage 5 = .ok (.iload_n 1, 1) := by decide +kernel
theorem dX1_stage_6 : decode cX1_stage 6 = .ok (.ifCond .lt 15, 3) := by decide +kernel
theorem dX1_stage_9 : decode cX1_stage 9 = .ok (.iload_n 1, 1) := by decide +kernel
theorem dX1_stage_10 : decode cX1_stage 10 = .ok (.aload_n 0, 1) := by decide +kernel
theorem dX1_stage_11 : decode cX1_stage 11 = .ok (.getfield 63, 3) := by decide +kernel
theorem dX1_stage_14 : decode cX1_stage 14 = .ok (.if_icmp .ge 7, 3) := by decide +kernel
theorem dX1_stage_17 : decode cX1_stage 17 = .ok (.iload_n 2, 1) := by decide +kernel
theorem dX1_stage_18 : decode cX1_stage 18 = .ok (.ifCond .ge 5, 3) := by decide +kernel
theorem dX1_stage_21 : decode cX1_stage 21 = .ok (.iconst (-1), 1) := by decide +kernel
theorem dX1_stage_22 : decode cX1_stage 22 = .ok (.ireturn, 1) := by decide +kernel
theorem dX1_stage_23 : decode cX1_stage 23 = .ok (.aload_n 0, 1) := by decide +kernel
theorem dX1_stage_24 : decode cX1_stage 24 = .ok (.invokevirtual 104, 3) := by decide +kernel
theorem dX1_stage_27 : decode cX1_stage 27 = .ok (.aload_n 0, 1) := by decide +kernel
theorem dX1_stage_28 : decode cX1_stage 28 = .ok (.iload_n 1, 1) := by decide +kernel
theorem dX1_stage_29 : decode cX1_stage 29 = .ok (.iload_n 2, 1) := by decide +kernel
theorem dX1_stage_30 : decode cX1_stage 30 = .ok (.invokevirtual 107, 3) := by decide +kernel
theorem dX1_stage_33 : decode cX1_stage 33 = .ok (.ireturn, 1) := by decide +kernel
theorem dX1_inStage_0 : decode cX1_inStage 0 = .ok (.iconst 0, 1) := by decide +kernel
theorem dX1_inStage_1 : decode cX1_inStage 1 = .ok (.istore_n 3, 1) := by decide +kernel
theorem dX1_inStage_2 : decode cX1_inStage 2 = .ok (.iconst 0, 1) := by decide +kernel
theorem dX1_inStage_3 : decode cX1_inStage 3 = .ok (.istore 4, 2) := by decide +kernel
theorem dX1_inStage_5 : decode cX1_inStage 5 = .ok (.iload 4, 2) := by decide +kernel
theorem dX1_inStage_7 : decode cX1_inStage 7 = .ok (.aload_n 0, 1) := by decide +kernel
