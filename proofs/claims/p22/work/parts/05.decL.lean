theorem dL_cell_0 : decode cL_cell 0 = .ok (.iload_n 1, 1) := by decide +kernel
theorem dL_cell_1 : decode cL_cell 1 = .ok (.aload_n 0, 1) := by decide +kernel
theorem dL_cell_2 : decode cL_cell 2 = .ok (.arraylength, 1) := by decide +kernel
theorem dL_cell_3 : decode cL_cell 3 = .ok (.if_icmp .ge 9, 3) := by decide +kernel
theorem dL_cell_6 : decode cL_cell 6 = .ok (.aload_n 0, 1) := by decide +kernel
theorem dL_cell_7 : decode cL_cell 7 = .ok (.iload_n 1, 1) := by decide +kernel
theorem dL_cell_8 : decode cL_cell 8 = .ok (.iaload, 1) := by decide +kernel
theorem dL_cell_9 : decode cL_cell 9 = .ok (.goto 11, 3) := by decide +kernel
theorem dL_cell_12 : decode cL_cell 12 = .ok (.ldc 7, 2) := by decide +kernel
theorem dL_cell_14 : decode cL_cell 14 = .ok (.iload_n 1, 1) := by decide +kernel
theorem dL_cell_15 : decode cL_cell 15 = .ok (.sipush 1259, 3) := by decide +kernel
theorem dL_cell_18 : decode cL_cell 18 = .ok (.iadd, 1) := by decide +kernel
theorem dL_cell_19 : decode cL_cell 19 = .ok (.imul, 1) := by decide +kernel
theorem dL_cell_20 : decode cL_cell 20 = .ok (.ireturn, 1) := by decide +kernel
theorem dL_up_0 : decode cL_up 0 = .ok (.iload_n 0, 1) := by decide +kernel
theorem dL_up_1 : decode cL_up 1 = .ok (.ldc 8, 2) := by decide +kernel
theorem dL_up_3 : decode cL_up 3 = .ok (.iand, 1) := by decide +kernel
theorem dL_up_4 : decode cL_up 4 = .ok (.iload_n 1, 1) := by decide +kernel
theorem dL_up_5 : decode cL_up 5 = .ok (.irem, 1) := by decide +kernel
theorem dL_up_6 : decode cL_up 6 = .ok (.ireturn, 1) := by decide +kernel
theorem dL_number_0 : decode cL_number 0 = .ok (.iload_n 1, 1) := by decide +kernel
theorem dL_number_1 : decode cL_number 1 = .ok (.bipush 10, 2) := by decide +kernel
theorem dL_number_3 : decode cL_number 3 = .ok (.if_icmp .lt 18, 3) := by decide +kernel
theorem dL_number_6 : decode cL_number 6 = .ok (.aload_n 0, 1) := by decide +kernel
theorem dL_number_7 : decode cL_number 7 = .ok (.bipush 48, 2) := by decide +kernel
theorem dL_number_9 : decode cL_number 9 = .ok (.iload_n 1, 1) := by decide +kernel
theorem dL_number_10 : decode cL_number 10 = .ok (.bipush 10, 2) := by decide +kernel
theorem dL_number_12 : decode cL_number 12 = .ok (.idiv, 1) := by decide +kernel
theorem dL_number_13 : decode cL_number 13 = .ok (.iadd, 1) := by decide +kernel
theorem dL_number_14 : decode cL_number 14 = .ok (.i2c, 1) := by decide +kernel
theorem dL_number_15 : decode cL_number 15 = .ok (.invokevirtual 9, 3) := by decide +kernel
theorem dL_number_18 : decode cL_number 18 = .ok (.ifCond .le 22, 3) := by decide +kernel
theorem dL_number_21 : decode cL_number 21 = .ok (.aload_n 0, 1) := by decide +kernel
theorem dL_number_22 : decode cL_number 22 = .ok (.bipush 48, 2) := by decide +kernel
theorem dL_number_24 : decode cL_number 24 = .ok (.iload_n 1, 1) := by decide +kernel
theorem dL_number_25 : decode cL_number 25 = .ok (.bipush 10, 2) := by decide +kernel
theorem dL_number_27 : decode cL_number 27 = .ok (.irem, 1) := by decide +kernel
theorem dL_number_28 : decode cL_number 28 = .ok (.iadd, 1) := by decide +kernel
theorem dL_number_29 : decode cL_number 29 = .ok (.i2c, 1) := by decide +kernel
theorem dL_number_30 : decode cL_number 30 = .ok (.invokevirtual 9, 3) := by decide +kernel
theorem dL_number_33 : decode cL_number 33 = .ok (.ifCond .le 7, 3) := by decide +kernel
theorem dL_number_36 : decode cL_number 36 = .ok (.iconst 1, 1) := by decide +kernel
theorem dL_number_37 : decode cL_number 37 = .ok (.goto 4, 3) := by decide +kernel
theorem dL_number_40 : decode cL_number 40 = .ok (.iconst 0, 1) := by decide +kernel
theorem dL_number_41 : decode cL_number 41 = .ok (.ireturn, 1) := by decide +kernel
theorem dL_isStep_0 : decode cL_isStep 0 = .ok (.iload_n 2, 1) := by decide +kernel
theorem dL_isStep_1 : decode cL_isStep 1 = .ok (.iconst 4, 1) := by decide +kernel
theorem dL_isStep_2 : decode cL_isStep 2 = .ok (.ishr, 1) := by decide +kernel
theorem dL_isStep_3 : decode cL_isStep 3 = .ok (.istore 4, 2) := by decide +kernel
theorem dL_isStep_5 : decode cL_isStep 5 = .ok (.iload 4, 2) := by decide +kernel
theorem dL_isStep_7 : decode cL_isStep 7 = .ok (.iconst 2, 1) := by decide +kernel
theorem dL_isStep_8 : decode cL_isStep 8 = .ok (.invokestatic 15, 3) := by decide +kernel
theorem dL_isStep_11 : decode cL_isStep 11 = .ok (.istore 5, 2) := by decide +kernel
theorem dL_isStep_13 : decode cL_isStep 13 = .ok (.aload_n 0, 1) := by decide +kernel
theorem dL_isStep_14 : decode cL_isStep 14 = .ok (.iconst 0, 1) := by decide +kernel
theorem dL_isStep_15 : decode cL_isStep 15 = .ok (.invokevirtual 21, 3) := by decide +kernel
theorem dL_isStep_18 : decode cL_isStep 18 = .ok (.istore 6, 2) := by decide +kernel
theorem dL_isStep_20 : decode cL_isStep 20 = .ok (.aload_n 0, 1) := by decide +kernel
theorem dL_isStep_21 : decode cL_isStep 21 = .ok (.iconst 5, 1) := by decide +kernel
theorem dL_isStep_22 : decode cL_isStep 22 = .ok (.invokevirtual 21, 3) := by decide +kernel
theorem dL_isStep_25 : decode cL_isStep 25 = .ok (.istore 7, 2) := by decide +kernel
theorem dL_isStep_27 : decode cL_isStep 27 = .ok (.iload_n 2, 1) := by decide +kernel
theorem dL_isStep_28 : decode cL_isStep 28 = .ok (.bipush 14, 2) := by decide +kernel
theorem dL_isStep_30 : decode cL_isStep 30 = .ok (.invokestatic 15, 3) := by decide +kernel
theorem dL_isStep_33 : decode cL_isStep 33 = .ok (.tableswitch 842 0 9 #[55, 161, 161, 316, 405, 452, 452, 452, 525, 525], 55) := by decide +kernel
theorem dL_isStep_88 : decode cL_isStep 88 = .ok (.iconst 1, 1) := by decide +kernel
theorem dL_isStep_89 : decode cL_isStep 89 = .ok (.iload 4, 2) := by decide +kernel
theorem dL_isStep_91 : decode cL_isStep 91 = .ok (.iconst 4, 1) := by decide +kernel
theorem dL_isStep_92 : decode cL_isStep 92 = .ok (.invokestatic 15, 3) := by decide +kernel
theorem dL_isStep_95 : decode cL_isStep 95 = .ok (.iadd, 1) := by decide +kernel
theorem dL_isStep_96 : decode cL_isStep 96 = .ok (.istore 8, 2) := by decide +kernel
theorem dL_isStep_98 : decode cL_isStep 98 = .ok (.iload_n 3, 1) := by decide +kernel
theorem dL_isStep_99 : decode cL_isStep 99 = .ok (.iconst 3, 1) := by decide +kernel
theorem dL_isStep_100 : decode cL_isStep 100 = .ok (.invokestatic 15, 3) := by decide +kernel
theorem dL_isStep_103 : decode cL_isStep 103 = .ok (.ifCond .le 7, 3) := by decide +kernel
theorem dL_isStep_106 : decode cL_isStep 106 = .ok (.iconst 1, 1) := by decide +kernel
theorem dL_isStep_107 : decode cL_isStep 107 = .ok (.goto 4, 3) := by decide +kernel
theorem dL_isStep_110 : decode cL_isStep 110 = .ok (.iconst 0, 1) := by decide +kernel
theorem dL_isStep_111 : decode cL_isStep 111 = .ok (.istore 9, 2) := by decide +kernel
theorem dL_isStep_113 : decode cL_isStep 113 = .ok (.iload_n 3, 1) := by decide +kernel
theorem dL_isStep_114 : decode cL_isStep 114 = .ok (.iconst 3, 1) := by decide +kernel
theorem dL_isStep_115 : decode cL_isStep 115 = .ok (.ishr, 1) := by decide +kernel
theorem dL_isStep_116 : decode cL_isStep 116 = .ok (.iconst 3, 1) := by decide +kernel
theorem dL_isStep_117 : decode cL_isStep 117 = .ok (.invokestatic 15, 3) := by decide +kernel
theorem dL_isStep_120 : decode cL_isStep 120 = .ok (.ifCond .le 5, 3) := by decide +kernel
theorem dL_isStep_123 : decode cL_isStep 123 = .ok (.iconst 1, 1) := by decide +kernel
theorem dL_isStep_124 : decode cL_isStep 124 = .ok (.ireturn, 1) := by decide +kernel
theorem dL_isStep_125 : decode cL_isStep 125 = .ok (.aload_n 0, 1) := by decide +kernel
theorem dL_isStep_126 : decode cL_isStep 126 = .ok (.iload 8, 2) := by decide +kernel
theorem dL_isStep_128 : decode cL_isStep 128 = .ok (.iload 9, 2) := by decide +kernel
theorem dL_isStep_130 : decode cL_isStep 130 = .ok (.invokevirtual 25, 3) := by decide +kernel
theorem dL_isStep_133 : decode cL_isStep 133 = .ok (.iconst 1, 1) := by decide +kernel
theorem dL_isStep_134 : decode cL_isStep 134 = .ok (.iload 8, 2) := by decide +kernel
theorem dL_isStep_136 : decode cL_isStep 136 = .ok (.ishl, 1) := by decide +kernel
theorem dL_isStep_137 : decode cL_isStep 137 = .ok (.if_icmp .ne 55, 3) := by decide +kernel
theorem dL_isStep_140 : decode cL_isStep 140 = .ok (.aload_n 1, 1) := by decide +kernel
theorem dL_isStep_141 : decode cL_isStep 141 = .ok (.iload 8, 2) := by decide +kernel
theorem dL_isStep_143 : decode cL_isStep 143 = .ok (.iload 9, 2) := by decide +kernel
theorem dL_isStep_145 : decode cL_isStep 145 = .ok (.invokevirtual 25, 3) := by decide +kernel
theorem dL_isStep_148 : decode cL_isStep 148 = .ok (.iconst 1, 1) := by decide +kernel
theorem dL_isStep_149 : decode cL_isStep 149 = .ok (.iload 8, 2) := by decide +kernel
theorem dL_isStep_151 : decode cL_isStep 151 = .ok (.ishl, 1) := by decide +kernel
theorem dL_isStep_152 : decode cL_isStep 152 = .ok (.if_icmp .ne 40, 3) := by decide +kernel
theorem dL_isStep_155 : decode cL_isStep 155 = .ok (.aload_n 0, 1) := by decide +kernel
theorem dL_isStep_156 : decode cL_isStep 156 = .ok (.iconst 4, 1) := by decide +kernel
theorem dL_isStep_157 : decode cL_isStep 157 = .ok (.invokevirtual 21, 3) := by decide +kernel
theorem dL_isStep_160 : decode cL_isStep 160 = .ok (.ifCond .ne 32, 3) := by decide +kernel
theorem dL_isStep_163 : decode cL_isStep 163 = .ok (.aload_n 0, 1) := by decide +kernel
theorem dL_isStep_164 : decode cL_isStep 164 = .ok (.iconst 5, 1) := by decide +kernel
theorem dL_isStep_165 : decode cL_isStep 165 = .ok (.invokevirtual 21, 3) := by decide +kernel
theorem dL_isStep_168 : decode cL_isStep 168 = .ok (.ifCond .ne 24, 3) := by decide +kernel
theorem dL_isStep_171 : decode cL_isStep 171 = .ok (.aload_n 0, 1) := by decide +kernel
theorem dL_isStep_172 : decode cL_isStep 172 = .ok (.iconst 0, 1) := by decide +kernel
theorem dL_isStep_173 : decode cL_isStep 173 = .ok (.invokevirtual 21, 3) := by decide +kernel
theorem dL_isStep_176 : decode cL_isStep 176 = .ok (.iload 6, 2) := by decide +kernel
theorem dL_isStep_178 : decode cL_isStep 178 = .ok (.if_icmp .ne 14, 3) := by decide +kernel
theorem dL_isStep_181 : decode cL_isStep 181 = .ok (.aload_n 0, 1) := by decide +kernel
theorem dL_isStep_182 : decode cL_isStep 182 = .ok (.invokevirtual 29, 3) := by decide +kernel
theorem dL_isStep_185 : decode cL_isStep 185 = .ok (.ifCond .ne 7, 3) := by decide +kernel
theorem dL_isStep_188 : decode cL_isStep 188 = .ok (.iconst 1, 1) := by decide +kernel
theorem dL_isStep_189 : decode cL_isStep 189 = .ok (.goto 4, 3) := by decide +kernel
theorem dL_isStep_192 : decode cL_isStep 192 = .ok (.iconst 0, 1) := by decide +kernel
theorem dL_isStep_193 : decode cL_isStep 193 = .ok (.ireturn, 1) := by decide +kernel
theorem dL_isStep_194 : decode cL_isStep 194 = .ok (.iconst 1, 1) := by decide +kernel
theorem dL_isStep_195 : decode cL_isStep 195 = .ok (.iload_n 3, 1) := by decide +kernel
theorem dL_isStep_196 : decode cL_isStep 196 = .ok (.iload 4, 2) := by decide +kernel
theorem dL_isStep_198 : decode cL_isStep 198 = .ok (.iconst 1, 1) := by decide +kernel
theorem dL_isStep_199 : decode cL_isStep 199 = .ok (.ishr, 1) := by decide +kernel
theorem dL_isStep_200 : decode cL_isStep 200 = .ok (.iconst 2, 1) := by decide +kernel
theorem dL_isStep_201 : decode cL_isStep 201 = .ok (.invokestatic 15, 3) := by decide +kernel
theorem dL_isStep_204 : decode cL_isStep 204 = .ok (.ifCond .ne 8, 3) := by decide +kernel
theorem dL_isStep_207 : decode cL_isStep 207 = .ok (.bipush 50, 2) := by decide +kernel
theorem dL_isStep_209 : decode cL_isStep 209 = .ok (.goto 5, 3) := by decide +kernel
theorem dL_isStep_212 : decode cL_isStep 212 = .ok (.bipush 7, 2) := by decide +kernel
theorem dL_isStep_214 : decode cL_isStep 214 = .ok (.invokestatic 15, 3) := by decide +kernel
theorem dL_isStep_217 : decode cL_isStep 217 = .ok (.iadd, 1) := by decide +kernel
theorem dL_isStep_218 : decode cL_isStep 218 = .ok (.istore 8, 2) := by decide +kernel
theorem dL_isStep_220 : decode cL_isStep 220 = .ok (.iload_n 3, 1) := by decide +kernel
theorem dL_isStep_221 : decode cL_isStep 221 = .ok (.bipush 9, 2) := by decide +kernel
theorem dL_isStep_223 : decode cL_isStep 223 = .ok (.ishr, 1) := by decide +kernel
theorem dL_isStep_224 : decode cL_isStep 224 = .ok (.bipush 50, 2) := by decide +kernel
theorem dL_isStep_226 : decode cL_isStep 226 = .ok (.invokestatic 15, 3) := by decide +kernel
theorem dL_isStep_229 : decode cL_isStep 229 = .ok (.istore 9, 2) := by decide +kernel
theorem dL_isStep_231 : decode cL_isStep 231 = .ok (.aload_n 0, 1) := by decide +kernel
theorem dL_isStep_232 : decode cL_isStep 232 = .ok (.iload 5, 2) := by decide +kernel
theorem dL_isStep_234 : decode cL_isStep 234 = .ok (.iconst 0, 1) := by decide +kernel
theorem dL_isStep_235 : decode cL_isStep 235 = .ok (.invokevirtual 33, 3) := by decide +kernel
theorem dL_isStep_238 : decode cL_isStep 238 = .ok (.istore 10, 2) := by decide +kernel
theorem dL_isStep_240 : decode cL_isStep 240 = .ok (.iload 10, 2) := by decide +kernel
theorem dL_isStep_242 : decode cL_isStep 242 = .ok (.iload 8, 2) := by decide +kernel
theorem dL_isStep_244 : decode cL_isStep 244 = .ok (.if_icmp .ne 19, 3) := by decide +kernel
theorem dL_isStep_247 : decode cL_isStep 247 = .ok (.aload_n 0, 1) := by decide +kernel
theorem dL_isStep_248 : decode cL_isStep 248 = .ok (.iload 5, 2) := by decide +kernel
theorem dL_isStep_250 : decode cL_isStep 250 = .ok (.iconst 1, 1) := by decide +kernel
theorem dL_isStep_251 : decode cL_isStep 251 = .ok (.invokevirtual 33, 3) := by decide +kernel
theorem dL_isStep_254 : decode cL_isStep 254 = .ok (.iload 9, 2) := by decide +kernel
theorem dL_isStep_256 : decode cL_isStep 256 = .ok (.if_icmp .ne 7, 3) := by decide +kernel
theorem dL_isStep_259 : decode cL_isStep 259 = .ok (.iconst 1, 1) := by decide +kernel
theorem dL_isStep_260 : decode cL_isStep 260 = .ok (.goto 4, 3) := by decide +kernel
theorem dL_isStep_263 : decode cL_isStep 263 = .ok (.iconst 0, 1) := by decide +kernel
theorem dL_isStep_264 : decode cL_isStep 264 = .ok (.istore 11, 2) := by decide +kernel
theorem dL_isStep_266 : decode cL_isStep 266 = .ok (.aload_n 0, 1) := by decide +kernel
theorem dL_isStep_267 : decode cL_isStep 267 = .ok (.iload 5, 2) := by decide +kernel
theorem dL_isStep_269 : decode cL_isStep 269 = .ok (.iload 8, 2) := by decide +kernel
theorem dL_isStep_271 : decode cL_isStep 271 = .ok (.iload 9, 2) := by decide +kernel
theorem dL_isStep_273 : decode cL_isStep 273 = .ok (.invokevirtual 36, 3) := by decide +kernel
theorem dL_isStep_276 : decode cL_isStep 276 = .ok (.istore 12, 2) := by decide +kernel
theorem dL_isStep_278 : decode cL_isStep 278 = .ok (.aload_n 1, 1) := by decide +kernel
theorem dL_isStep_279 : decode cL_isStep 279 = .ok (.iload 5, 2) := by decide +kernel
theorem dL_isStep_281 : decode cL_isStep 281 = .ok (.iload 8, 2) := by decide +kernel
theorem dL_isStep_283 : decode cL_isStep 283 = .ok (.iload 9, 2) := by decide +kernel
theorem dL_isStep_285 : decode cL_isStep 285 = .ok (.iload 8, 2) := by decide +kernel
theorem dL_isStep_287 : decode cL_isStep 287 = .ok (.irem, 1) := by decide +kernel
theorem dL_isStep_288 : decode cL_isStep 288 = .ok (.invokevirtual 36, 3) := by decide +kernel
theorem dL_isStep_291 : decode cL_isStep 291 = .ok (.istore 13, 2) := by decide +kernel
theorem dL_isStep_293 : decode cL_isStep 293 = .ok (.iload 12, 2) := by decide +kernel
theorem dL_isStep_295 : decode cL_isStep 295 = .ok (.iload 11, 2) := by decide +kernel
theorem dL_isStep_297 : decode cL_isStep 297 = .ok (.ifCond .eq 8, 3) := by decide +kernel
theorem dL_isStep_300 : decode cL_isStep 300 = .ok (.bipush (-5), 2) := by decide +kernel
theorem dL_isStep_302 : decode cL_isStep 302 = .ok (.goto 5, 3) := by decide +kernel
theorem dL_isStep_305 : decode cL_isStep 305 = .ok (.iload 10, 2) := by decide +kernel
theorem dL_isStep_307 : decode cL_isStep 307 = .ok (.if_icmp .ne 40, 3) := by decide +kernel
theorem dL_isStep_310 : decode cL_isStep 310 = .ok (.iload 13, 2) := by decide +kernel
theorem dL_isStep_312 : decode cL_isStep 312 = .ok (.iload 10, 2) := by decide +kernel
theorem dL_isStep_314 : decode cL_isStep 314 = .ok (.if_icmp .eq 10, 3) := by decide +kernel
theorem dL_isStep_317 : decode cL_isStep 317 = .ok (.iload 13, 2) := by decide +kernel
theorem dL_isStep_319 : decode cL_isStep 319 = .ok (.bipush (-5), 2) := by decide +kernel
theorem dL_isStep_321 : decode cL_isStep 321 = .ok (.if_icmp .ne 26, 3) := by decide +kernel
theorem dL_isStep_324 : decode cL_isStep 324 = .ok (.aload_n 0, 1) := by decide +kernel
theorem dL_isStep_325 : decode cL_isStep 325 = .ok (.iload 5, 2) := by decide +kernel
theorem dL_isStep_327 : decode cL_isStep 327 = .ok (.bipush 11, 2) := by decide +kernel
theorem dL_isStep_329 : decode cL_isStep 329 = .ok (.invokevirtual 33, 3) := by decide +kernel
theorem dL_isStep_332 : decode cL_isStep 332 = .ok (.aload_n 1, 1) := by decide +kernel
theorem dL_isStep_333 : decode cL_isStep 333 = .ok (.iload 5, 2) := by decide +kernel
theorem dL_isStep_335 : decode cL_isStep 335 = .ok (.bipush 11, 2) := by decide +kernel
theorem dL_isStep_337 : decode cL_isStep 337 = .ok (.invokevirtual 33, 3) := by decide +kernel
theorem dL_isStep_340 : decode cL_isStep 340 = .ok (.if_icmp .ne 7, 3) := by decide +kernel
theorem dL_isStep_343 : decode cL_isStep 343 = .ok (.iconst 1, 1) := by decide +kernel
theorem dL_isStep_344 : decode cL_isStep 344 = .ok (.goto 4, 3) := by decide +kernel
theorem dL_isStep_347 : decode cL_isStep 347 = .ok (.iconst 0, 1) := by decide +kernel
theorem dL_isStep_348 : decode cL_isStep 348 = .ok (.ireturn, 1) := by decide +kernel
theorem dL_isStep_349 : decode cL_isStep 349 = .ok (.iload_n 3, 1) := by decide +kernel
theorem dL_isStep_350 : decode cL_isStep 350 = .ok (.iconst 4, 1) := by decide +kernel
theorem dL_isStep_351 : decode cL_isStep 351 = .ok (.invokestatic 15, 3) := by decide +kernel
theorem dL_isStep_354 : decode cL_isStep 354 = .ok (.ifCond .le 7, 3) := by decide +kernel
theorem dL_isStep_357 : decode cL_isStep 357 = .ok (.iconst 1, 1) := by decide +kernel
theorem dL_isStep_358 : decode cL_isStep 358 = .ok (.goto 4, 3) := by decide +kernel
theorem dL_isStep_361 : decode cL_isStep 361 = .ok (.iconst 0, 1) := by decide +kernel
theorem dL_isStep_362 : decode cL_isStep 362 = .ok (.istore 8, 2) := by decide +kernel
theorem dL_isStep_364 : decode cL_isStep 364 = .ok (.aload_n 0, 1) := by decide +kernel
theorem dL_isStep_365 : decode cL_isStep 365 = .ok (.iload 5, 2) := by decide +kernel
theorem dL_isStep_367 : decode cL_isStep 367 = .ok (.iload 8, 2) := by decide +kernel
theorem dL_isStep_369 : decode cL_isStep 369 = .ok (.invokevirtual 40, 3) := by decide +kernel
theorem dL_isStep_372 : decode cL_isStep 372 = .ok (.istore 9, 2) := by decide +kernel
theorem dL_isStep_374 : decode cL_isStep 374 = .ok (.iload 9, 2) := by decide +kernel
theorem dL_isStep_376 : decode cL_isStep 376 = .ok (.aload_n 1, 1) := by decide +kernel
theorem dL_isStep_377 : decode cL_isStep 377 = .ok (.iload 5, 2) := by decide +kernel
theorem dL_isStep_379 : decode cL_isStep 379 = .ok (.iload 8, 2) := by decide +kernel
theorem dL_isStep_381 : decode cL_isStep 381 = .ok (.invokevirtual 40, 3) := by decide +kernel
theorem dL_isStep_384 : decode cL_isStep 384 = .ok (.if_icmp .ne 52, 3) := by decide +kernel
theorem dL_isStep_387 : decode cL_isStep 387 = .ok (.iload 9, 2) := by decide +kernel
theorem dL_isStep_389 : decode cL_isStep 389 = .ok (.bipush (-5), 2) := by decide +kernel
theorem dL_isStep_391 : decode cL_isStep 391 = .ok (.if_icmp .eq 10, 3) := by decide +kernel
theorem dL_isStep_394 : decode cL_isStep 394 = .ok (.iload 9, 2) := by decide +kernel
theorem dL_isStep_396 : decode cL_isStep 396 = .ok (.iload 6, 2) := by decide +kernel
theorem dL_isStep_398 : decode cL_isStep 398 = .ok (.if_icmp .ne 38, 3) := by decide +kernel
theorem dL_isStep_401 : decode cL_isStep 401 = .ok (.aload_n 0, 1) := by decide +kernel
theorem dL_isStep_402 : decode cL_isStep 402 = .ok (.iload 5, 2) := by decide +kernel
theorem dL_isStep_404 : decode cL_isStep 404 = .ok (.bipush 11, 2) := by decide +kernel
theorem dL_isStep_406 : decode cL_isStep 406 = .ok (.invokevirtual 33, 3) := by decide +kernel
theorem dL_isStep_409 : decode cL_isStep 409 = .ok (.bipush (-5), 2) := by decide +kernel
theorem dL_isStep_411 : decode cL_isStep 411 = .ok (.if_icmp .ne 7, 3) := by decide +kernel
theorem dL_isStep_414 : decode cL_isStep 414 = .ok (.iconst 1, 1) := by decide +kernel
theorem dL_isStep_415 : decode cL_isStep 415 = .ok (.goto 4, 3) := by decide +kernel
theorem dL_isStep_418 : decode cL_isStep 418 = .ok (.iconst 0, 1) := by decide +kernel
theorem dL_isStep_419 : decode cL_isStep 419 = .ok (.iload 8, 2) := by decide +kernel
theorem dL_isStep_421 : decode cL_isStep 421 = .ok (.ifCond .ne 7, 3) := by decide +kernel
theorem dL_isStep_424 : decode cL_isStep 424 = .ok (.iconst 1, 1) := by decide +kernel
theorem dL_isStep_425 : decode cL_isStep 425 = .ok (.goto 4, 3) := by decide +kernel
theorem dL_isStep_428 : decode cL_isStep 428 = .ok (.iconst 0, 1) := by decide +kernel
theorem dL_isStep_429 : decode cL_isStep 429 = .ok (.if_icmp .ne 7, 3) := by decide +kernel
theorem dL_isStep_432 : decode cL_isStep 432 = .ok (.iconst 1, 1) := by decide +kernel
theorem dL_isStep_433 : decode cL_isStep 433 = .ok (.goto 4, 3) := by decide +kernel
theorem dL_isStep_436 : decode cL_isStep 436 = .ok (.iconst 0, 1) := by decide +kernel
theorem dL_isStep_437 : decode cL_isStep 437 = .ok (.ireturn, 1) := by decide +kernel
theorem dL_isStep_438 : decode cL_isStep 438 = .ok (.iload_n 3, 1) := by decide +kernel
theorem dL_isStep_439 : decode cL_isStep 439 = .ok (.bipush 16, 2) := by decide +kernel
theorem dL_isStep_441 : decode cL_isStep 441 = .ok (.invokestatic 15, 3) := by decide +kernel
theorem dL_isStep_444 : decode cL_isStep 444 = .ok (.istore 8, 2) := by decide +kernel
theorem dL_isStep_446 : decode cL_isStep 446 = .ok (.aload_n 0, 1) := by decide +kernel
theorem dL_isStep_447 : decode cL_isStep 447 = .ok (.iload 5, 2) := by decide +kernel
theorem dL_isStep_449 : decode cL_isStep 449 = .ok (.iload 8, 2) := by decide +kernel
theorem dL_isStep_451 : decode cL_isStep 451 = .ok (.invokevirtual 43, 3) := by decide +kernel
theorem dL_isStep_454 : decode cL_isStep 454 = .ok (.aload_n 1, 1) := by decide +kernel
theorem dL_isStep_455 : decode cL_isStep 455 = .ok (.iload 5, 2) := by decide +kernel
theorem dL_isStep_457 : decode cL_isStep 457 = .ok (.iload 8, 2) := by decide +kernel
theorem dL_isStep_459 : decode cL_isStep 459 = .ok (.invokevirtual 43, 3) := by decide +kernel
theorem dL_isStep_462 : decode cL_isStep 462 = .ok (.if_icmp .ne 21, 3) := by decide +kernel
theorem dL_isStep_465 : decode cL_isStep 465 = .ok (.aload_n 0, 1) := by decide +kernel
theorem dL_isStep_466 : decode cL_isStep 466 = .ok (.bipush 10, 2) := by decide +kernel
theorem dL_isStep_468 : decode cL_isStep 468 = .ok (.iload 5, 2) := by decide +kernel
theorem dL_isStep_470 : decode cL_isStep 470 = .ok (.iadd, 1) := by decide +kernel
theorem dL_isStep_471 : decode cL_isStep 471 = .ok (.invokevirtual 21, 3) := by decide +kernel
theorem dL_isStep_474 : decode cL_isStep 474 = .ok (.iload 8, 2) := by decide +kernel
theorem dL_isStep_476 : decode cL_isStep 476 = .ok (.if_icmp .ne 7, 3) := by decide +kernel
theorem dL_isStep_479 : decode cL_isStep 479 = .ok (.iconst 1, 1) := by decide +kernel
theorem dL_isStep_480 : decode cL_isStep 480 = .ok (.goto 4, 3) := by decide +kernel
theorem dL_isStep_483 : decode cL_isStep 483 = .ok (.iconst 0, 1) := by decide +kernel
theorem dL_isStep_484 : decode cL_isStep 484 = .ok (.ireturn, 1) := by decide +kernel
theorem dL_isStep_485 : decode cL_isStep 485 = .ok (.iload_n 3, 1) := by decide +kernel
theorem dL_isStep_486 : decode cL_isStep 486 = .ok (.bipush 100, 2) := by decide +kernel
theorem dL_isStep_488 : decode cL_isStep 488 = .ok (.invokestatic 15, 3) := by decide +kernel
theorem dL_isStep_491 : decode cL_isStep 491 = .ok (.istore 8, 2) := by decide +kernel
theorem dL_isStep_493 : decode cL_isStep 493 = .ok (.aload_n 0, 1) := by decide +kernel
theorem dL_isStep_494 : decode cL_isStep 494 = .ok (.iload 8, 2) := by decide +kernel
theorem dL_isStep_496 : decode cL_isStep 496 = .ok (.invokevirtual 46, 3) := by decide +kernel
theorem dL_isStep_499 : decode cL_isStep 499 = .ok (.istore 9, 2) := by decide +kernel
theorem dL_isStep_501 : decode cL_isStep 501 = .ok (.iload 9, 2) := by decide +kernel
theorem dL_isStep_503 : decode cL_isStep 503 = .ok (.aload_n 1, 1) := by decide +kernel
theorem dL_isStep_504 : decode cL_isStep 504 = .ok (.bipush 99, 2) := by decide +kernel
theorem dL_isStep_506 : decode cL_isStep 506 = .ok (.iload 8, 2) := by decide +kernel
theorem dL_isStep_508 : decode cL_isStep 508 = .ok (.isub, 1) := by decide +kernel
theorem dL_isStep_509 : decode cL_isStep 509 = .ok (.invokevirtual 46, 3) := by decide +kernel
theorem dL_isStep_512 : decode cL_isStep 512 = .ok (.if_icmp .ne 44, 3) := by decide +kernel
theorem dL_isStep_515 : decode cL_isStep 515 = .ok (.iload 7, 2) := by decide +kernel
theorem dL_isStep_517 : decode cL_isStep 517 = .ok (.bipush 20, 2) := by decide +kernel
theorem dL_isStep_519 : decode cL_isStep 519 = .ok (.if_icmp .ne 13, 3) := by decide +kernel
theorem dL_isStep_522 : decode cL_isStep 522 = .ok (.iload 9, 2) := by decide +kernel
theorem dL_isStep_524 : decode cL_isStep 524 = .ok (.bipush (-3), 2) := by decide +kernel
theorem dL_isStep_526 : decode cL_isStep 526 = .ok (.if_icmp .ne 30, 3) := by decide +kernel
theorem dL_isStep_529 : decode cL_isStep 529 = .ok (.goto 23, 3) := by decide +kernel
theorem dL_isStep_532 : decode cL_isStep 532 = .ok (.iload 9, 2) := by decide +kernel
theorem dL_isStep_534 : decode cL_isStep 534 = .ok (.iload 7, 2) := by decide +kernel
theorem dL_isStep_536 : decode cL_isStep 536 = .ok (.iconst 1, 1) := by decide +kernel
theorem dL_isStep_537 : decode cL_isStep 537 = .ok (.iadd, 1) := by decide +kernel
theorem dL_isStep_538 : decode cL_isStep 538 = .ok (.if_icmp .ne 18, 3) := by decide +kernel
theorem dL_isStep_541 : decode cL_isStep 541 = .ok (.aload_n 0, 1) := by decide +kernel
theorem dL_isStep_542 : decode cL_isStep 542 = .ok (.iload 7, 2) := by decide +kernel
theorem dL_isStep_544 : decode cL_isStep 544 = .ok (.invokevirtual 49, 3) := by decide +kernel
theorem dL_isStep_547 : decode cL_isStep 547 = .ok (.iload 8, 2) := by decide +kernel
theorem dL_isStep_549 : decode cL_isStep 549 = .ok (.if_icmp .ne 7, 3) := by decide +kernel
theorem dL_isStep_552 : decode cL_isStep 552 = .ok (.iconst 1, 1) := by decide +kernel
theorem dL_isStep_553 : decode cL_isStep 553 = .ok (.goto 4, 3) := by decide +kernel
theorem dL_isStep_556 : decode cL_isStep 556 = .ok (.iconst 0, 1) := by decide +kernel
theorem dL_isStep_557 : decode cL_isStep 557 = .ok (.ireturn, 1) := by decide +kernel
theorem dL_isStep_558 : decode cL_isStep 558 = .ok (.iconst 1, 1) := by decide +kernel
theorem dL_isStep_559 : decode cL_isStep 559 = .ok (.iload 4, 2) := by decide +kernel
theorem dL_isStep_561 : decode cL_isStep 561 = .ok (.iconst 4, 1) := by decide +kernel
theorem dL_isStep_562 : decode cL_isStep 562 = .ok (.invokestatic 15, 3) := by decide +kernel
theorem dL_isStep_565 : decode cL_isStep 565 = .ok (.iadd, 1) := by decide +kernel
theorem dL_isStep_566 : decode cL_isStep 566 = .ok (.istore 8, 2) := by decide +kernel
theorem dL_isStep_568 : decode cL_isStep 568 = .ok (.aload_n 0, 1) := by decide +kernel
theorem dL_isStep_569 : decode cL_isStep 569 = .ok (.invokevirtual 52, 3) := by decide +kernel
theorem dL_isStep_572 : decode cL_isStep 572 = .ok (.ifCond .lt 14, 3) := by decide +kernel
theorem dL_isStep_575 : decode cL_isStep 575 = .ok (.aload_n 1, 1) := by decide +kernel
theorem dL_isStep_576 : decode cL_isStep 576 = .ok (.invokevirtual 52, 3) := by decide +kernel
theorem dL_isStep_579 : decode cL_isStep 579 = .ok (.ifCond .lt 7, 3) := by decide +kernel
theorem dL_isStep_582 : decode cL_isStep 582 = .ok (.iconst 1, 1) := by decide +kernel
theorem dL_isStep_583 : decode cL_isStep 583 = .ok (.goto 4, 3) := by decide +kernel
theorem dL_isStep_586 : decode cL_isStep 586 = .ok (.iconst 0, 1) := by decide +kernel
theorem dL_isStep_587 : decode cL_isStep 587 = .ok (.istore 9, 2) := by decide +kernel
theorem dL_isStep_589 : decode cL_isStep 589 = .ok (.iconst 0, 1) := by decide +kernel
theorem dL_isStep_590 : decode cL_isStep 590 = .ok (.istore 10, 2) := by decide +kernel
theorem dL_isStep_592 : decode cL_isStep 592 = .ok (.iload 10, 2) := by decide +kernel
theorem dL_isStep_594 : decode cL_isStep 594 = .ok (.iload 8, 2) := by decide +kernel
theorem dL_isStep_596 : decode cL_isStep 596 = .ok (.if_icmp .ge 221, 3) := by decide +kernel
theorem dL_isStep_599 : decode cL_isStep 599 = .ok (.iload_n 3, 1) := by decide +kernel
theorem dL_isStep_600 : decode cL_isStep 600 = .ok (.iconst 2, 1) := by decide +kernel
theorem dL_isStep_601 : decode cL_isStep 601 = .ok (.iload 10, 2) := by decide +kernel
theorem dL_isStep_603 : decode cL_isStep 603 = .ok (.imul, 1) := by decide +kernel
theorem dL_isStep_604 : decode cL_isStep 604 = .ok (.ishr, 1) := by decide +kernel
theorem dL_isStep_605 : decode cL_isStep 605 = .ok (.istore 11, 2) := by decide +kernel
theorem dL_isStep_607 : decode cL_isStep 607 = .ok (.iload 9, 2) := by decide +kernel
theorem dL_isStep_609 : decode cL_isStep 609 = .ok (.ifCond .eq 30, 3) := by decide +kernel
theorem dL_isStep_612 : decode cL_isStep 612 = .ok (.iload 10, 2) := by decide +kernel
theorem dL_isStep_614 : decode cL_isStep 614 = .ok (.ifCond .eq 21, 3) := by decide +kernel
theorem dL_isStep_617 : decode cL_isStep 617 = .ok (.aload_n 0, 1) := by decide +kernel
theorem dL_isStep_618 : decode cL_isStep 618 = .ok (.bipush 44, 2) := by decide +kernel
theorem dL_isStep_620 : decode cL_isStep 620 = .ok (.invokevirtual 9, 3) := by decide +kernel
theorem dL_isStep_623 : decode cL_isStep 623 = .ok (.ifCond .le 16, 3) := by decide +kernel
theorem dL_isStep_626 : decode cL_isStep 626 = .ok (.aload_n 1, 1) := by decide +kernel
theorem dL_isStep_627 : decode cL_isStep 627 = .ok (.bipush 44, 2) := by decide +kernel
theorem dL_isStep_629 : decode cL_isStep 629 = .ok (.invokevirtual 9, 3) := by decide +kernel
theorem dL_isStep_632 : decode cL_isStep 632 = .ok (.ifCond .le 7, 3) := by decide +kernel
theorem dL_isStep_635 : decode cL_isStep 635 = .ok (.iconst 1, 1) := by decide +kernel
theorem dL_isStep_636 : decode cL_isStep 636 = .ok (.goto 4, 3) := by decide +kernel
theorem dL_isStep_639 : decode cL_isStep 639 = .ok (.iconst 0, 1) := by decide +kernel
theorem dL_isStep_640 : decode cL_isStep 640 = .ok (.istore 9, 2) := by decide +kernel
theorem dL_isStep_642 : decode cL_isStep 642 = .ok (.iload 11, 2) := by decide +kernel
theorem dL_isStep_644 : decode cL_isStep 644 = .ok (.iconst 3, 1) := by decide +kernel
theorem dL_isStep_645 : decode cL_isStep 645 = .ok (.invokestatic 15, 3) := by decide +kernel
theorem dL_isStep_648 : decode cL_isStep 648 = .ok (.ifCond .ne 67, 3) := by decide +kernel
theorem dL_isStep_651 : decode cL_isStep 651 = .ok (.iconst 1, 1) := by decide +kernel
theorem dL_isStep_652 : decode cL_isStep 652 = .ok (.iload 11, 2) := by decide +kernel
theorem dL_isStep_654 : decode cL_isStep 654 = .ok (.iconst 3, 1) := by decide +kernel
theorem dL_isStep_655 : decode cL_isStep 655 = .ok (.ishr, 1) := by decide +kernel
theorem dL_isStep_656 : decode cL_isStep 656 = .ok (.bipush 60, 2) := by decide +kernel
theorem dL_isStep_658 : decode cL_isStep 658 = .ok (.invokestatic 15, 3) := by decide +kernel
theorem dL_isStep_661 : decode cL_isStep 661 = .ok (.iadd, 1) := by decide +kernel
theorem dL_isStep_662 : decode cL_isStep 662 = .ok (.istore 12, 2) := by decide +kernel
theorem dL_isStep_664 : decode cL_isStep 664 = .ok (.iload 9, 2) := by decide +kernel
theorem dL_isStep_666 : decode cL_isStep 666 = .ok (.ifCond .eq 43, 3) := by decide +kernel
theorem dL_isStep_669 : decode cL_isStep 669 = .ok (.aload_n 0, 1) := by decide +kernel
theorem dL_isStep_670 : decode cL_isStep 670 = .ok (.bipush 46, 2) := by decide +kernel
theorem dL_isStep_672 : decode cL_isStep 672 = .ok (.invokevirtual 9, 3) := by decide +kernel
theorem dL_isStep_675 : decode cL_isStep 675 = .ok (.ifCond .le 34, 3) := by decide +kernel
theorem dL_isStep_678 : decode cL_isStep 678 = .ok (.aload_n 1, 1) := by decide +kernel
theorem dL_isStep_679 : decode cL_isStep 679 = .ok (.bipush 46, 2) := by decide +kernel
theorem dL_isStep_681 : decode cL_isStep 681 = .ok (.invokevirtual 9, 3) := by decide +kernel
theorem dL_isStep_684 : decode cL_isStep 684 = .ok (.ifCond .le 25, 3) := by decide +kernel
theorem dL_isStep_687 : decode cL_isStep 687 = .ok (.aload_n 0, 1) := by decide +kernel
theorem dL_isStep_688 : decode cL_isStep 688 = .ok (.iload 12, 2) := by decide +kernel
theorem dL_isStep_690 : decode cL_isStep 690 = .ok (.invokestatic 55, 3) := by decide +kernel
theorem dL_isStep_693 : decode cL_isStep 693 = .ok (.ifCond .eq 16, 3) := by decide +kernel
theorem dL_isStep_696 : decode cL_isStep 696 = .ok (.aload_n 1, 1) := by decide +kernel
theorem dL_isStep_697 : decode cL_isStep 697 = .ok (.iload 12, 2) := by decide +kernel
theorem dL_isStep_699 : decode cL_isStep 699 = .ok (.invokestatic 55, 3) := by decide +kernel
theorem dL_isStep_702 : decode cL_isStep 702 = .ok (.ifCond .eq 7, 3) := by decide +kernel
theorem dL_isStep_705 : decode cL_isStep 705 = .ok (.iconst 1, 1) := by decide +kernel
theorem dL_isStep_706 : decode cL_isStep 706 = .ok (.goto 4, 3) := by decide +kernel
theorem dL_isStep_709 : decode cL_isStep 709 = .ok (.iconst 0, 1) := by decide +kernel
theorem dL_isStep_710 : decode cL_isStep 710 = .ok (.istore 9, 2) := by decide +kernel
theorem dL_isStep_712 : decode cL_isStep 712 = .ok (.goto 99, 3) := by decide +kernel
theorem dL_isStep_715 : decode cL_isStep 715 = .ok (.iload 11, 2) := by decide +kernel
theorem dL_isStep_717 : decode cL_isStep 717 = .ok (.iconst 3, 1) := by decide +kernel
theorem dL_isStep_718 : decode cL_isStep 718 = .ok (.ishr, 1) := by decide +kernel
theorem dL_isStep_719 : decode cL_isStep 719 = .ok (.bipush 100, 2) := by decide +kernel
theorem dL_isStep_721 : decode cL_isStep 721 = .ok (.invokestatic 15, 3) := by decide +kernel
theorem dL_isStep_724 : decode cL_isStep 724 = .ok (.istore 12, 2) := by decide +kernel
theorem dL_isStep_726 : decode cL_isStep 726 = .ok (.iload 11, 2) := by decide +kernel
theorem dL_isStep_728 : decode cL_isStep 728 = .ok (.iconst 5, 1) := by decide +kernel
theorem dL_isStep_729 : decode cL_isStep 729 = .ok (.ishr, 1) := by decide +kernel
theorem dL_isStep_730 : decode cL_isStep 730 = .ok (.iconst 4, 1) := by decide +kernel
theorem dL_isStep_731 : decode cL_isStep 731 = .ok (.invokestatic 15, 3) := by decide +kernel
theorem dL_isStep_734 : decode cL_isStep 734 = .ok (.istore 13, 2) := by decide +kernel
theorem dL_isStep_736 : decode cL_isStep 736 = .ok (.iload 9, 2) := by decide +kernel
theorem dL_isStep_738 : decode cL_isStep 738 = .ok (.ifCond .eq 70, 3) := by decide +kernel
theorem dL_isStep_741 : decode cL_isStep 741 = .ok (.aload_n 0, 1) := by decide +kernel
theorem dL_isStep_742 : decode cL_isStep 742 = .ok (.iload 12, 2) := by decide +kernel
theorem dL_isStep_744 : decode cL_isStep 744 = .ok (.invokestatic 55, 3) := by decide +kernel
theorem dL_isStep_747 : decode cL_isStep 747 = .ok (.ifCond .eq 61, 3) := by decide +kernel
theorem dL_isStep_750 : decode cL_isStep 750 = .ok (.aload_n 1, 1) := by decide +kernel
theorem dL_isStep_751 : decode cL_isStep 751 = .ok (.bipush 99, 2) := by decide +kernel
theorem dL_isStep_753 : decode cL_isStep 753 = .ok (.iload 12, 2) := by decide +kernel
theorem dL_isStep_755 : decode cL_isStep 755 = .ok (.isub, 1) := by decide +kernel
theorem dL_isStep_756 : decode cL_isStep 756 = .ok (.invokestatic 55, 3) := by decide +kernel
theorem dL_isStep_759 : decode cL_isStep 759 = .ok (.ifCond .eq 49, 3) := by decide +kernel
theorem dL_isStep_762 : decode cL_isStep 762 = .ok (.iload 13, 2) := by decide +kernel
theorem dL_isStep_764 : decode cL_isStep 764 = .ok (.iconst 2, 1) := by decide +kernel
theorem dL_isStep_765 : decode cL_isStep 765 = .ok (.if_icmp .lt 39, 3) := by decide +kernel
theorem dL_isStep_768 : decode cL_isStep 768 = .ok (.aload_n 0, 1) := by decide +kernel
theorem dL_isStep_769 : decode cL_isStep 769 = .ok (.bipush 120, 2) := by decide +kernel
theorem dL_isStep_771 : decode cL_isStep 771 = .ok (.invokevirtual 9, 3) := by decide +kernel
theorem dL_isStep_774 : decode cL_isStep 774 = .ok (.ifCond .le 34, 3) := by decide +kernel
theorem dL_isStep_777 : decode cL_isStep 777 = .ok (.aload_n 1, 1) := by decide +kernel
theorem dL_isStep_778 : decode cL_isStep 778 = .ok (.bipush 120, 2) := by decide +kernel
theorem dL_isStep_780 : decode cL_isStep 780 = .ok (.invokevirtual 9, 3) := by decide +kernel
theorem dL_isStep_783 : decode cL_isStep 783 = .ok (.ifCond .le 25, 3) := by decide +kernel
theorem dL_isStep_786 : decode cL_isStep 786 = .ok (.aload_n 0, 1) := by decide +kernel
theorem dL_isStep_787 : decode cL_isStep 787 = .ok (.iload 13, 2) := by decide +kernel
theorem dL_isStep_789 : decode cL_isStep 789 = .ok (.invokestatic 55, 3) := by decide +kernel
theorem dL_isStep_792 : decode cL_isStep 792 = .ok (.ifCond .eq 16, 3) := by decide +kernel
theorem dL_isStep_795 : decode cL_isStep 795 = .ok (.aload_n 1, 1) := by decide +kernel
theorem dL_isStep_796 : decode cL_isStep 796 = .ok (.iload 13, 2) := by decide +kernel
theorem dL_isStep_798 : decode cL_isStep 798 = .ok (.invokestatic 55, 3) := by decide +kernel
theorem dL_isStep_801 : decode cL_isStep 801 = .ok (.ifCond .eq 7, 3) := by decide +kernel
theorem dL_isStep_804 : decode cL_isStep 804 = .ok (.iconst 1, 1) := by decide +kernel
theorem dL_isStep_805 : decode cL_isStep 805 = .ok (.goto 4, 3) := by decide +kernel
theorem dL_isStep_808 : decode cL_isStep 808 = .ok (.iconst 0, 1) := by decide +kernel
theorem dL_isStep_809 : decode cL_isStep 809 = .ok (.istore 9, 2) := by decide +kernel
theorem dL_isStep_811 : decode cL_isStep 811 = .ok (.iinc 10 1, 3) := by decide +kernel
theorem dL_isStep_814 : decode cL_isStep 814 = .ok (.goto (-222), 3) := by decide +kernel
theorem dL_isStep_817 : decode cL_isStep 817 = .ok (.aload_n 0, 1) := by decide +kernel
theorem dL_isStep_818 : decode cL_isStep 818 = .ok (.invokevirtual 59, 3) := by decide +kernel
theorem dL_isStep_821 : decode cL_isStep 821 = .ok (.istore 10, 2) := by decide +kernel
theorem dL_isStep_823 : decode cL_isStep 823 = .ok (.iload 9, 2) := by decide +kernel
theorem dL_isStep_825 : decode cL_isStep 825 = .ok (.ifCond .eq 48, 3) := by decide +kernel
theorem dL_isStep_828 : decode cL_isStep 828 = .ok (.iload 10, 2) := by decide +kernel
theorem dL_isStep_830 : decode cL_isStep 830 = .ok (.aload_n 1, 1) := by decide +kernel
theorem dL_isStep_831 : decode cL_isStep 831 = .ok (.invokevirtual 59, 3) := by decide +kernel
theorem dL_isStep_834 : decode cL_isStep 834 = .ok (.if_icmp .ne 39, 3) := by decide +kernel
theorem dL_isStep_837 : decode cL_isStep 837 = .ok (.iload 10, 2) := by decide +kernel
theorem dL_isStep_839 : decode cL_isStep 839 = .ok (.ifCond .ge 30, 3) := by decide +kernel
theorem dL_isStep_842 : decode cL_isStep 842 = .ok (.iload 10, 2) := by decide +kernel
theorem dL_isStep_844 : decode cL_isStep 844 = .ok (.bipush (-3), 2) := by decide +kernel
theorem dL_isStep_846 : decode cL_isStep 846 = .ok (.if_icmp .ne 27, 3) := by decide +kernel
theorem dL_isStep_849 : decode cL_isStep 849 = .ok (.aload_n 0, 1) := by decide +kernel
theorem dL_isStep_850 : decode cL_isStep 850 = .ok (.iconst 5, 1) := by decide +kernel
theorem dL_isStep_851 : decode cL_isStep 851 = .ok (.invokevirtual 21, 3) := by decide +kernel
theorem dL_isStep_854 : decode cL_isStep 854 = .ok (.iload 7, 2) := by decide +kernel
theorem dL_isStep_856 : decode cL_isStep 856 = .ok (.if_icmp .ne 17, 3) := by decide +kernel
theorem dL_isStep_859 : decode cL_isStep 859 = .ok (.aload_n 0, 1) := by decide +kernel
theorem dL_isStep_860 : decode cL_isStep 860 = .ok (.iconst 0, 1) := by decide +kernel
theorem dL_isStep_861 : decode cL_isStep 861 = .ok (.invokevirtual 21, 3) := by decide +kernel
theorem dL_isStep_864 : decode cL_isStep 864 = .ok (.iload 6, 2) := by decide +kernel
theorem dL_isStep_866 : decode cL_isStep 866 = .ok (.if_icmp .ne 7, 3) := by decide +kernel
theorem dL_isStep_869 : decode cL_isStep 869 = .ok (.iconst 1, 1) := by decide +kernel
theorem dL_isStep_870 : decode cL_isStep 870 = .ok (.goto 4, 3) := by decide +kernel
theorem dL_isStep_873 : decode cL_isStep 873 = .ok (.iconst 0, 1) := by decide +kernel
theorem dL_isStep_874 : decode cL_isStep 874 = .ok (.ireturn, 1) := by decide +kernel
theorem dL_isStep_875 : decode cL_isStep 875 = .ok (.iconst 1, 1) := by decide +kernel
theorem dL_isStep_876 : decode cL_isStep 876 = .ok (.iload_n 3, 1) := by decide +kernel
theorem dL_isStep_877 : decode cL_isStep 877 = .ok (.iload 4, 2) := by decide +kernel
theorem dL_isStep_879 : decode cL_isStep 879 = .ok (.iconst 4, 1) := by decide +kernel
theorem dL_isStep_880 : decode cL_isStep 880 = .ok (.invokestatic 15, 3) := by decide +kernel
theorem dL_isStep_883 : decode cL_isStep 883 = .ok (.ifCond .ne 9, 3) := by decide +kernel
theorem dL_isStep_886 : decode cL_isStep 886 = .ok (.sipush 500, 3) := by decide +kernel
theorem dL_isStep_889 : decode cL_isStep 889 = .ok (.goto 5, 3) := by decide +kernel
theorem dL_isStep_892 : decode cL_isStep 892 = .ok (.bipush 40, 2) := by decide +kernel
theorem dL_isStep_894 : decode cL_isStep 894 = .ok (.invokestatic 15, 3) := by decide +kernel
theorem dL_isStep_897 : decode cL_isStep 897 = .ok (.iadd, 1) := by decide +kernel
theorem dL_isStep_898 : decode cL_isStep 898 = .ok (.istore 8, 2) := by decide +kernel
theorem dL_isStep_900 : decode cL_isStep 900 = .ok (.aload_n 0, 1) := by decide +kernel
theorem dL_isStep_901 : decode cL_isStep 901 = .ok (.bipush 7, 2) := by decide +kernel
theorem dL_isStep_903 : decode cL_isStep 903 = .ok (.invokevirtual 21, 3) := by decide +kernel
theorem dL_isStep_906 : decode cL_isStep 906 = .ok (.istore 9, 2) := by decide +kernel
theorem dL_isStep_908 : decode cL_isStep 908 = .ok (.aload_n 0, 1) := by decide +kernel
theorem dL_isStep_909 : decode cL_isStep 909 = .ok (.iload 8, 2) := by decide +kernel
theorem dL_isStep_911 : decode cL_isStep 911 = .ok (.invokevirtual 62, 3) := by decide +kernel
theorem dL_isStep_914 : decode cL_isStep 914 = .ok (.istore 10, 2) := by decide +kernel
theorem dL_isStep_916 : decode cL_isStep 916 = .ok (.iload 10, 2) := by decide +kernel
theorem dL_isStep_918 : decode cL_isStep 918 = .ok (.aload_n 1, 1) := by decide +kernel
theorem dL_isStep_919 : decode cL_isStep 919 = .ok (.iload 8, 2) := by decide +kernel
theorem dL_isStep_921 : decode cL_isStep 921 = .ok (.invokevirtual 62, 3) := by decide +kernel
theorem dL_isStep_924 : decode cL_isStep 924 = .ok (.if_icmp .ne 34, 3) := by decide +kernel
theorem dL_isStep_927 : decode cL_isStep 927 = .ok (.aload_n 0, 1) := by decide +kernel
theorem dL_isStep_928 : decode cL_isStep 928 = .ok (.bipush 7, 2) := by decide +kernel
theorem dL_isStep_930 : decode cL_isStep 930 = .ok (.invokevirtual 21, 3) := by decide +kernel
theorem dL_isStep_933 : decode cL_isStep 933 = .ok (.iload 9, 2) := by decide +kernel
theorem dL_isStep_935 : decode cL_isStep 935 = .ok (.iload 10, 2) := by decide +kernel
theorem dL_isStep_937 : decode cL_isStep 937 = .ok (.iadd, 1) := by decide +kernel
theorem dL_isStep_938 : decode cL_isStep 938 = .ok (.if_icmp .ne 20, 3) := by decide +kernel
theorem dL_isStep_941 : decode cL_isStep 941 = .ok (.aload_n 0, 1) := by decide +kernel
theorem dL_isStep_942 : decode cL_isStep 942 = .ok (.iconst 0, 1) := by decide +kernel
theorem dL_isStep_943 : decode cL_isStep 943 = .ok (.invokevirtual 21, 3) := by decide +kernel
theorem dL_isStep_946 : decode cL_isStep 946 = .ok (.iload 6, 2) := by decide +kernel
theorem dL_isStep_948 : decode cL_isStep 948 = .ok (.iload 8, 2) := by decide +kernel
theorem dL_isStep_950 : decode cL_isStep 950 = .ok (.iadd, 1) := by decide +kernel
theorem dL_isStep_951 : decode cL_isStep 951 = .ok (.if_icmp .ne 7, 3) := by decide +kernel
theorem dL_isStep_954 : decode cL_isStep 954 = .ok (.iconst 1, 1) := by decide +kernel
theorem dL_isStep_955 : decode cL_isStep 955 = .ok (.goto 4, 3) := by decide +kernel
theorem dL_isStep_958 : decode cL_isStep 958 = .ok (.iconst 0, 1) := by decide +kernel
theorem dL_isStep_959 : decode cL_isStep 959 = .ok (.ireturn, 1) := by decide +kernel
theorem dL_areAlike_0 : decode cL_areAlike 0 = .ok (.iconst 1, 1) := by decide +kernel
theorem dL_areAlike_1 : decode cL_areAlike 1 = .ok (.istore_n 2, 1) := by decide +kernel
theorem dL_areAlike_2 : decode cL_areAlike 2 = .ok (.iconst 0, 1) := by decide +kernel
theorem dL_areAlike_3 : decode cL_areAlike 3 = .ok (.istore_n 3, 1) := by decide +kernel
theorem dL_areAlike_4 : decode cL_areAlike 4 = .ok (.iload_n 3, 1) := by decide +kernel
theorem dL_areAlike_5 : decode cL_areAlike 5 = .ok (.bipush 12, 2) := by decide +kernel
theorem dL_areAlike_7 : decode cL_areAlike 7 = .ok (.if_icmp .ge 32, 3) := by decide +kernel
theorem dL_areAlike_10 : decode cL_areAlike 10 = .ok (.iload_n 2, 1) := by decide +kernel
theorem dL_areAlike_11 : decode cL_areAlike 11 = .ok (.ifCond .eq 20, 3) := by decide +kernel
theorem dL_areAlike_14 : decode cL_areAlike 14 = .ok (.aload_n 0, 1) := by decide +kernel
theorem dL_areAlike_15 : decode cL_areAlike 15 = .ok (.iload_n 3, 1) := by decide +kernel
theorem dL_areAlike_16 : decode cL_areAlike 16 = .ok (.invokevirtual 21, 3) := by decide +kernel
theorem dL_areAlike_19 : decode cL_areAlike 19 = .ok (.aload_n 1, 1) := by decide +kernel
theorem dL_areAlike_20 : decode cL_areAlike 20 = .ok (.iload_n 3, 1) := by decide +kernel
theorem dL_areAlike_21 : decode cL_areAlike 21 = .ok (.invokevirtual 21, 3) := by decide +kernel
theorem dL_areAlike_24 : decode cL_areAlike 24 = .ok (.if_icmp .ne 7, 3) := by decide +kernel
theorem dL_areAlike_27 : decode cL_areAlike 27 = .ok (.iconst 1, 1) := by decide +kernel
theorem dL_areAlike_28 : decode cL_areAlike 28 = .ok (.goto 4, 3) := by decide +kernel
theorem dL_areAlike_31 : decode cL_areAlike 31 = .ok (.iconst 0, 1) := by decide +kernel
theorem dL_areAlike_32 : decode cL_areAlike 32 = .ok (.istore_n 2, 1) := by decide +kernel
theorem dL_areAlike_33 : decode cL_areAlike 33 = .ok (.iinc 3 1, 3) := by decide +kernel
theorem dL_areAlike_36 : decode cL_areAlike 36 = .ok (.goto (-32), 3) := by decide +kernel
theorem dL_areAlike_39 : decode cL_areAlike 39 = .ok (.iconst 0, 1) := by decide +kernel
theorem dL_areAlike_40 : decode cL_areAlike 40 = .ok (.istore_n 3, 1) := by decide +kernel
theorem dL_areAlike_41 : decode cL_areAlike 41 = .ok (.iload_n 3, 1) := by decide +kernel
theorem dL_areAlike_42 : decode cL_areAlike 42 = .ok (.iconst 2, 1) := by decide +kernel
